/-! the law: its loops -/
theorem sk_q_iaddG {M pc : Nat} {cc : ByteArray} {lv st : List sn_V} {h : sn_H} {Q : Option sn_V → sn_H → Prop} {x y : Int} (hb : sn_bc M = cc) (hd : decode cc pc = .ok (.iadd, 1)) (kk : ∀ v : Int, sn_Wp M (pc + 1) lv (sn_i v :: st) h Q) : sn_Wp M pc lv (sn_i y :: sn_i x :: st) h Q := sn_q_iaddW hb hd (kk _)
theorem sk_belowG {h : sn_H} {Q : Option sn_V → sn_H → Prop} {x n : Int} (h0 : 0 < n) (h9 : n ≤ 2147483647) (kk : ∀ v : Int, 0 ≤ v → v < n → Q (some (sn_i v)) h) : sn_Wp 11 0 [sn_i x, sn_i n] [] h Q := sk_below h0 (kk _ (sk_bl2_bd h0 h9).1 (sk_bl2_bd h0 h9).2)
theorem sk_cellG {n k : Nat} {Y : Nat → Nat × Nat} {X : Nat → Nat → sn_V} {σ : Int → Int → Int} {Q : Option sn_V → sn_H → Prop} {x : Int} (hsc : sk_sc Y X) (h0 : 0 ≤ x) (h9 : x ≤ 1000000) (kk : ∀ v : Int, Q (some (sn_i v)) (sn_hh n k Y σ X)) : sn_Wp 10 0 [sn_r 0, sn_i x] [] (sn_hh n k Y σ X) Q := sk_cell hsc h0 h9 (kk _)
theorem sk_ofSong4x {n k : Nat} {Y : Nat → Nat × Nat} {X : Nat → Nat → sn_V} {σ : Int → Int → Int} {Q : Option sn_V → sn_H → Prop} {s : Int} (hYX : sn_YX Y X) (hI : sk_Iv σ) (h1 : 0 ≤ s) (h2 : s < 8) (h3 : σ 10 s ≠ 0) (kk : ∀ (τ : Int → Int → Int) (e : Int), sk_q σ τ → (e = 0 → τ 11 s = 0) → Q (some (sn_i e)) (sn_hh n k Y τ X)) : sn_Wp 75 0 [sn_r 2, sn_i s, sn_i 4] [] (sn_hh n k Y σ X) Q := sk_ofSong4 hYX hI h1 h2 h3 (fun τ hq => kk τ _ hq (fun e => by
  by_cases z : τ 11 s = 0
  · exact z
  · rw [if_neg z] at e; omega))
/-- at the voting of a year -/
def sk_Yv (N : Int) (bed : Int → Int) (lim aud y S : Int) (σ : Int → Int → Int) : Prop := sk_Iv σ ∧ sk_Yp N bed lim aud y y σ ∧ σ 2 10 = 1 ∧ σ 9 0 = S ∧ 3 ≤ σ 9 0 - σ 9 1 ∧ (∀ s, 0 ≤ s → s < 8 → σ 228 s = 0) ∧ (∀ s, 0 ≤ s → s < 8 → σ 230 s = 0) ∧ σ 217 7 = 0
theorem sk_Yv_t {N : Int} {bed : Int → Int} {lim aud y S : Int} {σ τ : Int → Int → Int} (h : sk_Yv N bed lim aud y S σ) (hI : sk_Iv τ) (g : ∀ a c, (a = 3 ∨ a = 5 ∨ a = 7 ∨ a = 8 ∨ a = 211 ∨ (a = 2 ∧ 9 ≤ c ∧ c ≤ 10) ∨ (a = 9 ∧ c = 0) ∨ a = 217 ∨ a = 228 ∨ a = 230) → τ a c = σ a c) (h3 : 3 ≤ τ 9 0 - τ 9 1) : sk_Yv N bed lim aud y S τ := by
  obtain ⟨-, h1, h2, h4, -, h5, h6, h7⟩ := h
  exact ⟨hI, sk_Yp_t h1 (fun a c q => g a c (by omega)), (g _ _ (by omega)).trans h2, (g _ _ (by omega)).trans h4, h3, fun s a1 a2 => (g _ _ (by omega)).trans (h5 s a1 a2), fun s a1 a2 => (g _ _ (by omega)).trans (h6 s a1 a2), (g _ _ (by omega)).trans h7⟩
theorem sk_Yv_q {N : Int} {bed : Int → Int} {lim aud y S : Int} {σ τ : Int → Int → Int} (h : sk_Yv N bed lim aud y S σ) (hq : sk_q σ τ) : sk_Yv N bed lim aud y S τ := sk_Yv_t h hq.2.2.1 (fun a c g => hq.1 a c (by omega) (by omega)) (by rw [hq.1 9 0 (by omega) (by omega), hq.1 9 1 (by omega) (by omega)]; exact h.2.2.2.2.1)
/-- at the entering of a year, before the land k -/
def sk_Ye (N : Int) (bed : Int → Int) (lim aud y : Int) (k : Nat) (σ : Int → Int → Int) : Prop := sk_Iv σ ∧ sk_Yp N bed lim aud y y σ ∧ σ 2 10 = 0 ∧ (∀ s, (k : Int) ≤ s → s < 8 → σ 10 s = 0) ∧ ((k : Int) ≤ 3 → σ 9 0 = (k : Int)) ∧ (3 ≤ (k : Int) → 3 ≤ σ 9 0) ∧ σ 9 1 = 0 ∧ (∀ b, 0 ≤ b → b < 40 → σ 61 b = 0) ∧ (∀ t, 0 ≤ t → t < 80 → σ 178 t = 0) ∧ (∀ s, 0 ≤ s → s < 8 → σ 228 s = 0) ∧ (∀ s, 0 ≤ s → s < 8 → σ 230 s = 0) ∧ σ 217 7 = 0
theorem sk_Ye_t {N : Int} {bed : Int → Int} {lim aud y : Int} {k : Nat} {σ τ : Int → Int → Int} (h : sk_Ye N bed lim aud y k σ) (hI : sk_Iv τ) (g : ∀ a c, ¬ (a = 10 ∧ c = (k : Int)) → (a < 65 ∨ (96 ≤ a ∧ a < 180) ∨ a = 211 ∨ 217 ≤ a) → a ≠ 4 → a ≠ 6 → a ≠ 12 → a ≠ 13 → a ≠ 14 → a ≠ 15 → a ≠ 16 → ¬ (a = 9 ∧ c = 0) → ¬ (a = 2 ∧ c = 15) → τ a c = σ a c) (h9 : (τ 9 0 = σ 9 0 ∧ 3 ≤ (k : Int)) ∨ τ 9 0 = σ 9 0 + 1) : sk_Ye N bed lim aud y (k + 1) τ := by
  obtain ⟨-, h1, h2, h3, h4, h5, h6, h7, h8, h10, h11, h12⟩ := h
  refine ⟨hI, sk_Yp_t h1 (fun a c q => g a c (by omega) (by omega) (by omega) (by omega) (by omega) (by omega) (by omega) (by omega) (by omega) (by omega) (by omega)), ?_, fun s a1 a2 => ?_, fun q => ?_, fun q => ?_, ?_, fun s a1 a2 => ?_, fun s a1 a2 => ?_, fun s a1 a2 => ?_, fun s a1 a2 => ?_, ?_⟩
  · rw [g _ _ (by omega) (by omega) (by omega) (by omega) (by omega) (by omega) (by omega) (by omega) (by omega) (by omega) (by omega)]; exact h2
  · rw [g _ _ (by omega) (by omega) (by omega) (by omega) (by omega) (by omega) (by omega) (by omega) (by omega) (by omega) (by omega)]; exact h3 s (by omega) a2
  · omega
  · by_cases e : 3 ≤ (k : Int)
    · have := h5 e; omega
    · have := h4 (by omega); omega
  · rw [g _ _ (by omega) (by omega) (by omega) (by omega) (by omega) (by omega) (by omega) (by omega) (by omega) (by omega) (by omega)]; exact h6
  · rw [g _ _ (by omega) (by omega) (by omega) (by omega) (by omega) (by omega) (by omega) (by omega) (by omega) (by omega) (by omega)]; exact h7 s a1 a2
  · rw [g _ _ (by omega) (by omega) (by omega) (by omega) (by omega) (by omega) (by omega) (by omega) (by omega) (by omega) (by omega)]; exact h8 s a1 a2
  · rw [g _ _ (by omega) (by omega) (by omega) (by omega) (by omega) (by omega) (by omega) (by omega) (by omega) (by omega) (by omega)]; exact h10 s a1 a2
  · rw [g _ _ (by omega) (by omega) (by omega) (by omega) (by omega) (by omega) (by omega) (by omega) (by omega) (by omega) (by omega)]; exact h11 s a1 a2
  · rw [g _ _ (by omega) (by omega) (by omega) (by omega) (by omega) (by omega) (by omega) (by omega) (by omega) (by omega) (by omega)]; exact h12
theorem sk_closest0 {n k : Nat} {Y : Nat → Nat × Nat} {X : Nat → Nat → sn_V} {σ : Int → Int → Int} {Q : Option sn_V → sn_H → Prop} (hph : σ 2 10 ≠ 2) (kk : Q (some (sn_i (-1))) (sn_hh n k Y σ X)) : sn_Wp 99 0 [sn_r 2, sn_u, sn_u, sn_u, sn_u] [] (sn_hh n k Y σ X) Q := by
  refine sn_q_iconst sn_bc_99 dX9_closestLand_0 rfl ?_
  refine sn_q_istn1 sn_bc_99 dX9_closestLand_1 rfl ?_
  refine sn_q_iconst sn_bc_99 dX9_closestLand_2 rfl ?_
  refine sn_q_istn2 sn_bc_99 dX9_closestLand_3 rfl ?_
  refine sn_q_iconst sn_bc_99 dX9_closestLand_4 rfl ?_
  refine sn_q_istn3 sn_bc_99 dX9_closestLand_5 rfl ?_
  refine sn_q_aloadn sn_bc_99 dX9_closestLand_6 rfl ?_
  refine sn_q_geti (P := 2) (J := 10) sn_bc_99 dX9_closestLand_7 sn_oc_99 sn_pf_9_84 (by decide) rfl rfl rfl rfl ?_
  refine sn_q_iconst sn_bc_99 dX9_closestLand_10 rfl ?_
  refine sn_q_icne (t := 76) sn_bc_99 dX9_closestLand_11 rfl (fun c_11 => ?_) (fun c_11 => ?_)
  · refine sn_q_iloadn sn_bc_99 dX9_closestLand_76 rfl ?_
    refine sn_q_iret sn_bc_99 dX9_closestLand_77 rfl ?_
    exact kk
  · exfalso; omega
theorem sk_nextRead0 {n k : Nat} {Y : Nat → Nat × Nat} {X : Nat → Nat → sn_V} {σ : Int → Int → Int} {Q : Option sn_V → sn_H → Prop} (hYX : sn_YX Y X) (hI : sk_Iv σ) (hph : σ 2 10 ≠ 2) (kk : ∀ τ, sk_q σ τ → Q (some (sn_i (-1))) (sn_hh n k Y τ X)) : sn_Wp 98 0 [sn_r 2] [] (sn_hh n k Y σ X) Q := by
  refine sn_q_aloadn sn_bc_98 dX9_nextRead_0 rfl ?_
  refine sn_q_invV sn_bc_98 dX9_nextRead_1 sn_oc_98 sn_pv_9_255 (by decide) rfl (by decide) (sn_h1 (by decide)) rfl rfl rfl rfl (sk_count hYX hI (fun τ hq => ?_))
  refine sn_q_aloadn sn_bc_98 dX9_nextRead_4 rfl ?_
  refine sn_q_invV sn_bc_98 dX9_nextRead_5 sn_oc_98 sn_pv_9_359 (by decide) rfl (by decide) (sn_h1 (by decide)) rfl rfl rfl rfl (sk_closest0 (by rw [hq.1 2 10 (by omega) (by omega)]; exact hph) ?_)
  refine sn_q_iret sn_bc_98 dX9_nextRead_8 rfl ?_
  exact kk τ hq
theorem sk_lw_lands {k0 : Nat} {Y0 : Nat → Nat × Nat} {X0 : Nat → Nat → sn_V} {Q : Option sn_V → sn_H → Prop} {N lim aud y : Int} {qB : Nat} (hsc : sk_sc Y0 X0) (hN3 : 3 ≤ N) (hN6 : N ≤ 6) (hqB : 231 ≤ qB) : ∀ (d j : Nat) (n k : Nat) (Y : Nat → Nat × Nat) (X : Nat → Nat → sn_V) (bed : Int → Int) (σ : Int → Int → Int), (j : Int) + d = N → sk_ext 0 Y0 X0 n Y X → sk_ar n Y X qB N.toNat bed → sk_Iv σ → σ 3 0 = (j : Int) → (∀ l, 0 ≤ l → l < (j : Int) → σ 5 l = bed l) → (∀ a c, a ≠ 4 → a ≠ 5 → a ≠ 6 → ¬ (a = 3 ∧ c = 0) → ¬ (a = 2 ∧ c = 15) → σ a c = sk_s0 a c) → (∀ (X : Nat → Nat → sn_V) (bed : Int → Int) (σ : Int → Int → Int) (j : Int), sk_ext 0 Y0 X0 n Y X → sk_ar n Y X qB N.toNat bed → sk_Iv σ → σ 3 0 = N → (∀ l, 0 ≤ l → l < N → σ 5 l = bed l) → (∀ a c, a ≠ 4 → a ≠ 5 → a ≠ 6 → ¬ (a = 3 ∧ c = 0) → ¬ (a = 2 ∧ c = 15) → σ a c = sk_s0 a c) → sn_Wp 129 82 [sn_r 0, sn_r 2, sn_i N, sn_r qB, sn_i j, sn_u, sn_u, sn_u, sn_u, sn_u, sn_u, sn_u, sn_u, sn_u, sn_u, sn_u, sn_u, sn_u, sn_u] [] (sn_hh n k Y σ X) Q) → sn_Wp 129 27 [sn_r 0, sn_r 2, sn_i N, sn_r qB, sn_i (j : Int), sn_u, sn_u, sn_u, sn_u, sn_u, sn_u, sn_u, sn_u, sn_u, sn_u, sn_u, sn_u, sn_u, sn_u] [] (sn_hh n k Y σ X) Q := by
  intro d
  induction d with
  | zero =>
    intro j n k Y X bed σ hd hE hB hI h3 h5 hf K
    refine sn_q_iload sn_bc_129 dL_law_27 rfl ?_
    refine sn_q_iloadn sn_bc_129 dL_law_29 rfl ?_
    refine sn_q_icge (t := 82) sn_bc_129 dL_law_30 rfl (fun c_30 => ?_) (fun c_30 => ?_)
    · exact K X bed σ _ hE hB hI (by omega) (fun l a1 a2 => h5 l a1 (by omega)) hf
    · exfalso; omega
  | succ d ih =>
    intro j n k Y X bed σ hd hE hB hI h3 h5 hf K
    have hph : σ 2 10 = 0 := hf 2 10 (by omega) (by omega) (by omega) (by omega) (by omega)
    refine sn_q_iload sn_bc_129 dL_law_27 rfl ?_
    refine sn_q_iloadn sn_bc_129 dL_law_29 rfl ?_
    refine sn_q_icge (t := 82) sn_bc_129 dL_law_30 rfl (fun c_30 => ?_) (fun c_30 => ?_)
    · exfalso; omega
    · refine sn_q_aloadn sn_bc_129 dL_law_33 rfl ?_
      refine sn_q_iload sn_bc_129 dL_law_34 rfl ?_
      refine sn_q_aloadn sn_bc_129 dL_law_36 rfl ?_
      refine sn_q_iload sn_bc_129 dL_law_37 rfl ?_
      refine sn_q_invS sn_bc_129 dL_law_39 sn_oc_129 sn_px_10_12 sn_ps_10_12 (by decide) rfl rfl rfl (sk_cellG (sk_ext_sc hE hsc) (by omega) (by omega) (fun v39 => ?_))
      refine sn_q_iconst sn_bc_129 dL_law_42 rfl ?_
      refine sn_q_ishr sn_bc_129 dL_law_43 ?_
      refine sn_q_sipush sn_bc_129 dL_law_44 rfl ?_
      refine sn_q_invS sn_bc_129 dL_law_47 sn_oc_129 sn_px_10_18 sn_ps_10_18 (by decide) rfl rfl rfl (sk_belowG (by omega) (by omega) (fun v47 a47 b47 => ?_))
      refine sk_l_iast hB sn_bc_129 dL_law_50 (by omega) (by omega) (fun hB => ?_)
      have hE := sk_ext_v hE hB (by omega)
      refine sn_q_aloadn sn_bc_129 dL_law_51 rfl ?_
      refine sn_q_aloadn sn_bc_129 dL_law_52 rfl ?_
      refine sn_q_iload sn_bc_129 dL_law_53 rfl ?_
      refine sn_q_invS sn_bc_129 dL_law_55 sn_oc_129 sn_px_10_12 sn_ps_10_12 (by decide) rfl rfl rfl (sk_cellG (sk_ext_sc hE hsc) (by omega) (by omega) (fun v55 => ?_))
      refine sn_q_iconst sn_bc_129 dL_law_58 rfl ?_
      refine sn_q_invS sn_bc_129 dL_law_59 sn_oc_129 sn_px_10_18 sn_ps_10_18 (by decide) rfl rfl rfl (sk_belowG (by omega) (by omega) (fun v59 a59 b59 => ?_))
      refine sn_q_aloadn sn_bc_129 dL_law_62 rfl ?_
      refine sn_q_iload sn_bc_129 dL_law_63 rfl ?_
      refine sk_l_iald hB sn_bc_129 dL_law_65 (by omega) (by omega) ?_
      rw [if_pos rfl]
      refine sn_q_invV sn_bc_129 dL_law_66 sn_oc_129 sn_pv_10_22 (by decide) rfl (by decide) (sn_h1 (by decide)) rfl rfl rfl rfl (sk_land hI hph (by omega) (by omega) (by omega) (by omega) (by omega) (fun τ hIτ hft h30 h5t h5o => ?_))
      have hfτ := hf
      refine sn_q_iload sn_bc_129 dL_law_69 rfl ?_
      refine sn_q_iceq (t := 76) sn_bc_129 dL_law_71 rfl (fun c_71 => ?_) (fun c_71 => ?_)
      · refine sn_q_iincL sn_bc_129 dL_law_76 (show (4 : Nat) < 19 from by decide) rfl rfl (by omega) (by omega) rfl ?_
        refine sn_q_goto (t := 27) sn_bc_129 dL_law_79 rfl ?_
        refine ih (j + 1) _ _ _ _ _ τ (by omega) hE hB hIτ (by omega) (fun l a1 a2 => ?_) (fun a c g1 g2 g3 g4 g5 => (hft a c g1 g2 g3 g4 g5).trans (hf a c g1 g2 g3 g4 g5)) K
        (try dsimp only)
        by_cases e : l = (j : Int)
        · rw [if_pos e, e]
          rw [h3] at h5t
          exact h5t
        · rw [if_neg e, h5o l (by omega)]
          exact h5 l a1 (by omega)
      · exfalso; omega
theorem sk_lw_songs {k0 : Nat} {Y0 : Nat → Nat × Nat} {X0 : Nat → Nat → sn_V} {Q : Option sn_V → sn_H → Prop} {N lim aud y : Int} {qB : Nat} {n k : Nat} {Y : Nat → Nat × Nat} {X : Nat → Nat → sn_V} {bed : Int → Int} {g8 g9 g10 g11 g12 g13 g14 g15 g16 g17 g18 : sn_V} (hsc : sk_sc Y0 X0) (hN3 : 3 ≤ N) (hN6 : N ≤ 6) (hy0 : 0 ≤ y) (hy1 : y ≤ 1) (hE : sk_ext 0 Y0 X0 n Y X) (K : ∀ (j : Int) (σ : Int → Int → Int), sk_Ye N bed lim aud y N.toNat σ → sn_Wp 129 237 [sn_r 0, sn_r 2, sn_i N, sn_r qB, sn_i lim, sn_i aud, sn_i y, sn_i j, g8, g9, g10, g11, g12, g13, g14, g15, g16, g17, g18] [] (sn_hh n k Y σ X) Q) : ∀ (d j : Nat) (σ : Int → Int → Int), (j : Int) + d = N → sk_Ye N bed lim aud y j σ → sn_Wp 129 158 [sn_r 0, sn_r 2, sn_i N, sn_r qB, sn_i lim, sn_i aud, sn_i y, sn_i (j : Int), g8, g9, g10, g11, g12, g13, g14, g15, g16, g17, g18] [] (sn_hh n k Y σ X) Q := by
  intro d
  induction d with
  | zero =>
    intro j σ hd hW
    have hjN : j = N.toNat := by omega
    refine sn_q_iload sn_bc_129 dL_law_158 rfl ?_
    refine sn_q_iloadn sn_bc_129 dL_law_160 rfl ?_
    refine sn_q_icge (t := 237) sn_bc_129 dL_law_161 rfl (fun c_161 => ?_) (fun c_161 => ?_)
    · rw [hjN] at hW
      exact K _ σ hW
    · exfalso; omega
  | succ d ih =>
    intro j σ hd hW
    have hI := hW.1
    have hph := hW.2.2.1
    have hYp := hW.2.1
    have hy9 := hYp.1
    have hN0 := hYp.2.1
    have h2110 := hYp.2.2.2.1
    have h2111 := hYp.2.2.2.2.1
    have hn := hW.2.2.2.1 (j : Int) (by omega) (by omega)
    have h61 := hW.2.2.2.2.2.2.2.1
    refine sn_q_iload sn_bc_129 dL_law_158 rfl ?_
    refine sn_q_iloadn sn_bc_129 dL_law_160 rfl ?_
    refine sn_q_icge (t := 237) sn_bc_129 dL_law_161 rfl (fun c_161 => ?_) (fun c_161 => ?_)
    · exfalso; omega
    · refine sn_q_iload sn_bc_129 dL_law_164 rfl ?_
      refine sn_q_iconst sn_bc_129 dL_law_166 rfl ?_
      refine sn_q_iclt (t := 186) sn_bc_129 dL_law_167 rfl (fun c_167 => ?_) (fun c_167 => ?_)
      · refine sn_q_aloadn sn_bc_129 dL_law_186 rfl ?_
        refine sn_q_iload sn_bc_129 dL_law_187 rfl ?_
        refine sn_q_bipush sn_bc_129 dL_law_189 rfl ?_
        refine sn_q_aloadn sn_bc_129 dL_law_191 rfl ?_
        refine sn_q_iload sn_bc_129 dL_law_192 rfl ?_
        refine sn_q_iload sn_bc_129 dL_law_194 rfl ?_
        refine sn_q_iadd sn_bc_129 dL_law_196 (by omega) (by omega) ?_
        refine sn_q_invS sn_bc_129 dL_law_197 sn_oc_129 sn_px_10_12 sn_ps_10_12 (by decide) rfl rfl rfl (sk_cellG (sk_ext_sc hE hsc) (by omega) (by omega) (fun v197 => ?_))
        refine sn_q_iconst sn_bc_129 dL_law_200 rfl ?_
        refine sn_q_ishr sn_bc_129 dL_law_201 ?_
        refine sn_q_sipush sn_bc_129 dL_law_202 rfl ?_
        refine sn_q_invS sn_bc_129 dL_law_205 sn_oc_129 sn_px_10_18 sn_ps_10_18 (by decide) rfl rfl rfl (sk_belowG (by omega) (by omega) (fun v205 a205 b205 => ?_))
        refine sn_q_iadd sn_bc_129 dL_law_208 (by omega) (by omega) ?_
        refine sn_q_iconst sn_bc_129 dL_law_209 rfl ?_
        refine sn_q_aloadn sn_bc_129 dL_law_210 rfl ?_
        refine sn_q_iload sn_bc_129 dL_law_211 rfl ?_
        refine sn_q_invS sn_bc_129 dL_law_213 sn_oc_129 sn_px_10_12 sn_ps_10_12 (by decide) rfl rfl rfl (sk_cellG (sk_ext_sc hE hsc) (by omega) (by omega) (fun v213 => ?_))
        refine sn_q_iconst sn_bc_129 dL_law_216 rfl ?_
        refine sn_q_ishr sn_bc_129 dL_law_217 ?_
        refine sn_q_bipush sn_bc_129 dL_law_218 rfl ?_
        refine sn_q_invS sn_bc_129 dL_law_220 sn_oc_129 sn_px_10_18 sn_ps_10_18 (by decide) rfl rfl rfl (sk_belowG (by omega) (by omega) (fun v220 a220 b220 => ?_))
        refine sn_q_invV sn_bc_129 dL_law_223 sn_oc_129 sn_pv_10_29 (by decide) rfl (by decide) (sn_h1 (by decide)) rfl rfl rfl rfl (sk_enter hI hph (by omega) (by omega) hn (by omega) (by omega) (by omega) (by omega) (by omega) (by omega) (by omega) (by omega) (by omega) (by omega) h61 (fun r τ hr hIτ hft h10 h90 => ?_))
        refine sn_q_ifge (t := 231) sn_bc_129 dL_law_226 rfl (fun c_226 => ?_) (fun c_226 => ?_)
        · refine sn_q_iincL sn_bc_129 dL_law_231 (show (7 : Nat) < 19 from by decide) rfl rfl (by omega) (by omega) rfl ?_
          refine sn_q_goto (t := 158) sn_bc_129 dL_law_234 rfl ?_
          first
            | exact ih (j + 1) τ (by omega) (sk_Ye_t hW hIτ (fun a c g1 g2 g3 g4 g5 g6 g7 g8 g9 g10 g11 => hft a c (by omega) (by omega) (by omega) (by omega) (by omega)) (Or.inr h90))
            | exact ih (j + 1) σ (by omega) (sk_Ye_t hW hI (fun a c _ _ _ _ _ _ _ _ _ _ _ => rfl) (Or.inl ⟨rfl, by omega⟩))
        · exfalso; omega
      · refine sn_q_aloadn sn_bc_129 dL_law_170 rfl ?_
        refine sn_q_iload sn_bc_129 dL_law_171 rfl ?_
        refine sn_q_iload sn_bc_129 dL_law_173 rfl ?_
        refine sn_q_iadd sn_bc_129 dL_law_175 (by omega) (by omega) ?_
        refine sn_q_invS sn_bc_129 dL_law_176 sn_oc_129 sn_px_10_12 sn_ps_10_12 (by decide) rfl rfl rfl (sk_cellG (sk_ext_sc hE hsc) (by omega) (by omega) (fun v176 => ?_))
        refine sn_q_iconst sn_bc_129 dL_law_179 rfl ?_
        refine sn_q_invS sn_bc_129 dL_law_180 sn_oc_129 sn_px_10_18 sn_ps_10_18 (by decide) rfl rfl rfl (sk_belowG (by omega) (by omega) (fun v180 a180 b180 => ?_))
        refine sn_q_ifle (t := 231) sn_bc_129 dL_law_183 rfl (fun c_183 => ?_) (fun c_183 => ?_)
        · refine sn_q_iincL sn_bc_129 dL_law_231 (show (7 : Nat) < 19 from by decide) rfl rfl (by omega) (by omega) rfl ?_
          refine sn_q_goto (t := 158) sn_bc_129 dL_law_234 rfl ?_
          first
            | exact ih (j + 1) τ (by omega) (sk_Ye_t hW hIτ (fun a c g1 g2 g3 g4 g5 g6 g7 g8 g9 g10 g11 => hft a c (by omega) (by omega) (by omega) (by omega) (by omega)) (Or.inr h90))
            | exact ih (j + 1) σ (by omega) (sk_Ye_t hW hI (fun a c _ _ _ _ _ _ _ _ _ _ _ => rfl) (Or.inl ⟨rfl, by omega⟩))
        · refine sn_q_aloadn sn_bc_129 dL_law_186 rfl ?_
          refine sn_q_iload sn_bc_129 dL_law_187 rfl ?_
          refine sn_q_bipush sn_bc_129 dL_law_189 rfl ?_
          refine sn_q_aloadn sn_bc_129 dL_law_191 rfl ?_
          refine sn_q_iload sn_bc_129 dL_law_192 rfl ?_
          refine sn_q_iload sn_bc_129 dL_law_194 rfl ?_
          refine sn_q_iadd sn_bc_129 dL_law_196 (by omega) (by omega) ?_
          refine sn_q_invS sn_bc_129 dL_law_197 sn_oc_129 sn_px_10_12 sn_ps_10_12 (by decide) rfl rfl rfl (sk_cellG (sk_ext_sc hE hsc) (by omega) (by omega) (fun v197 => ?_))
          refine sn_q_iconst sn_bc_129 dL_law_200 rfl ?_
          refine sn_q_ishr sn_bc_129 dL_law_201 ?_
          refine sn_q_sipush sn_bc_129 dL_law_202 rfl ?_
          refine sn_q_invS sn_bc_129 dL_law_205 sn_oc_129 sn_px_10_18 sn_ps_10_18 (by decide) rfl rfl rfl (sk_belowG (by omega) (by omega) (fun v205 a205 b205 => ?_))
          refine sn_q_iadd sn_bc_129 dL_law_208 (by omega) (by omega) ?_
          refine sn_q_iconst sn_bc_129 dL_law_209 rfl ?_
          refine sn_q_aloadn sn_bc_129 dL_law_210 rfl ?_
          refine sn_q_iload sn_bc_129 dL_law_211 rfl ?_
          refine sn_q_invS sn_bc_129 dL_law_213 sn_oc_129 sn_px_10_12 sn_ps_10_12 (by decide) rfl rfl rfl (sk_cellG (sk_ext_sc hE hsc) (by omega) (by omega) (fun v213 => ?_))
          refine sn_q_iconst sn_bc_129 dL_law_216 rfl ?_
          refine sn_q_ishr sn_bc_129 dL_law_217 ?_
          refine sn_q_bipush sn_bc_129 dL_law_218 rfl ?_
          refine sn_q_invS sn_bc_129 dL_law_220 sn_oc_129 sn_px_10_18 sn_ps_10_18 (by decide) rfl rfl rfl (sk_belowG (by omega) (by omega) (fun v220 a220 b220 => ?_))
          refine sn_q_invV sn_bc_129 dL_law_223 sn_oc_129 sn_pv_10_29 (by decide) rfl (by decide) (sn_h1 (by decide)) rfl rfl rfl rfl (sk_enter hI hph (by omega) (by omega) hn (by omega) (by omega) (by omega) (by omega) (by omega) (by omega) (by omega) (by omega) (by omega) (by omega) h61 (fun r τ hr hIτ hft h10 h90 => ?_))
          refine sn_q_ifge (t := 231) sn_bc_129 dL_law_226 rfl (fun c_226 => ?_) (fun c_226 => ?_)
          · refine sn_q_iincL sn_bc_129 dL_law_231 (show (7 : Nat) < 19 from by decide) rfl rfl (by omega) (by omega) rfl ?_
            refine sn_q_goto (t := 158) sn_bc_129 dL_law_234 rfl ?_
            first
              | exact ih (j + 1) τ (by omega) (sk_Ye_t hW hIτ (fun a c g1 g2 g3 g4 g5 g6 g7 g8 g9 g10 g11 => hft a c (by omega) (by omega) (by omega) (by omega) (by omega)) (Or.inr h90))
              | exact ih (j + 1) σ (by omega) (sk_Ye_t hW hI (fun a c _ _ _ _ _ _ _ _ _ _ _ => rfl) (Or.inl ⟨rfl, by omega⟩))
          · exfalso; omega
