/-! the law: a year, and all of it -/
theorem sk_Ye_s {N : Int} {bed : Int → Int} {lim aud y : Int} {k : Nat} {σ τ : Int → Int → Int} (h : sk_Ye N bed lim aud y k σ) (hI : sk_Iv τ) (g : ∀ a c, a ≠ 16 → a ≠ 17 → (a < 65 ∨ (96 ≤ a ∧ a < 180) ∨ a = 211 ∨ 217 ≤ a) → ¬ (a = 2 ∧ c = 15) → τ a c = σ a c) : sk_Ye N bed lim aud y k τ := by
  obtain ⟨-, h1, h2, h3, h4, h5, h6, h7, h8, h10, h11, h12⟩ := h
  have e90 := g 9 0 (by omega) (by omega) (by omega) (by omega)
  exact ⟨hI, sk_Yp_t h1 (fun a c q => g a c (by omega) (by omega) (by omega) (by omega)), (g _ _ (by omega) (by omega) (by omega) (by omega)).trans h2, fun s a1 a2 => (g _ _ (by omega) (by omega) (by omega) (by omega)).trans (h3 s a1 a2), fun q => e90.trans (h4 q), fun q => by rw [e90]; exact h5 q, (g _ _ (by omega) (by omega) (by omega) (by omega)).trans h6, fun s a1 a2 => (g _ _ (by omega) (by omega) (by omega) (by omega)).trans (h7 s a1 a2), fun s a1 a2 => (g _ _ (by omega) (by omega) (by omega) (by omega)).trans (h8 s a1 a2), fun s a1 a2 => (g _ _ (by omega) (by omega) (by omega) (by omega)).trans (h10 s a1 a2), fun s a1 a2 => (g _ _ (by omega) (by omega) (by omega) (by omega)).trans (h11 s a1 a2), (g _ _ (by omega) (by omega) (by omega) (by omega)).trans h12⟩
theorem sk_dx_t {σ τ : Int → Int → Int} {f g : Int → Int} {m : Nat} (e : ∀ c, τ 13 c = σ 13 c) (h : ∀ i, g i = f i) : sn_dx τ g m = sn_dx σ f m := by
  have : g = f := funext h
  rw [this]
  unfold sn_dx
  simp only [e]
theorem sk_trt {σ τ : Int → Int → Int} {s p pl i : Int} (e : ∀ c, τ 16 c = σ 16 c) : sk_tr τ s p pl i = sk_tr σ s p pl i := by
  unfold sk_tr
  simp only [e]
theorem sk_hf_t {σ τ : Int → Int → Int} {s pl : Int} (h : sk_hf σ s pl) (e14 : ∀ c, τ 14 c = σ 14 c) (e15 : τ 15 4 = σ 15 4) : sk_hf τ s pl := by
  unfold sk_hf at h ⊢
  rw [e14, e15]
  exact h
theorem sk_Yb_e {N : Int} {bed : Int → Int} {lim aud y : Int} {σ : Int → Int → Int} (h : sk_Yb N bed lim aud y σ) : sk_Ye N bed lim aud y 0 σ := ⟨h.1, h.2.1, h.2.2.1, fun s a1 a2 => h.2.2.2.1 s (by omega) a2, fun _ => h.2.2.2.2.1, fun q => by omega, h.2.2.2.2.2.1, h.2.2.2.2.2.2.1, h.2.2.2.2.2.2.2.1, h.2.2.2.2.2.2.2.2.1, h.2.2.2.2.2.2.2.2.2.1, h.2.2.2.2.2.2.2.2.2.2⟩
theorem sk_vj_s {σ : Int → Int → Int} : sk_vj (sn_s σ 2 10 2) (sn_s σ 2 10 2 3 0).toNat = sk_vj σ (σ 3 0).toNat := by
  rw [sn_s_p (by omega)]
  exact sn_sum_c _ (fun i _ => by
    (try dsimp only)
    rw [sn_s_p (by omega)])
set_option maxHeartbeats 1000000 in
theorem sk_lw_rest {Y0 : Nat → Nat × Nat} {X0 : Nat → Nat → sn_V} {Q : Option sn_V → sn_H → Prop} {N lim aud y S : Int} {qB n k : Nat} {bed : Int → Int} {Y : Nat → Nat × Nat} {X : Nat → Nat → sn_V} {d8 d9 : Int} {g10 g11 g12 g13 g14 g15 g16 g17 g18 : sn_V} {ω : Int → Int → Int} (hYX : sn_YX Y0 X0) (hsc : sk_sc Y0 X0) (hN3 : 3 ≤ N) (hN6 : N ≤ 6) (hl1 : 1 ≤ lim) (hl8 : lim ≤ 8) (hy0 : 0 ≤ y) (hy1 : y ≤ 1) (hqB : 231 ≤ qB) (hE : sk_ext 0 Y0 X0 n Y X) (hB : sk_ar n Y X qB N.toNat bed) (hW : sk_Ye N bed lim aud y N.toNat ω) (hS : ω 9 0 = S) (K : ∀ (n3 k3 : Nat) (Y : Nat → Nat × Nat) (X : Nat → Nat → sn_V) (σ : Int → Int → Int) (g7 g8 g9 g10 g11 g12 g13 g14 g15 g16 g17 g18 : sn_V), n3 ≤ n + 160 → k3 ≤ k + 1200 → sk_ext 0 Y0 X0 n3 Y X → sk_ar n3 Y X qB N.toNat bed → sk_Yb N bed lim aud (y + 1) σ → sn_Wp 129 149 [sn_r 0, sn_r 2, sn_i N, sn_r qB, sn_i lim, sn_i aud, sn_i (y + 1), g7, g8, g9, g10, g11, g12, g13, g14, g15, g16, g17, g18] [] (sn_hh n3 k3 Y σ X) Q) : sn_Wp 129 281 [sn_r 0, sn_r 2, sn_i N, sn_r qB, sn_i lim, sn_i aud, sn_i y, sn_i S, sn_i d8, sn_i d9, g10, g11, g12, g13, g14, g15, g16, g17, g18] [] (sn_hh n k Y ω X) Q := by
  obtain ⟨hI, hYp, hph, -, -, h93, h91, h61, h178, h228, h230, h217⟩ := hW
  have h93 := h93 (by omega)
  have hqB9 := hB.2.1
  refine sn_q_aloadn sn_bc_129 dL_law_281 rfl ?_
  refine sn_q_invV sn_bc_129 dL_law_282 sn_oc_129 sn_pv_10_44 (by decide) rfl (by decide) (sn_h1 (by decide)) rfl rfl rfl rfl (sk_start hI hph (by omega) (fun hI1 => ?_))
  have hV : sk_Yv N bed lim aud y S (sn_s ω 2 10 1) := by
    have f : ∀ a c, ¬ (a = 2 ∧ c = 10) → sn_s ω 2 10 1 a c = ω a c := fun a c g => if_neg g
    refine ⟨hI1, sk_Yp_t hYp (fun a c q => f a c (by omega)), sn_s_e, (f _ _ (by omega)).trans hS, ?_, fun s a1 a2 => (f _ _ (by omega)).trans (h228 s a1 a2), fun s a1 a2 => (f _ _ (by omega)).trans (h230 s a1 a2), (f _ _ (by omega)).trans h217⟩
    rw [f _ _ (by omega), f _ _ (by omega)]; omega
  refine sn_q_iload sn_bc_129 dL_law_285 rfl ?_
  refine sn_q_iceq (t := 292) sn_bc_129 dL_law_287 rfl (fun c_287 => ?_) (fun c_287 => ?_)
  · refine sn_q_iloadn sn_bc_129 dL_law_292 rfl ?_
    refine sn_q_bipush sn_bc_129 dL_law_293 rfl ?_
    refine sn_q_imul sn_bc_129 dL_law_295 (by omega) (by omega) ?_
    refine sk_l_new sn_bc_129 dL_law_296 (by omega) (by omega) (fun Y1 X1 he hC => ?_)
    have hB := sk_ext_ar he hB
    have hqC : 231 ≤ 231 + n := by omega
    have hBC : qB ≠ 231 + n := by omega
    have hE := sk_ext_tr hE he
    refine sn_q_astoreL sn_bc_129 dL_law_298 (show (10 : Nat) < 19 from by decide) rfl rfl ?_
    refine sn_q_iconst sn_bc_129 dL_law_300 rfl ?_
    refine sn_q_istoreL sn_bc_129 dL_law_301 (show (11 : Nat) < 19 from by decide) rfl rfl ?_
    refine sk_lw_votes hYX hsc hN3 hN6 hl1 hl8 hy0 hy1 hqB hqC hBC (fun X σ g8 g9 g12 g13 g14 g15 g16 g17 g18 j hE hB hV => ?_) 50 0 _ _ _ _ _ _ _ _ _ _ (fun _ => 0) _ (by omega) hE hB (by rw [show 10 * N = N * 10 by omega]; exact hC) hV (fun t a1 a2 => ?_)
    · have hI := hV.1
      refine sn_q_aloadn sn_bc_129 dL_law_616 rfl ?_
      refine sn_q_bipush sn_bc_129 dL_law_617 rfl ?_
      refine sn_q_invV sn_bc_129 dL_law_619 sn_oc_129 sn_pv_10_33 (by decide) rfl (by decide) (sn_h1 (by decide)) rfl rfl rfl rfl (sk_many6 (sk_ext_YX hE hYX) hI (fun τ hq => ?_))
      have hV := sk_Yv_q hV hq
      have hc := hq.2.2.2.2
      have hI := hV.1
      have hph := hV.2.2.1
      have hS9 := hV.2.2.2.1
      have h39 := hV.2.2.2.2.1
      have hN0 := hV.2.1.2.1
      have hYp := hV.2.1
      have hA4 : τ 211 4 = aud := hV.2.1.2.2.2.2.2.2.1
      refine sn_q_istoreL sn_bc_129 dL_law_622 (show (11 : Nat) < 19 from by decide) rfl rfl ?_
      refine sn_q_aloadn sn_bc_129 dL_law_624 rfl ?_
      refine sn_q_iloadn sn_bc_129 dL_law_625 rfl ?_
      refine sn_q_iload sn_bc_129 dL_law_626 rfl ?_
      refine sn_q_invS sn_bc_129 dL_law_628 sn_oc_129 sn_px_10_63 sn_ps_10_63 (by decide) rfl rfl rfl (sk_areGiven (sk_ext_YX hE hYX) hI hc hN0.symm hN3 hN6 h39 (fun z => hA4.trans z) (fun n1 k1 Y1 X1 hE1 hn1 hk1 => ?_))
      have hB := sk_ext_ar hE1 hB
      have hE := sk_ext_tr hE hE1
      refine sn_q_ifeq (t := 664) sn_bc_129 dL_law_631 rfl (fun c => absurd c (by decide)) (fun _ => ?_)
      refine sn_q_aloadn sn_bc_129 dL_law_634 rfl ?_
      refine sn_q_invV sn_bc_129 dL_law_635 sn_oc_129 sn_pv_10_67 (by decide) rfl (by decide) (sn_h1 (by decide)) rfl rfl rfl rfl (sk_close (sk_ext_YX hE hYX) hI hph (fun ρ hqρ => ?_))
      have e : ρ = sn_s τ 2 10 2 := hqρ.2.1 (by rw [sn_s_j (by omega)]; exact hc)
      have hvj : sk_vj ρ (ρ 3 0).toNat = sk_vj τ (τ 3 0).toNat := by rw [e]; exact sk_vj_s
      rw [hvj]
      have fρ : ∀ a c, ¬ (a = 2 ∧ c = 10) → ρ a c = τ a c := fun a c g => by rw [e]; exact if_neg g
      have hI := hqρ.2.2.1
      have hc := hqρ.2.2.2.2
      have hph : ρ 2 10 = 2 := by rw [e]; exact sn_s_e
      have hS9 : ρ 9 0 = S := (fρ _ _ (by omega)).trans hS9
      have h39 : 3 ≤ ρ 9 0 - ρ 9 1 := by rw [fρ _ _ (by omega), fρ _ _ (by omega)]; exact h39
      have hN0 : ρ 3 0 = N := (fρ _ _ (by omega)).trans hN0
      have hYp : sk_Yp N bed lim aud y y ρ := sk_Yp_t hYp (fun a c q => fρ a c (by omega))
      have h228 : ∀ s, 0 ≤ s → s < 8 → ρ 228 s = 0 := fun s a1 a2 => (fρ _ _ (by omega)).trans (hV.2.2.2.2.2.1 s a1 a2)
      have h230 : ∀ s, 0 ≤ s → s < 8 → ρ 230 s = 0 := fun s a1 a2 => (fρ _ _ (by omega)).trans (hV.2.2.2.2.2.2.1 s a1 a2)
      have h217 : ρ 217 7 = 0 := (fρ _ _ (by omega)).trans hV.2.2.2.2.2.2.2
      refine sn_q_iload sn_bc_129 dL_law_638 rfl ?_
      refine sn_q_icne (t := 664) sn_bc_129 dL_law_640 rfl (fun c_640 => ?_) (fun c_640 => ?_)
      · exfalso; omega
      · refine sn_q_aloadn sn_bc_129 dL_law_643 rfl ?_
        refine sn_q_aloadn sn_bc_129 dL_law_644 rfl ?_
        refine sn_q_iloadn sn_bc_129 dL_law_645 rfl ?_
        refine sn_q_iload sn_bc_129 dL_law_646 rfl ?_
        refine sn_q_invS sn_bc_129 dL_law_648 sn_oc_129 sn_px_10_70 sn_ps_10_70 (by decide) rfl rfl rfl (sk_isRead (sk_ext_YX hE hYX) (sk_ext_sc hE hsc) hI hc hN0.symm hN3 hN6 hph h39 hy0 hy1 h217 h228 h230 (fun n2 k2 Y2 X2 υ hE2 hn2 hk2 hIυ hcυ hkq hread hall hM => ?_))
        have hB := sk_ext_ar hE2 hB
        have hE := sk_ext_tr hE hE2
        refine sn_q_ifeq (t := 664) sn_bc_129 dL_law_651 rfl (fun c => absurd c (by decide)) (fun _ => ?_)
        refine sn_q_aloadn sn_bc_129 dL_law_654 rfl ?_
        refine sn_q_aloadn sn_bc_129 dL_law_655 rfl ?_
        refine sn_q_iload sn_bc_129 dL_law_656 rfl ?_
        refine sn_q_invS sn_bc_129 dL_law_658 sn_oc_129 sn_px_10_74 sn_ps_10_74 (by decide) rfl rfl rfl (sk_isEnded (sk_ext_YX hE hYX) hIυ hcυ ((hkq 2 10 (by omega)).trans hph) (sk_Yp_t hYp (fun a c q => hkq a c (by omega))) hy0 (by omega) hN3 hN6 (hS9.symm.trans (hkq 9 0 (by omega)).symm) hB hread hall hM (fun n3 k3 Y3 X3 ψ hE3 hn3 hk3 hYb hcψ => ?_))
        have hB := sk_ext_ar hE3 hB
        have hE := sk_ext_tr hE hE3
        refine sn_q_ifne (t := 666) sn_bc_129 dL_law_661 rfl (fun _ => ?_) (fun c => absurd (by decide) c)
        refine sn_q_iincL sn_bc_129 dL_law_666 (show (6 : Nat) < 19 from by decide) rfl rfl (by omega) (by omega) rfl ?_
        refine sn_q_goto (t := 149) sn_bc_129 dL_law_669 rfl ?_
        exact K n3 k3 Y3 X3 ψ _ _ _ _ _ _ _ _ _ _ _ _ (by omega) (by omega) hE hB hYb
    · rw [sn_s_p (by omega)]; exact (h178 t a1 (by omega)).symm
  · exact absurd hS c_287
set_option maxHeartbeats 1000000 in
theorem sk_lw_year {Y0 : Nat → Nat × Nat} {X0 : Nat → Nat → sn_V} {Q : Option sn_V → sn_H → Prop} {N lim aud y : Int} {qB n k : Nat} {bed : Int → Int} {Y : Nat → Nat × Nat} {X : Nat → Nat → sn_V} {σ : Int → Int → Int} {g7 g8 g9 g10 g11 g12 g13 g14 g15 g16 g17 g18 : sn_V} (hYX : sn_YX Y0 X0) (hsc : sk_sc Y0 X0) (hN3 : 3 ≤ N) (hN6 : N ≤ 6) (hl1 : 1 ≤ lim) (hl8 : lim ≤ 8) (hy0 : 0 ≤ y) (hy1 : y ≤ 1) (hqB : 231 ≤ qB) (hE : sk_ext 0 Y0 X0 n Y X) (hB : sk_ar n Y X qB N.toNat bed) (hYb : sk_Yb N bed lim aud y σ) (K : ∀ (n3 k3 : Nat) (Y : Nat → Nat × Nat) (X : Nat → Nat → sn_V) (σ : Int → Int → Int) (g7 g8 g9 g10 g11 g12 g13 g14 g15 g16 g17 g18 : sn_V), n3 ≤ n + 160 → k3 ≤ k + 1200 → sk_ext 0 Y0 X0 n3 Y X → sk_ar n3 Y X qB N.toNat bed → sk_Yb N bed lim aud (y + 1) σ → sn_Wp 129 149 [sn_r 0, sn_r 2, sn_i N, sn_r qB, sn_i lim, sn_i aud, sn_i (y + 1), g7, g8, g9, g10, g11, g12, g13, g14, g15, g16, g17, g18] [] (sn_hh n3 k3 Y σ X) Q) : sn_Wp 129 149 [sn_r 0, sn_r 2, sn_i N, sn_r qB, sn_i lim, sn_i aud, sn_i y, g7, g8, g9, g10, g11, g12, g13, g14, g15, g16, g17, g18] [] (sn_hh n k Y σ X) Q := by
  refine sn_q_iload sn_bc_129 dL_law_149 rfl ?_
  refine sn_q_iconst sn_bc_129 dL_law_151 rfl ?_
  refine sn_q_icge (t := 672) sn_bc_129 dL_law_152 rfl (fun c_152 => ?_) (fun c_152 => ?_)
  · exfalso; omega
  · refine sn_q_iconst sn_bc_129 dL_law_155 rfl ?_
    refine sn_q_istoreL sn_bc_129 dL_law_156 (show (7 : Nat) < 19 from by decide) rfl rfl ?_
    refine sk_lw_songs (k0 := 0) (X0 := X0) (Y0 := Y0) hsc hN3 hN6 hy0 hy1 hE (fun j σ hW => ?_) N.toNat 0 σ (by omega) (sk_Yb_e hYb)
    have hI := hW.1
    refine sn_q_aloadn sn_bc_129 dL_law_237 rfl ?_
    refine sn_q_iconst sn_bc_129 dL_law_238 rfl ?_
    refine sn_q_invV sn_bc_129 dL_law_239 sn_oc_129 sn_pv_10_33 (by decide) rfl (by decide) (sn_h1 (by decide)) rfl rfl rfl rfl (sk_many3 (sk_ext_YX hE hYX) hI (fun τ hq => ?_))
    have hW := sk_Ye_s hW hq.2.2.1 (fun a c _ _ g1 g2 => hq.1 a c g1 g2)
    have hI := hW.1
    have hph := hW.2.2.1
    have hc := hq.2.2.2.2
    refine sn_q_istoreL sn_bc_129 dL_law_242 (show (7 : Nat) < 19 from by decide) rfl rfl ?_
    refine sn_q_aloadn sn_bc_129 dL_law_244 rfl ?_
    refine sn_q_iconst sn_bc_129 dL_law_245 rfl ?_
    refine sn_q_invV sn_bc_129 dL_law_246 sn_oc_129 sn_pv_10_33 (by decide) rfl (by decide) (sn_h1 (by decide)) rfl rfl rfl rfl (sk_many5 (sk_ext_YX hE hYX) hI (fun τ hq => ?_))
    have eτ := (hq.2.1 hc).symm
    subst eτ
    refine sn_q_istoreL sn_bc_129 dL_law_249 (show (8 : Nat) < 19 from by decide) rfl rfl ?_
    refine sn_q_aloadn sn_bc_129 dL_law_251 rfl ?_
    refine sn_q_invV sn_bc_129 dL_law_252 sn_oc_129 sn_pv_10_37 (by decide) rfl (by decide) (sn_h1 (by decide)) rfl rfl rfl rfl (sk_bestMove hI (Or.inl hph) (fun b l χ hIχ hfχ hbs _ => ?_))
    have hWχ := sk_Ye_s hW hIχ (fun a c _ g _ _ => hfχ a c g)
    have hSχ : χ 9 0 = τ 9 0 := hfχ 9 0 (by omega)
    refine sn_q_istoreL sn_bc_129 dL_law_255 (show (9 : Nat) < 19 from by decide) rfl rfl ?_
    refine sn_q_iload sn_bc_129 dL_law_257 rfl ?_
    refine sn_q_iflt (t := 281) sn_bc_129 dL_law_259 rfl (fun c_259 => ?_) (fun c_259 => ?_)
    · first
        | exact sk_lw_rest hYX hsc hN3 hN6 hl1 hl8 hy0 hy1 hqB hE hB hWυ hSυ K
        | exact sk_lw_rest hYX hsc hN3 hN6 hl1 hl8 hy0 hy1 hqB hE hB hWχ hSχ K
    · obtain ⟨s, pl, p, hb, s0, s8, s10, hhf, pl0, pl1, p0, p1, ps, hl, hlt⟩ := hbs.resolve_left (fun z => by omega)
      have h153 := hI.1.2.2.2.1
      refine sn_q_aloadn sn_bc_129 dL_law_262 rfl ?_
      refine sn_q_iload sn_bc_129 dL_law_263 rfl ?_
      refine sn_q_bipush sn_bc_129 dL_law_265 rfl ?_
      refine sn_q_idiv sn_bc_129 dL_law_267 (by omega) (by omega) (by omega) (by omega) ?_
      rw [show b / 100 = s by omega]
      refine sn_q_iload sn_bc_129 dL_law_268 rfl ?_
      refine sn_q_bipush sn_bc_129 dL_law_270 rfl ?_
      refine sn_q_irem sn_bc_129 dL_law_272 (by omega) (by omega) (by omega) (by omega) ?_
      rw [show b % 100 = pl by omega]
      refine sn_q_invV sn_bc_129 dL_law_273 sn_oc_129 sn_pv_10_41 (by decide) rfl (by decide) (sn_h1 (by decide)) rfl rfl rfl rfl (sk_move hIχ (Or.inl hWχ.2.2.1) s0 (hIχ.2.1.1 s s0 s8 (by rw [hfχ 10 s (by omega)]; exact s10)) (by rw [hfχ 10 s (by omega)]; exact s10) (sk_hf_t hhf (fun c => hfχ 14 c (by omega)) (hfχ 15 4 (by omega))) pl0 (by rw [hfχ 15 3 (by omega)]; exact pl1) p0 (by rw [hfχ 15 3 (by omega)]; exact p1) (by rw [hfχ 16 p (by omega)]; exact ps) (fun υ hIυ hfυ => ?_))
      rw [hfχ 15 3 (by omega), sk_dx_t (σ := τ) (f := sk_tr τ s p pl) (fun c => hfχ 13 c (by omega)) (fun i => sk_trt (fun c => hfχ 16 c (by omega))), ← hl]
      have hWυ := sk_Ye_s hWχ hIυ (fun a c g1 g2 _ g4 => hfυ a c g1 g2 g4)
      have hSυ : υ 9 0 = τ 9 0 := (hfυ 9 0 (by omega) (by omega) (by omega)).trans hSχ
      refine sn_q_iload sn_bc_129 dL_law_276 rfl ?_
      refine sn_q_icge (t := 290) sn_bc_129 dL_law_278 rfl (fun c_278 => ?_) (fun c_278 => ?_)
      · exfalso; omega
      · first
          | exact sk_lw_rest hYX hsc hN3 hN6 hl1 hl8 hy0 hy1 hqB hE hB hWυ hSυ K
          | exact sk_lw_rest hYX hsc hN3 hN6 hl1 hl8 hy0 hy1 hqB hE hB hWχ hSχ K
