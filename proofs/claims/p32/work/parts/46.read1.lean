/-! the law's isRead -/
theorem sk_sum_lt {N : Int} (h0 : 0 ≤ N) (h8 : N ≤ 8) : sn_sum (fun l => if l < N then (1 : Int) else 0) 8 = N := by
  have h : N = 0 ∨ N = 1 ∨ N = 2 ∨ N = 3 ∨ N = 4 ∨ N = 5 ∨ N = 6 ∨ N = 7 ∨ N = 8 := by omega
  rcases h with rfl | rfl | rfl | rfl | rfl | rfl | rfl | rfl | rfl <;> rfl
theorem sk_sum_eq {f g : Int → Int} : ∀ m : Nat, (∀ i : Nat, i < m → f i ≤ g i) → sn_sum f m = sn_sum g m → ∀ i : Nat, i < m → f i = g i
  | 0, _, _ => fun i h => by omega
  | m + 1, h, e => by
    have h1 := sk_sum_le m (fun i q => h i (by omega))
    have h2 := h m (by omega)
    have e' : sn_sum f m + f m = sn_sum g m + g m := e
    have h3 := sk_sum_eq m (fun i q => h i (by omega)) (by omega)
    intro i hi
    by_cases z : i = m
    · subst z; omega
    · exact h3 i (by omega)
theorem sk_unread {σ : Int → Int → Int} {N : Int} (h : sk_nl σ < N) (h0 : 0 ≤ N) (h8 : N ≤ 8) : ∃ l, 0 ≤ l ∧ l < N ∧ σ 228 l = 0 := by
  by_cases g : ∃ l, 0 ≤ l ∧ l < N ∧ σ 228 l = 0
  · exact g
  · exfalso
    have hs := sk_sum_lt h0 h8
    have hl : sn_sum (fun l => if l < N then (1 : Int) else 0) 8 ≤ sk_nl σ := sk_sum_le 8 (fun i _ => by
      (try dsimp only)
      by_cases z : (i : Int) < N
      · rw [if_pos z, if_neg (fun q => g ⟨(i : Int), by omega, z, q⟩)]; decide
      · rw [if_neg z]; split <;> decide)
    omega
theorem sk_allread {σ : Int → Int → Int} {N : Int} (h : sk_nl σ = N) (h0 : 0 ≤ N) (h8 : N ≤ 8) (hz : ∀ l, N ≤ l → l < 8 → σ 228 l = 0) (l : Int) (l0 : 0 ≤ l) (l1 : l < N) : σ 228 l ≠ 0 := by
  have hs := sk_sum_lt h0 h8
  have he := sk_sum_eq (f := fun l => if σ 228 l = 0 then (0 : Int) else 1) (g := fun l => if l < N then (1 : Int) else 0) 8 (fun i hi => by
    (try dsimp only)
    by_cases z : (i : Int) < N
    · rw [if_pos z]; split <;> decide
    · rw [if_neg z, if_pos (hz (i : Int) (by omega) (by omega))]; decide) (by rw [hs]; exact h) l.toNat (by omega)
  rw [Int.toNat_of_nonneg l0] at he
  (try dsimp only at he)
  rw [if_pos l1] at he
  intro z
  rw [if_pos z] at he
  omega
theorem sk_untold {σ : Int → Int → Int} (h : sk_ns σ < sn_rn σ 8) : ∃ s, 0 ≤ s ∧ s < 8 ∧ sn_run σ s ∧ σ 230 s = 0 := by
  by_cases g : ∃ s, 0 ≤ s ∧ s < 8 ∧ sn_run σ s ∧ σ 230 s = 0
  · exact g
  · exfalso
    have hl : sn_rn σ 8 ≤ sk_ns σ := sk_sum_le 8 (fun i _ => by
      (try dsimp only)
      by_cases z : σ 10 i ≠ 0 ∧ σ 11 i = 0
      · rw [if_pos z, if_neg (fun q => g ⟨(i : Int), by omega, by omega, z, q⟩)]; decide
      · rw [if_neg z]; split <;> decide)
    omega
theorem sk_alltold {σ : Int → Int → Int} (h : sk_ns σ = sn_rn σ 8) (hr : ∀ s, 0 ≤ s → s < 8 → σ 230 s ≠ 0 → sn_run σ s) (s : Int) (s0 : 0 ≤ s) (s8 : s < 8) (hs : sn_run σ s) : σ 230 s ≠ 0 := by
  have he := sk_sum_eq (f := fun l => if σ 230 l = 0 then (0 : Int) else 1) (g := fun s => if σ 10 s ≠ 0 ∧ σ 11 s = 0 then 1 else 0) 8 (fun i hi => by
    (try dsimp only)
    by_cases z : σ 230 (i : Int) = 0
    · rw [if_pos z]; split <;> decide
    · rw [if_neg z, if_pos (show σ 10 (i : Int) ≠ 0 ∧ σ 11 (i : Int) = 0 from hr (i : Int) (by omega) (by omega) z)]; decide) h s.toNat (by omega)
  rw [Int.toNat_of_nonneg s0] at he
  (try dsimp only at he)
  rw [if_pos (show σ 10 s ≠ 0 ∧ σ 11 s = 0 from hs)] at he
  intro z
  rw [if_pos z] at he
  omega
theorem sk_jo_rd {σ ω : Int → Int → Int} {w s : Int} (h0 : 0 ≤ w) (h8 : w < 8) (hz : σ (219 + w) s = 0) (e : ω (219 + w) s = σ (83 + w) s) (f : ∀ l, 0 ≤ l → l < 8 → l ≠ w → ω (219 + l) s = σ (219 + l) s) : sk_jo ω s = sk_jo σ s + σ (83 + w) s := by
  have h := sk_sum_upd (f := fun l => σ (219 + l) s) (g := fun l => ω (219 + l) s) (w := w) 8 h0 (by omega) (fun i a b c => f i a (by omega) c)
  unfold sk_jo
  rw [h]
  (try dsimp only)
  omega
theorem sk_jo_z {σ : Int → Int → Int} {s : Int} (h : ∀ l, 0 ≤ l → l < 8 → σ (219 + l) s = 0) : sk_jo σ s = 0 := sk_sum_z 8 (fun i hi => h i (by omega) (by omega))
/-- all that is read stands on the board -/
theorem sk_jo_all {σ : Int → Int → Int} (hI : sk_Iv σ) (hC : sn_Ct σ) (h : ∀ l s, 0 ≤ l → l < σ 3 0 → 0 ≤ s → s < 8 → σ (219 + l) s = σ (83 + l) s) (s : Int) (s0 : 0 ≤ s) (s8 : s < 8) : sk_jo σ s = σ 213 s := by
  rw [(sk_tot hI.1 hC s s0 s8).1]
  refine sn_sum_c 8 (fun i hi => ?_)
  by_cases g : (i : Int) < σ 3 0
  · exact h i s (by omega) g s0 s8
  · rw [hI.2.2.2.2.1.2.2.1 i s (by omega) (by omega) s0 s8 (hI.2.2.2.2.1.2.2.2.2.2.1 i (by omega) (by omega)), (hI.1.2.2.2.2.1 i s (by omega) (by omega) s0 s8).1]
/-- what reading keeps -/
def sk_kq (σ τ : Int → Int → Int) : Prop := ∀ a c, (a = 3 ∨ a = 5 ∨ a = 7 ∨ a = 8 ∨ a = 10 ∨ a = 211 ∨ (a = 9 ∧ c = 0) ∨ (a = 2 ∧ 9 ≤ c ∧ c ≤ 13)) → τ a c = σ a c
theorem sk_kq_rf {σ : Int → Int → Int} : sk_kq σ σ := fun _ _ _ => rfl
theorem sk_kq_tr {σ τ ω : Int → Int → Int} (h : sk_kq σ τ) (g : sk_kq τ ω) : sk_kq σ ω := fun a c q => (g a c q).trans (h a c q)
/-- before the land k of the reading -/
def sk_rdI (B : Int) (k : Nat) (σ0 σ : Int → Int → Int) : Prop := sk_Iv σ ∧ σ 2 15 ≠ 0 ∧ sk_kq σ0 σ ∧ σ 2 10 = 2 ∧ 3 ≤ σ 9 0 - σ 9 1 ∧ σ 217 7 = (k : Int) ∧ (∀ s, 0 ≤ s → s < 8 → σ 230 s = 0) ∧ (B = 0 ∨ ∀ l, 0 ≤ l → l < 8 → (σ 228 l = 0 ↔ (k : Int) ≤ l))
theorem sk_ar_x {n n' q len : Nat} {Y Y' : Nat → Nat × Nat} {X X' : Nat → Nat → sn_V} {A : Int → Int} (h : sk_ext n Y X n' Y' X') (g : sk_ar n Y X q len A) : sk_ar n' Y' X' q len A := sk_ext_ar h g
theorem sk_rd_fill {n0 : Nat} {Y0 : Nat → Nat × Nat} {X0 : Nat → Nat → sn_V} {σ : Int → Int → Int} {Q : Option sn_V → sn_H → Prop} {N w x3 x4 : Int} {qD : Nat} (hYX : sn_YX Y0 X0) (hI : sk_Iv σ) (hc : σ 2 15 ≠ 0) (hN : N = σ 3 0) (hw0 : 0 ≤ w) (hwN : w < N) (hqD : 231 + n0 ≤ qD) : ∀ (d j : Nat) (n k : Nat) (Y : Nat → Nat × Nat) (X : Nat → Nat → sn_V) (D : Int → Int), (j : Int) + d = N → sk_ext n0 Y0 X0 n Y X → sk_ar n Y X qD N.toNat D → (∀ s, 0 ≤ s → s < (j : Int) → σ 10 s ≠ 0 → D s = sk_jo σ s + σ 227 s + σ (83 + w) s) → (∀ (n1 k1 : Nat) (Y : Nat → Nat × Nat) (X : Nat → Nat → sn_V) (D : Int → Int), sk_ext n0 Y0 X0 n1 Y X → sk_ar n1 Y X qD N.toNat D → n1 ≤ n + d → k1 ≤ k + 6 * d → (∀ s, 0 ≤ s → s < N → σ 10 s ≠ 0 → D s = sk_jo σ s + σ 227 s + σ (83 + w) s) → sn_Wp 97 114 [sn_r 2, sn_r 0, sn_i N, sn_i x3, sn_i x4, sn_i w, sn_r qD, sn_i N] [] (sn_hh n1 k1 Y σ X) Q) → sn_Wp 97 70 [sn_r 2, sn_r 0, sn_i N, sn_i x3, sn_i x4, sn_i w, sn_r qD, sn_i (j : Int)] [] (sn_hh n k Y σ X) Q := by
  have hC := hI.1.2.2.2.2.2 hc
  have h38 := hI.1.1
  intro d
  induction d with
  | zero =>
    intro j n k Y X D hd hE hD hv K
    have hjN : (j : Int) = N := by omega
    refine sn_q_iload sn_bc_97 dL_isRead_70 rfl ?_
    refine sn_q_iloadn sn_bc_97 dL_isRead_72 rfl ?_
    refine sn_q_icge (t := 114) sn_bc_97 dL_isRead_73 rfl (fun c_73 => ?_) (fun c_73 => ?_)
    · rw [hjN]
      (try rw [hjN] at hv)
      exact K n k Y X D hE hD (by omega) (by omega) hv
    · exfalso; omega
  | succ d ih =>
    intro j n k Y X D hd hE hD hv K
    have hjb := sk_jo_bd (w := (j : Int)) hI.2.2.2.2.1.1 (by omega) (by omega)
    have hcb := hI.2.2.2.2.1.2.1 (j : Int) (by omega) (by omega)
    have hvb := (sk_vf hC (l := w) hw0 (by omega) (s := (j : Int)) (by omega) (by omega)).1
    refine sn_q_iload sn_bc_97 dL_isRead_70 rfl ?_
    refine sn_q_iloadn sn_bc_97 dL_isRead_72 rfl ?_
    refine sn_q_icge (t := 114) sn_bc_97 dL_isRead_73 rfl (fun c_73 => ?_) (fun c_73 => ?_)
    · exfalso; omega
    · refine sn_q_aloadn sn_bc_97 dL_isRead_76 rfl ?_
      refine sn_q_iload sn_bc_97 dL_isRead_77 rfl ?_
      refine sk_l_has (sk_ext_YX hE hYX) hI hc (by omega) (by omega) sn_bc_97 dL_isRead_79 sn_oc_97 sn_px_10_92 sn_ps_10_92 rfl (fun h10 => ?_) (fun h10 Y1 X1 he => ?_)
      · refine sn_q_ifeq (t := 108) sn_bc_97 dL_isRead_82 rfl (fun c => absurd c (by decide)) (fun _ => ?_)
        refine sn_q_aload sn_bc_97 dL_isRead_85 rfl ?_
        refine sn_q_iload sn_bc_97 dL_isRead_87 rfl ?_
        refine sn_q_aloadn sn_bc_97 dL_isRead_89 rfl ?_
        refine sn_q_iload sn_bc_97 dL_isRead_90 rfl ?_
        refine sn_q_bipush sn_bc_97 dL_isRead_92 rfl ?_
        refine sn_q_invV sn_bc_97 dL_isRead_94 sn_oc_97 sn_pv_10_54 (by decide) rfl (by decide) (sn_h1 (by decide)) rfl rfl rfl rfl (sk_ofSong9 (sk_ext_YX hE hYX) hI (by omega) (by omega) h10 (fun τ hq => ?_))
        have eτ := (hq.2.1 hc).symm
        subst eτ
        refine sn_q_aloadn sn_bc_97 dL_isRead_97 rfl ?_
        refine sn_q_iload sn_bc_97 dL_isRead_98 rfl ?_
        refine sn_q_iload sn_bc_97 dL_isRead_100 rfl ?_
        refine sn_q_iconst sn_bc_97 dL_isRead_102 rfl ?_
        refine sn_q_invV sn_bc_97 dL_isRead_103 sn_oc_97 sn_pv_10_96 (by decide) rfl (by decide) (sn_h1 (by decide)) rfl rfl rfl rfl (sk_gives_j (sk_ext_YX hE hYX) hI (by omega) (by omega) (by omega) (by omega) h10 (fun τ hq => ?_))
        have eτ := (hq.2.1 hc).symm
        subst eτ
        refine sn_q_iadd sn_bc_97 dL_isRead_106 (by omega) (by omega) ?_
        refine sk_l_iast hD sn_bc_97 dL_isRead_107 (by omega) (by omega) (fun hD => ?_)
        have hE := sk_ext_v hE hD (by omega)
        refine sn_q_inc7 sn_bc_97 dL_isRead_108 rfl (by omega) (by omega) ?_
        refine sn_q_goto (t := 70) sn_bc_97 dL_isRead_111 rfl ?_
        first
          | (refine ih (j + 1) _ _ _ _ _ (by omega) hE hD ?_ (fun n1 k1 Y X D a1 a2 a3 a4 a5 => K n1 k1 Y X D a1 a2 (by omega) (by omega) a5)
             intro s s0 s1 s10
             (try dsimp only)
             by_cases e : s = (j : Int)
             · first
                 | (rw [if_pos e, e]; done)
                 | exact absurd (e ▸ h10) s10
             · first
                 | (rw [if_neg e]; exact hv s s0 (by omega) s10)
                 | exact hv s s0 (by omega) s10)
      · have hE := sk_ext_tr hE he
        have hD := sk_ar_x he hD
        refine sn_q_ifeq (t := 108) sn_bc_97 dL_isRead_82 rfl (fun _ => ?_) (fun c => absurd (by decide) c)
        refine sn_q_inc7 sn_bc_97 dL_isRead_108 rfl (by omega) (by omega) ?_
        refine sn_q_goto (t := 70) sn_bc_97 dL_isRead_111 rfl ?_
        first
          | (refine ih (j + 1) _ _ _ _ _ (by omega) hE hD ?_ (fun n1 k1 Y X D a1 a2 a3 a4 a5 => K n1 k1 Y X D a1 a2 (by omega) (by omega) a5)
             intro s s0 s1 s10
             (try dsimp only)
             by_cases e : s = (j : Int)
             · first
                 | (rw [if_pos e, e]; done)
                 | exact absurd (e ▸ h10) s10
             · first
                 | (rw [if_neg e]; exact hv s s0 (by omega) s10)
                 | exact hv s s0 (by omega) s10)
theorem sk_rd_check {n0 : Nat} {Y0 : Nat → Nat × Nat} {X0 : Nat → Nat → sn_V} {σ : Int → Int → Int} {Q : Option sn_V → sn_H → Prop} {N w x3 x4 : Int} {qD : Nat} (hYX : sn_YX Y0 X0) (hI : sk_Iv σ) (hc : σ 2 15 ≠ 0) (hN : N = σ 3 0) (hw0 : 0 ≤ w) (hwN : w < N) (hqD : 231 + n0 ≤ qD) : ∀ (d j : Nat) (n k : Nat) (Y : Nat → Nat × Nat) (X : Nat → Nat → sn_V) (D : Int → Int), (j : Int) + d = N → sk_ext n0 Y0 X0 n Y X → sk_ar n Y X qD N.toNat D → (∀ s, 0 ≤ s → s < N → σ 10 s ≠ 0 → D s = sk_jo σ s + σ 227 s) → (∀ (n1 k1 : Nat) (Y : Nat → Nat × Nat) (X : Nat → Nat → sn_V) (D : Int → Int), sk_ext n0 Y0 X0 n1 Y X → sk_ar n1 Y X qD N.toNat D → n1 ≤ n + d → k1 ≤ k + 6 * d → sn_Wp 97 180 [sn_r 2, sn_r 0, sn_i N, sn_i x3, sn_i x4, sn_i w, sn_r qD, sn_i N] [] (sn_hh n1 k1 Y σ X) Q) → sn_Wp 97 141 [sn_r 2, sn_r 0, sn_i N, sn_i x3, sn_i x4, sn_i w, sn_r qD, sn_i (j : Int)] [] (sn_hh n k Y σ X) Q := by
  have hC := hI.1.2.2.2.2.2 hc
  have h38 := hI.1.1
  intro d
  induction d with
  | zero =>
    intro j n k Y X D hd hE hD hv K
    have hjN : (j : Int) = N := by omega
    refine sn_q_iload sn_bc_97 dL_isRead_141 rfl ?_
    refine sn_q_iloadn sn_bc_97 dL_isRead_143 rfl ?_
    refine sn_q_icge (t := 180) sn_bc_97 dL_isRead_144 rfl (fun c_144 => ?_) (fun c_144 => ?_)
    · rw [hjN]
      (try rw [hjN] at hv)
      exact K n k Y X D hE hD (by omega) (by omega)
    · exfalso; omega
  | succ d ih =>
    intro j n k Y X D hd hE hD hv K
    refine sn_q_iload sn_bc_97 dL_isRead_141 rfl ?_
    refine sn_q_iloadn sn_bc_97 dL_isRead_143 rfl ?_
    refine sn_q_icge (t := 180) sn_bc_97 dL_isRead_144 rfl (fun c_144 => ?_) (fun c_144 => ?_)
    · exfalso; omega
    · refine sn_q_aloadn sn_bc_97 dL_isRead_147 rfl ?_
      refine sn_q_iload sn_bc_97 dL_isRead_148 rfl ?_
      refine sk_l_has (sk_ext_YX hE hYX) hI hc (by omega) (by omega) sn_bc_97 dL_isRead_150 sn_oc_97 sn_px_10_92 sn_ps_10_92 rfl (fun h10 => ?_) (fun h10 Y1 X1 he => ?_)
      · refine sn_q_ifeq (t := 174) sn_bc_97 dL_isRead_153 rfl (fun c => absurd c (by decide)) (fun _ => ?_)
        refine sn_q_aloadn sn_bc_97 dL_isRead_156 rfl ?_
        refine sn_q_iload sn_bc_97 dL_isRead_157 rfl ?_
        refine sn_q_bipush sn_bc_97 dL_isRead_159 rfl ?_
        refine sn_q_invV sn_bc_97 dL_isRead_161 sn_oc_97 sn_pv_10_54 (by decide) rfl (by decide) (sn_h1 (by decide)) rfl rfl rfl rfl (sk_ofSong9 (sk_ext_YX hE hYX) hI (by omega) (by omega) h10 (fun τ hq => ?_))
        have eτ := (hq.2.1 hc).symm
        subst eτ
        refine sn_q_aload sn_bc_97 dL_isRead_164 rfl ?_
        refine sn_q_iload sn_bc_97 dL_isRead_166 rfl ?_
        refine sk_l_iald hD sn_bc_97 dL_isRead_168 (by omega) (by omega) ?_
        refine sn_q_iceq (t := 174) sn_bc_97 dL_isRead_169 rfl (fun c_169 => ?_) (fun c_169 => ?_)
        · refine sn_q_inc7 sn_bc_97 dL_isRead_174 rfl (by omega) (by omega) ?_
          refine sn_q_goto (t := 141) sn_bc_97 dL_isRead_177 rfl ?_
          exact ih (j + 1) _ _ _ _ _ (by omega) hE hD hv (fun n1 k1 Y X D a1 a2 a3 a4 => K n1 k1 Y X D a1 a2 (by omega) (by omega))
        · exfalso
          have := hv (j : Int) (by omega) (by omega) h10
          omega
      · have hE := sk_ext_tr hE he
        have hD := sk_ar_x he hD
        refine sn_q_ifeq (t := 174) sn_bc_97 dL_isRead_153 rfl (fun _ => ?_) (fun c => absurd (by decide) c)
        refine sn_q_inc7 sn_bc_97 dL_isRead_174 rfl (by omega) (by omega) ?_
        refine sn_q_goto (t := 141) sn_bc_97 dL_isRead_177 rfl ?_
        exact ih (j + 1) _ _ _ _ _ (by omega) hE hD hv (fun n1 k1 Y X D a1 a2 a3 a4 => K n1 k1 Y X D a1 a2 (by omega) (by omega))
