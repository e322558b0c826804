/-! what lies so between any two calls -/
def sk_si (σ : Int → Int → Int) (m : Nat) : Int := sn_sum (fun s => if σ 10 s = 0 then 0 else 1) m
theorem sk_sum_le {f g : Int → Int} : ∀ m : Nat, (∀ i : Nat, i < m → f i ≤ g i) → sn_sum f m ≤ sn_sum g m
  | 0, _ => Int.le_refl _
  | m + 1, h => by
    have h1 := sk_sum_le m (fun i q => h i (by omega))
    have h2 := h m (by omega)
    show sn_sum f m + f m ≤ sn_sum g m + g m
    omega
def sk_A (σ : Int → Int → Int) : Prop := (∀ s, 0 ≤ s → s < 8 → σ 10 s ≠ 0 → s < σ 3 0) ∧ σ 9 0 = sk_si σ 8 ∧ sn_rn σ 8 = σ 9 0 - σ 9 1 ∧ ∀ s, 0 ≤ s → s < 8 → σ 10 s = 0 → σ 11 s = 0
theorem sk_A_bd {σ : Int → Int → Int} (h : sk_A σ) : 0 ≤ σ 9 0 ∧ σ 9 0 ≤ 8 ∧ 0 ≤ σ 9 1 ∧ σ 9 1 ≤ σ 9 0 ∧ 0 ≤ sn_rn σ 8 := by
  have h1 := sn_sum_b (f := fun s => if σ 10 s = 0 then (0 : Int) else 1) (B := 1) 8 (fun i _ => by split <;> decide)
  have h2 := @sn_rn_bd σ 8
  have h3 : sn_rn σ 8 ≤ sk_si σ 8 := sk_sum_le 8 (fun i _ => by
    by_cases e : σ 10 i = 0
    · rw [if_neg (fun z => z.1 e), if_pos e]; decide
    · rw [if_neg e]; split <;> decide)
  have h4 : 0 ≤ sk_si σ 8 ∧ sk_si σ 8 ≤ (8 : Nat) * 1 := h1
  obtain ⟨-, a2, a3, -⟩ := h
  omega
def sk_St (σ : Int → Int → Int) : Prop := σ 15 3 = σ 9 0 ∧ (0 ≤ σ 15 4 ∧ σ 15 4 ≤ σ 15 3) ∧ (∀ i, 0 ≤ i → i < σ 15 3 → 0 ≤ σ 16 i ∧ σ 16 i < 8 ∧ σ 10 (σ 16 i) ≠ 0) ∧ sn_od σ ∧ (∀ s, 0 ≤ s → s < 8 → σ 10 s ≠ 0 → ∃ p, 0 ≤ p ∧ p < σ 15 3 ∧ σ 16 p = s) ∧ sn_p9 σ
def sk_C (σ : Int → Int → Int) : Prop := (∀ l j, 0 ≤ l → l < 8 → 0 ≤ j → j < 5 → σ 61 (l * 5 + j) ≠ 0 → sk_fb σ l (l * 5 + j)) ∧ ∀ b, 0 ≤ b → b < 40 → 0 ≤ σ 60 b ∧ σ 60 b ≤ 8
def sk_nl (σ : Int → Int → Int) : Int := sn_sum (fun l => if σ 228 l = 0 then 0 else 1) 8
def sk_ns (σ : Int → Int → Int) : Int := sn_sum (fun l => if σ 230 l = 0 then 0 else 1) 8
def sk_D (σ : Int → Int → Int) : Prop := sk_B σ ∧ sk_c96 σ ∧ (∀ l s, 0 ≤ l → l < 8 → 0 ≤ s → s < 8 → σ 228 l = 0 → σ (219 + l) s = 0) ∧ σ 217 7 = sk_nl σ ∧ σ 217 8 = sk_ns σ ∧ (∀ l, σ 3 0 ≤ l → l < 8 → σ 228 l = 0) ∧ ∀ l, 0 ≤ l → l < 8 → σ 229 l = 0
def sk_E (σ : Int → Int → Int) : Prop := (∀ t, 0 ≤ t → t < 80 → 0 ≤ σ 178 t ∧ σ 178 t ≤ σ 211 2) ∧ 1 ≤ σ 211 2 ∧ σ 211 2 ≤ 20
theorem sk_ind_bd (σ : Int → Int → Int) (P : Int) : 0 ≤ sn_sum (fun l => if σ P l = 0 then 0 else 1) 8 ∧ sn_sum (fun l => if σ P l = 0 then 0 else 1) 8 ≤ 8 := by
  have h := sn_sum_b (f := fun l => if σ P l = 0 then (0 : Int) else 1) (B := 1) 8 (fun i _ => by split <;> decide)
  have h2 : 0 ≤ sn_sum (fun l => if σ P l = 0 then (0 : Int) else 1) 8 ∧ sn_sum (fun l => if σ P l = 0 then (0 : Int) else 1) 8 ≤ (8 : Nat) * 1 := h
  omega
def sk_Iv (σ : Int → Int → Int) : Prop := sn_In σ ∧ sk_A σ ∧ sk_St σ ∧ sk_C σ ∧ sk_D σ ∧ sk_E σ
theorem sk_A_t {σ τ : Int → Int → Int} (h : sk_A σ) (e : ∀ a c, (a = 3 ∨ a = 9 ∨ a = 10 ∨ a = 11) → τ a c = σ a c) : sk_A τ := by
  unfold sk_A sk_si sn_rn at h ⊢
  simp only [e 3 _ (by decide), e 9 _ (by decide), e 10 _ (by decide), e 11 _ (by decide)]
  exact h
theorem sk_St_t {σ τ : Int → Int → Int} (h : sk_St σ) (e : ∀ a c, (a = 9 ∨ a = 10 ∨ a = 13 ∨ a = 15 ∨ a = 16) → τ a c = σ a c) : sk_St τ := by
  unfold sk_St sn_od sn_p9 at h ⊢
  simp only [e 9 _ (by decide), e 10 _ (by decide), e 13 _ (by decide), e 15 _ (by decide), e 16 _ (by decide)]
  exact h
theorem sk_fb_t {σ τ : Int → Int → Int} {w b : Int} (h : sk_fb σ w b) (e10 : ∀ c, τ 10 c = σ 10 c) (e11 : ∀ c, τ 11 c = σ 11 c) (e60 : τ 60 b = σ 60 b) (e20 : ∀ c, τ (20 + b) c = σ (20 + b) c) : sk_fb τ w b := by
  unfold sk_fb sn_cd at h ⊢
  simp only [e10, e11, e60, e20]
  exact h
theorem sk_C_t {σ τ : Int → Int → Int} (h : sk_C σ) (e : ∀ a c, (a = 10 ∨ a = 11 ∨ (20 ≤ a ∧ a < 62)) → τ a c = σ a c) : sk_C τ := by
  refine ⟨fun l j a1 a2 a3 a4 a5 => ?_, fun b a1 a2 => by rw [e 60 b (by omega)]; exact h.2 b a1 a2⟩
  rw [e 61 _ (by omega)] at a5
  exact sk_fb_t (h.1 l j a1 a2 a3 a4 a5) (fun _ => e _ _ (by omega)) (fun _ => e _ _ (by omega)) (e _ _ (by omega)) (fun _ => e _ _ (by omega))
theorem sk_D_t {σ τ : Int → Int → Int} (h : sk_D σ) (e : ∀ a c, (a = 3 ∨ 217 ≤ a) → τ a c = σ a c) : sk_D τ := by
  obtain ⟨h1, h2, h3, h4, h5, h6, h7⟩ := h
  refine ⟨fun l s a1 a2 a3 a4 => ?_, fun s a1 a2 => ?_, fun l s a1 a2 a3 a4 a5 => ?_, ?_, ?_, fun l a1 a2 => ?_, fun l a1 a2 => ?_⟩
  · rw [e _ _ (by omega)]; exact h1 l s a1 a2 a3 a4
  · rw [e _ _ (by omega)]; exact h2 s a1 a2
  · rw [e _ _ (by omega)] at a5 ⊢; exact h3 l s a1 a2 a3 a4 a5
  · unfold sk_nl at h4 ⊢; simp only [e 217 _ (by decide), e 228 _ (by decide)]; exact h4
  · unfold sk_ns at h5 ⊢; simp only [e 217 _ (by decide), e 230 _ (by decide)]; exact h5
  · rw [e 3 _ (by omega)] at a1; rw [e _ _ (by omega)]; exact h6 l a1 a2
  · rw [e _ _ (by omega)]; exact h7 l a1 a2
theorem sk_E_t {σ τ : Int → Int → Int} (h : sk_E σ) (e : ∀ a c, (a = 178 ∨ a = 211) → τ a c = σ a c) : sk_E τ := by
  unfold sk_E at h ⊢
  simp only [e 178 _ (by decide), e 211 _ (by decide)]
  exact h
/-- what counts are made of, and they -/
def sk_S (a : Int) : Prop := a = 3 ∨ a = 10 ∨ a = 11 ∨ (20 ≤ a ∧ a < 62) ∨ (65 ≤ a ∧ a < 217)
theorem sk_rko_t {σ τ : Int → Int → Int} (h : sn_rko σ) (e : ∀ a c, sk_S a → τ a c = σ a c) : sn_rko τ := by
  unfold sk_S at e
  unfold sn_rko sn_rn sn_PJ sn_PK sn_run at h ⊢
  simp only [e 212 _ (by decide), e 10 _ (by decide), e 11 _ (by decide), e 213 _ (by decide), e 214 _ (by decide), e 215 _ (by decide)]
  have e83 : ∀ s, sn_sum (fun l => τ (83 + l) s) 8 = sn_sum (fun l => σ (83 + l) s) 8 := fun s => sn_sum_c 8 (fun i g => e _ _ (by omega))
  have e198 : ∀ s, sn_sum (fun l => τ (198 + l) s) 8 = sn_sum (fun l => σ (198 + l) s) 8 := fun s => sn_sum_c 8 (fun i g => e _ _ (by omega))
  simp only [e83, e198]
  exact h
theorem sk_Ct_t {σ τ : Int → Int → Int} (h : sn_Ct σ) (e : ∀ a c, sk_S a → τ a c = σ a c) (hn : σ 3 0 ≤ 8) : sn_Ct τ := by
  obtain ⟨h1, h2, h3⟩ := h
  have h3' := sk_rko_t h3 e
  unfold sk_S at e
  refine ⟨fun l a1 a2 => ?_, sn_b12_t h2 (fun a c _ _ => e a c (by omega)), h3'⟩
  rw [e 3 0 (by decide)] at a2
  obtain ⟨b1, b2, b3⟩ := h1 l a1 a2
  rw [e 211 4 (by decide)]
  obtain ⟨d1, d2, d3, d4, d5, d6⟩ := b1
  have eg : sn_gv τ l = sn_gv σ l := sn_gv_t (fun c => e 61 c (by decide))
  refine ⟨⟨sn_or_t d1 (e _ _ (by omega)) (fun _ => e _ _ (by omega)) (fun _ => e _ _ (by omega)) (fun _ => e _ _ (by omega)) (fun _ => e _ _ (by omega)), ?_, ?_, ?_, ?_, ?_⟩, sn_pt_t b2 (e _ _ (by omega)) (fun _ => e _ _ (by omega)) (fun _ => e _ _ (by omega)) (fun _ => e _ _ (by omega)), sn_php_t b3 (fun _ => e _ _ (by omega)) (fun _ => e _ _ (by omega)) (fun _ => e _ _ (by omega))⟩
  · rw [e 92 l (by omega), eg]; exact d2
  · rw [e 93 l (by omega), eg]; exact d3
  · rw [e 93 l (by omega), eg]; exact d4
  · intro z j c1 c2 c3 c4 c5
    rw [e 93 l (by omega)] at z
    rw [e 61 _ (by omega)] at c3
    rw [e 92 _ (by omega)] at c4
    rw [e 60 _ (by omega)] at c5
    rw [e (20 + (l * 5 + j)) 0 (by omega), e (65 + l) _ (by omega)]
    exact d5 z j c1 c2 c3 c4 c5
  · rw [e 94 l (by omega)]; exact d6
theorem sk_In_t {σ τ : Int → Int → Int} (h : sn_In σ) (e : ∀ a c, sk_S a → τ a c = σ a c) (e15 : τ 15 3 = σ 15 3) (e2 : τ 2 15 ≠ 0 → σ 2 15 ≠ 0) : sn_In τ := by
  obtain ⟨h1, h2, h3, h4, h5, h6⟩ := h
  have hct : τ 2 15 ≠ 0 → sn_Ct τ := fun z => sk_Ct_t (h6 (e2 z)) e h1.2
  unfold sk_S at e
  refine ⟨by rw [e 3 0 (by omega)]; exact h1, fun l a1 a2 => sn_bg_t (h2 l a1 a2) a1 a2 (fun a c _ _ => e a c (by omega)), fun x a1 a2 => by rw [e _ _ (by omega)]; exact h3 x a1 a2, by rw [e15]; exact h4, fun l s a1 a2 a3 a4 => ?_, hct⟩
  rw [e 3 0 (by omega)] at a1
  rw [e _ _ (by omega), e _ _ (by omega)]
  exact h5 l s a1 a2 a3 a4
/-- a state that isn't counted -/
theorem sk_In_0 {σ τ : Int → Int → Int} (h : sn_In σ) (e : ∀ a c, (a = 95 ∨ (83 ≤ a ∧ a < 91) ∨ (198 ≤ a ∧ a < 206)) → τ a c = σ a c) (h3 : σ 3 0 ≤ τ 3 0) (h38 : τ 3 0 ≤ 8) (hC : sk_C τ) (h15 : 0 ≤ τ 15 3 ∧ τ 15 3 ≤ 8) (e2 : τ 2 15 = 0) : sn_In τ := by
  obtain ⟨g1, g2, g3, g4, g5, g6⟩ := h
  refine ⟨⟨by omega, h38⟩, fun l a1 a2 j b1 b2 b3 => ?_, fun x a1 a2 => by rw [e _ _ (by omega)]; exact g3 x a1 a2, h15, fun l s a1 a2 a3 a4 => ?_, fun z => absurd e2 z⟩
  · obtain ⟨c1, c2, c3, -⟩ := hC.1 l j a1 a2 b1 b2 b3
    exact ⟨c1, c2, fun i d1 d2 => ⟨(c3 i d1 d2).1, (c3 i d1 d2).2.1⟩⟩
  · rw [e _ _ (by omega), e _ _ (by omega)]
    exact g5 l s (by omega) a2 a3 a4
theorem sk_Iv_cf {σ τ : Int → Int → Int} (h : sk_Iv σ) (e : sn_cf σ τ) (hI : sn_In τ) : sk_Iv τ := by
  obtain ⟨-, h2, h3, h4, h5, h6⟩ := h
  exact ⟨hI, sk_A_t h2 (fun a c g => e a c (by omega) (by omega)), sk_St_t h3 (fun a c g => e a c (by omega) (by omega)), sk_C_t h4 (fun a c g => e a c (by omega) (by omega)), sk_D_t h5 (fun a c g => e a c (by omega) (by omega)), sk_E_t h6 (fun a c g => e a c (by omega) (by omega))⟩
/-- after a question: all counted, nothing else changed -/
def sk_q (σ τ : Int → Int → Int) : Prop := sn_cf σ τ ∧ (σ 2 15 ≠ 0 → τ = σ) ∧ sk_Iv τ ∧ sn_Ct τ ∧ τ 2 15 ≠ 0
theorem sk_count {n k : Nat} {Y : Nat → Nat × Nat} {X : Nat → Nat → sn_V} {σ : Int → Int → Int} {Q : Option sn_V → sn_H → Prop} (hYX : sn_YX Y X) (hI : sk_Iv σ) (kk : ∀ τ, sk_q σ τ → Q none (sn_hh n k Y τ X)) : sn_Wp 22 0 [sn_r 2, sn_u] [] (sn_hh n k Y σ X) Q := sp_count hYX hI.1 (fun τ h1 h2 h3 h4 => kk τ ⟨h1, h2, sk_Iv_cf hI h1 h3, h3.2.2.2.2.2 h4, h4⟩)
theorem sk_nl0 {n k : Nat} {Y : Nat → Nat × Nat} {X : Nat → Nat → sn_V} {σ : Int → Int → Int} {Q : Option sn_V → sn_H → Prop} {l : Int} (h1 : 0 ≤ l) (h2 : l < 8) (kk : Q (some (sn_i (σ 4 l))) (sn_hh n k Y σ X)) : sn_Wp 91 0 [sn_r 2, sn_i l, sn_i 0] [] (sn_hh n k Y σ X) Q := by
  refine sn_q_iloadn sn_bc_91 dX9_numberOfLand_0 rfl ?_
  refine sn_q_sw (t := 56) sn_bc_91 dX9_numberOfLand_1 (by decide) rfl rfl ?_
  refine sn_q_aloadn sn_bc_91 dX9_numberOfLand_56 rfl ?_
  refine sn_q_getr (v := 3) sn_bc_91 dX9_numberOfLand_57 sn_oc_91 sn_pf_9_38 (by decide) rfl rfl (by decide) ?_
  refine sn_q_getr (v := 4) sn_bc_91 dX9_numberOfLand_60 sn_oc_91 sn_pf_9_381 (by decide) rfl rfl (by decide) ?_
  refine sn_q_iloadn sn_bc_91 dX9_numberOfLand_63 rfl ?_
  refine sn_q_iald (P := 4) sn_bc_91 dX9_numberOfLand_64 sn_a4 rfl (by omega) (by omega) ?_
  refine sn_q_iret sn_bc_91 dX9_numberOfLand_65 rfl ?_
  first
    | exact kk
    | (rw [if_pos (by omega)] at kk; exact kk)
    | (rw [if_neg (by omega)] at kk; exact kk)
theorem sk_nl1 {n k : Nat} {Y : Nat → Nat × Nat} {X : Nat → Nat → sn_V} {σ : Int → Int → Int} {Q : Option sn_V → sn_H → Prop} {l : Int} (h1 : 0 ≤ l) (h2 : l < 8) (kk : Q (some (sn_i (σ 5 l))) (sn_hh n k Y σ X)) : sn_Wp 91 0 [sn_r 2, sn_i l, sn_i 1] [] (sn_hh n k Y σ X) Q := by
  refine sn_q_iloadn sn_bc_91 dX9_numberOfLand_0 rfl ?_
  refine sn_q_sw (t := 66) sn_bc_91 dX9_numberOfLand_1 (by decide) rfl rfl ?_
  refine sn_q_aloadn sn_bc_91 dX9_numberOfLand_66 rfl ?_
  refine sn_q_getr (v := 3) sn_bc_91 dX9_numberOfLand_67 sn_oc_91 sn_pf_9_38 (by decide) rfl rfl (by decide) ?_
  refine sn_q_getr (v := 5) sn_bc_91 dX9_numberOfLand_70 sn_oc_91 sn_pf_9_384 (by decide) rfl rfl (by decide) ?_
  refine sn_q_iloadn sn_bc_91 dX9_numberOfLand_73 rfl ?_
  refine sn_q_iald (P := 5) sn_bc_91 dX9_numberOfLand_74 sn_a5 rfl (by omega) (by omega) ?_
  refine sn_q_iret sn_bc_91 dX9_numberOfLand_75 rfl ?_
  first
    | exact kk
    | (rw [if_pos (by omega)] at kk; exact kk)
    | (rw [if_neg (by omega)] at kk; exact kk)
theorem sk_nl2 {n k : Nat} {Y : Nat → Nat × Nat} {X : Nat → Nat → sn_V} {σ : Int → Int → Int} {Q : Option sn_V → sn_H → Prop} {l : Int} (h1 : 0 ≤ l) (h2 : l < 8) (kk : Q (some (sn_i (σ 6 l))) (sn_hh n k Y σ X)) : sn_Wp 91 0 [sn_r 2, sn_i l, sn_i 2] [] (sn_hh n k Y σ X) Q := by
  refine sn_q_iloadn sn_bc_91 dX9_numberOfLand_0 rfl ?_
  refine sn_q_sw (t := 76) sn_bc_91 dX9_numberOfLand_1 (by decide) rfl rfl ?_
  refine sn_q_aloadn sn_bc_91 dX9_numberOfLand_76 rfl ?_
  refine sn_q_getr (v := 3) sn_bc_91 dX9_numberOfLand_77 sn_oc_91 sn_pf_9_38 (by decide) rfl rfl (by decide) ?_
  refine sn_q_getr (v := 6) sn_bc_91 dX9_numberOfLand_80 sn_oc_91 sn_pf_9_169 (by decide) rfl rfl (by decide) ?_
  refine sn_q_iloadn sn_bc_91 dX9_numberOfLand_83 rfl ?_
  refine sn_q_iald (P := 6) sn_bc_91 dX9_numberOfLand_84 sn_a6 rfl (by omega) (by omega) ?_
  refine sn_q_iret sn_bc_91 dX9_numberOfLand_85 rfl ?_
  first
    | exact kk
    | (rw [if_pos (by omega)] at kk; exact kk)
    | (rw [if_neg (by omega)] at kk; exact kk)
theorem sk_nl3 {n k : Nat} {Y : Nat → Nat × Nat} {X : Nat → Nat → sn_V} {σ : Int → Int → Int} {Q : Option sn_V → sn_H → Prop} {l : Int} (h1 : 0 ≤ l) (h2 : l < 8) (kk : Q (some (sn_i (sn_gv σ l))) (sn_hh n k Y σ X)) : sn_Wp 91 0 [sn_r 2, sn_i l, sn_i 3] [] (sn_hh n k Y σ X) Q := by
  refine sn_q_iloadn sn_bc_91 dX9_numberOfLand_0 rfl ?_
  refine sn_q_sw (t := 86) sn_bc_91 dX9_numberOfLand_1 (by decide) rfl rfl ?_
  refine sn_q_aloadn sn_bc_91 dX9_numberOfLand_86 rfl ?_
  refine sn_q_getr (v := 18) sn_bc_91 dX9_numberOfLand_87 sn_oc_91 sn_pf_9_50 (by decide) rfl rfl (by decide) ?_
  refine sn_q_iloadn sn_bc_91 dX9_numberOfLand_90 rfl ?_
  refine sn_q_invV sn_bc_91 dX9_numberOfLand_91 sn_oc_91 sn_pv_9_387 (by decide) rfl (by decide) (sn_h1 (by decide)) rfl rfl rfl rfl (sp_given (by omega) (by omega) ?_)
  refine sn_q_iret sn_bc_91 dX9_numberOfLand_94 rfl ?_
  first
    | exact kk
    | (rw [if_pos (by omega)] at kk; exact kk)
    | (rw [if_neg (by omega)] at kk; exact kk)
theorem sk_nl4 {n k : Nat} {Y : Nat → Nat × Nat} {X : Nat → Nat → sn_V} {σ : Int → Int → Int} {Q : Option sn_V → sn_H → Prop} {l : Int} (h1 : 0 ≤ l) (h2 : l < 8) (kk : Q (some (sn_i (σ 92 l))) (sn_hh n k Y σ X)) : sn_Wp 91 0 [sn_r 2, sn_i l, sn_i 4] [] (sn_hh n k Y σ X) Q := by
  refine sn_q_iloadn sn_bc_91 dX9_numberOfLand_0 rfl ?_
  refine sn_q_sw (t := 95) sn_bc_91 dX9_numberOfLand_1 (by decide) rfl rfl ?_
  refine sn_q_aloadn sn_bc_91 dX9_numberOfLand_95 rfl ?_
  refine sn_q_getr (v := 63) sn_bc_91 dX9_numberOfLand_96 sn_oc_91 sn_pf_9_54 (by decide) rfl rfl (by decide) ?_
  refine sn_q_getr (v := 92) sn_bc_91 dX9_numberOfLand_99 sn_oc_91 sn_pf_9_390 (by decide) rfl rfl (by decide) ?_
  refine sn_q_iloadn sn_bc_91 dX9_numberOfLand_102 rfl ?_
  refine sn_q_iald (P := 92) sn_bc_91 dX9_numberOfLand_103 sn_a92 rfl (by omega) (by omega) ?_
  refine sn_q_iret sn_bc_91 dX9_numberOfLand_104 rfl ?_
  first
    | exact kk
    | (rw [if_pos (by omega)] at kk; exact kk)
    | (rw [if_neg (by omega)] at kk; exact kk)
theorem sk_nl5 {n k : Nat} {Y : Nat → Nat × Nat} {X : Nat → Nat → sn_V} {σ : Int → Int → Int} {Q : Option sn_V → sn_H → Prop} {l : Int} (h1 : 0 ≤ l) (h2 : l < 8) (kk : Q (some (sn_i ((if σ 93 l = 0 then 0 else 1)))) (sn_hh n k Y σ X)) : sn_Wp 91 0 [sn_r 2, sn_i l, sn_i 5] [] (sn_hh n k Y σ X) Q := by
  refine sn_q_iloadn sn_bc_91 dX9_numberOfLand_0 rfl ?_
  refine sn_q_sw (t := 105) sn_bc_91 dX9_numberOfLand_1 (by decide) rfl rfl ?_
  refine sn_q_aloadn sn_bc_91 dX9_numberOfLand_105 rfl ?_
  refine sn_q_getr (v := 63) sn_bc_91 dX9_numberOfLand_106 sn_oc_91 sn_pf_9_54 (by decide) rfl rfl (by decide) ?_
  refine sn_q_getr (v := 93) sn_bc_91 dX9_numberOfLand_109 sn_oc_91 sn_pf_9_393 (by decide) rfl rfl (by decide) ?_
  refine sn_q_iloadn sn_bc_91 dX9_numberOfLand_112 rfl ?_
  refine sn_q_bald (P := 93) sn_bc_91 dX9_numberOfLand_113 sn_a93 rfl (by omega) (by omega) ?_
  refine sn_q_ifeq (t := 121) sn_bc_91 dX9_numberOfLand_114 rfl (fun c_114 => ?_) (fun c_114 => ?_)
  · refine sn_q_iconst sn_bc_91 dX9_numberOfLand_121 rfl ?_
    refine sn_q_iret sn_bc_91 dX9_numberOfLand_122 rfl ?_
    first
      | exact kk
      | (rw [if_pos (by omega)] at kk; exact kk)
      | (rw [if_neg (by omega)] at kk; exact kk)
  · refine sn_q_iconst sn_bc_91 dX9_numberOfLand_117 rfl ?_
    refine sn_q_goto (t := 122) sn_bc_91 dX9_numberOfLand_118 rfl ?_
    refine sn_q_iret sn_bc_91 dX9_numberOfLand_122 rfl ?_
    first
      | exact kk
      | (rw [if_pos (by omega)] at kk; exact kk)
      | (rw [if_neg (by omega)] at kk; exact kk)
theorem sk_nl6 {n k : Nat} {Y : Nat → Nat × Nat} {X : Nat → Nat → sn_V} {σ : Int → Int → Int} {Q : Option sn_V → sn_H → Prop} {l : Int} (h1 : 0 ≤ l) (h2 : l < 8) (kk : Q (some (sn_i (σ 206 l))) (sn_hh n k Y σ X)) : sn_Wp 91 0 [sn_r 2, sn_i l, sn_i 6] [] (sn_hh n k Y σ X) Q := by
  refine sn_q_iloadn sn_bc_91 dX9_numberOfLand_0 rfl ?_
  refine sn_q_sw (t := 123) sn_bc_91 dX9_numberOfLand_1 (by decide) rfl rfl ?_
  refine sn_q_aloadn sn_bc_91 dX9_numberOfLand_123 rfl ?_
  refine sn_q_getr (v := 96) sn_bc_91 dX9_numberOfLand_124 sn_oc_91 sn_pf_9_58 (by decide) rfl rfl (by decide) ?_
  refine sn_q_getr (v := 206) sn_bc_91 dX9_numberOfLand_127 sn_oc_91 sn_pf_9_396 (by decide) rfl rfl (by decide) ?_
  refine sn_q_iloadn sn_bc_91 dX9_numberOfLand_130 rfl ?_
  refine sn_q_iald (P := 206) sn_bc_91 dX9_numberOfLand_131 sn_a206 rfl (by omega) (by omega) ?_
  refine sn_q_iret sn_bc_91 dX9_numberOfLand_132 rfl ?_
  first
    | exact kk
    | (rw [if_pos (by omega)] at kk; exact kk)
    | (rw [if_neg (by omega)] at kk; exact kk)
theorem sk_nl7 {n k : Nat} {Y : Nat → Nat × Nat} {X : Nat → Nat → sn_V} {σ : Int → Int → Int} {Q : Option sn_V → sn_H → Prop} {l : Int} (h1 : 0 ≤ l) (h2 : l < 8) (kk : Q (some (sn_i (σ 207 l))) (sn_hh n k Y σ X)) : sn_Wp 91 0 [sn_r 2, sn_i l, sn_i 7] [] (sn_hh n k Y σ X) Q := by
  refine sn_q_iloadn sn_bc_91 dX9_numberOfLand_0 rfl ?_
  refine sn_q_sw (t := 133) sn_bc_91 dX9_numberOfLand_1 (by decide) rfl rfl ?_
  refine sn_q_aloadn sn_bc_91 dX9_numberOfLand_133 rfl ?_
  refine sn_q_getr (v := 96) sn_bc_91 dX9_numberOfLand_134 sn_oc_91 sn_pf_9_58 (by decide) rfl rfl (by decide) ?_
  refine sn_q_getr (v := 207) sn_bc_91 dX9_numberOfLand_137 sn_oc_91 sn_pf_9_399 (by decide) rfl rfl (by decide) ?_
  refine sn_q_iloadn sn_bc_91 dX9_numberOfLand_140 rfl ?_
  refine sn_q_iald (P := 207) sn_bc_91 dX9_numberOfLand_141 sn_a207 rfl (by omega) (by omega) ?_
  refine sn_q_iret sn_bc_91 dX9_numberOfLand_142 rfl ?_
  first
    | exact kk
    | (rw [if_pos (by omega)] at kk; exact kk)
    | (rw [if_neg (by omega)] at kk; exact kk)
theorem sk_nl8 {n k : Nat} {Y : Nat → Nat × Nat} {X : Nat → Nat → sn_V} {σ : Int → Int → Int} {Q : Option sn_V → sn_H → Prop} {l : Int} (h1 : 0 ≤ l) (h2 : l < 8) (kk : Q (some (sn_i ((if σ 228 l = 0 then 0 else 1)))) (sn_hh n k Y σ X)) : sn_Wp 91 0 [sn_r 2, sn_i l, sn_i 8] [] (sn_hh n k Y σ X) Q := by
  refine sn_q_iloadn sn_bc_91 dX9_numberOfLand_0 rfl ?_
  refine sn_q_sw (t := 143) sn_bc_91 dX9_numberOfLand_1 (by decide) rfl rfl ?_
  refine sn_q_aloadn sn_bc_91 dX9_numberOfLand_143 rfl ?_
  refine sn_q_getr (v := 217) sn_bc_91 dX9_numberOfLand_144 sn_oc_91 sn_pf_9_76 (by decide) rfl rfl (by decide) ?_
  refine sn_q_getr (v := 228) sn_bc_91 dX9_numberOfLand_147 sn_oc_91 sn_pf_9_260 (by decide) rfl rfl (by decide) ?_
  refine sn_q_iloadn sn_bc_91 dX9_numberOfLand_150 rfl ?_
  refine sn_q_bald (P := 228) sn_bc_91 dX9_numberOfLand_151 sn_a228 rfl (by omega) (by omega) ?_
  refine sn_q_ifeq (t := 159) sn_bc_91 dX9_numberOfLand_152 rfl (fun c_152 => ?_) (fun c_152 => ?_)
  · refine sn_q_iconst sn_bc_91 dX9_numberOfLand_159 rfl ?_
    refine sn_q_iret sn_bc_91 dX9_numberOfLand_160 rfl ?_
    first
      | exact kk
      | (rw [if_pos (by omega)] at kk; exact kk)
      | (rw [if_neg (by omega)] at kk; exact kk)
  · refine sn_q_iconst sn_bc_91 dX9_numberOfLand_155 rfl ?_
    refine sn_q_goto (t := 160) sn_bc_91 dX9_numberOfLand_156 rfl ?_
    refine sn_q_iret sn_bc_91 dX9_numberOfLand_160 rfl ?_
    first
      | exact kk
      | (rw [if_pos (by omega)] at kk; exact kk)
      | (rw [if_neg (by omega)] at kk; exact kk)
theorem sk_nl9 {n k : Nat} {Y : Nat → Nat × Nat} {X : Nat → Nat → sn_V} {σ : Int → Int → Int} {Q : Option sn_V → sn_H → Prop} {l : Int} (h1 : 0 ≤ l) (h2 : l < 8) (kk : Q (some (sn_i (σ 7 l))) (sn_hh n k Y σ X)) : sn_Wp 91 0 [sn_r 2, sn_i l, sn_i 9] [] (sn_hh n k Y σ X) Q := by
  refine sn_q_iloadn sn_bc_91 dX9_numberOfLand_0 rfl ?_
  refine sn_q_sw (t := 161) sn_bc_91 dX9_numberOfLand_1 (by decide) rfl rfl ?_
  refine sn_q_aloadn sn_bc_91 dX9_numberOfLand_161 rfl ?_
  refine sn_q_getr (v := 3) sn_bc_91 dX9_numberOfLand_162 sn_oc_91 sn_pf_9_38 (by decide) rfl rfl (by decide) ?_
  refine sn_q_getr (v := 7) sn_bc_91 dX9_numberOfLand_165 sn_oc_91 sn_pf_9_313 (by decide) rfl rfl (by decide) ?_
  refine sn_q_iloadn sn_bc_91 dX9_numberOfLand_168 rfl ?_
  refine sn_q_iald (P := 7) sn_bc_91 dX9_numberOfLand_169 sn_a7 rfl (by omega) (by omega) ?_
  refine sn_q_iret sn_bc_91 dX9_numberOfLand_170 rfl ?_
  first
    | exact kk
    | (rw [if_pos (by omega)] at kk; exact kk)
    | (rw [if_neg (by omega)] at kk; exact kk)
theorem sk_nl10 {n k : Nat} {Y : Nat → Nat × Nat} {X : Nat → Nat → sn_V} {σ : Int → Int → Int} {Q : Option sn_V → sn_H → Prop} {l : Int} (h1 : 0 ≤ l) (h2 : l < 8) (kk : Q (some (sn_i (σ 8 l))) (sn_hh n k Y σ X)) : sn_Wp 91 0 [sn_r 2, sn_i l, sn_i 10] [] (sn_hh n k Y σ X) Q := by
  refine sn_q_iloadn sn_bc_91 dX9_numberOfLand_0 rfl ?_
  refine sn_q_swD (t := 171) sn_bc_91 dX9_numberOfLand_1 (by decide) rfl ?_
  refine sn_q_aloadn sn_bc_91 dX9_numberOfLand_171 rfl ?_
  refine sn_q_getr (v := 3) sn_bc_91 dX9_numberOfLand_172 sn_oc_91 sn_pf_9_38 (by decide) rfl rfl (by decide) ?_
  refine sn_q_getr (v := 8) sn_bc_91 dX9_numberOfLand_175 sn_oc_91 sn_pf_9_319 (by decide) rfl rfl (by decide) ?_
  refine sn_q_iloadn sn_bc_91 dX9_numberOfLand_178 rfl ?_
  refine sn_q_iald (P := 8) sn_bc_91 dX9_numberOfLand_179 sn_a8 rfl (by omega) (by omega) ?_
  refine sn_q_iret sn_bc_91 dX9_numberOfLand_180 rfl ?_
  first
    | exact kk
    | (rw [if_pos (by omega)] at kk; exact kk)
    | (rw [if_neg (by omega)] at kk; exact kk)
theorem sk_nlx {n k : Nat} {Y : Nat → Nat × Nat} {X : Nat → Nat → sn_V} {σ : Int → Int → Int} {Q : Option sn_V → sn_H → Prop} {l x : Int} (h1 : 0 ≤ l) (h2 : l < 8) (h3 : 0 ≤ x) (h4 : x ≤ 10) (kk : ∀ r : Int, Q (some (sn_i r)) (sn_hh n k Y σ X)) : sn_Wp 91 0 [sn_r 2, sn_i l, sn_i x] [] (sn_hh n k Y σ X) Q := by
  rcases (show x = 0 ∨ x = 1 ∨ x = 2 ∨ x = 3 ∨ x = 4 ∨ x = 5 ∨ x = 6 ∨ x = 7 ∨ x = 8 ∨ x = 9 ∨ x = 10 by omega) with rfl | rfl | rfl | rfl | rfl | rfl | rfl | rfl | rfl | rfl | rfl
  · exact sk_nl0 h1 h2 (kk _)
  · exact sk_nl1 h1 h2 (kk _)
  · exact sk_nl2 h1 h2 (kk _)
  · exact sk_nl3 h1 h2 (kk _)
  · exact sk_nl4 h1 h2 (kk _)
  · exact sk_nl5 h1 h2 (kk _)
  · exact sk_nl6 h1 h2 (kk _)
  · exact sk_nl7 h1 h2 (kk _)
  · exact sk_nl8 h1 h2 (kk _)
  · exact sk_nl9 h1 h2 (kk _)
  · exact sk_nl10 h1 h2 (kk _)
theorem sk_ofLand3 {n k : Nat} {Y : Nat → Nat × Nat} {X : Nat → Nat → sn_V} {σ : Int → Int → Int} {Q : Option sn_V → sn_H → Prop} {l : Int} (hYX : sn_YX Y X) (hI : sk_Iv σ) (h1 : 0 ≤ l) (h2 : l < σ 3 0) (kk : ∀ τ, sk_q σ τ → Q (some (sn_i (sn_gv τ l))) (sn_hh n k Y τ X)) : sn_Wp 90 0 [sn_r 2, sn_i l, sn_i 3] [] (sn_hh n k Y σ X) Q := by
  refine sn_q_aloadn sn_bc_90 dX9_ofLand_0 rfl ?_
  refine sn_q_iloadn sn_bc_90 dX9_ofLand_1 rfl ?_
  refine sn_q_invV sn_bc_90 dX9_ofLand_2 sn_oc_90 sn_pv_9_152 (by decide) rfl (by decide) (sn_h1 (by decide)) rfl rfl rfl rfl (sp_needLand h1 h2 hI.1.1.2 ?_)
  refine sn_q_iloadn sn_bc_90 dX9_ofLand_5 rfl ?_
  refine sn_q_iconst sn_bc_90 dX9_ofLand_6 rfl ?_
  refine sn_q_bipush sn_bc_90 dX9_ofLand_7 rfl ?_
  refine sn_q_invS sn_bc_90 dX9_ofLand_9 sn_oc_90 sn_px_9_103 sn_ps_9_103 (by decide) rfl rfl rfl (sp_isWithin (fun w1 w2 => ?_) (fun w => ?_))
  · refine sn_q_ifne (t := 26) sn_bc_90 dX9_ofLand_12 rfl (fun _ => ?_) (fun c => absurd (by decide) c)
    refine sn_q_aloadn sn_bc_90 dX9_ofLand_26 rfl ?_
    refine sn_q_invV sn_bc_90 dX9_ofLand_27 sn_oc_90 sn_pv_9_255 (by decide) rfl (by decide) (sn_h1 (by decide)) rfl rfl rfl rfl (sk_count hYX hI (fun τ hq => ?_))
    refine sn_q_aloadn sn_bc_90 dX9_ofLand_30 rfl ?_
    refine sn_q_iloadn sn_bc_90 dX9_ofLand_31 rfl ?_
    refine sn_q_iloadn sn_bc_90 dX9_ofLand_32 rfl ?_
    refine sn_q_invV sn_bc_90 dX9_ofLand_33 sn_oc_90 sn_pv_9_333 (by decide) rfl (by decide) (sn_h1 (by decide)) rfl rfl rfl rfl (sk_nl3 h1 (by have := hI.1.1.2; omega) ?_)
    refine sn_q_iret sn_bc_90 dX9_ofLand_36 rfl ?_
    exact kk τ hq
  · refine sn_q_ifne (t := 26) sn_bc_90 dX9_ofLand_12 rfl (fun c => absurd c (by decide)) (fun _ => ?_)
    exfalso; omega
theorem sk_ofLand4 {n k : Nat} {Y : Nat → Nat × Nat} {X : Nat → Nat → sn_V} {σ : Int → Int → Int} {Q : Option sn_V → sn_H → Prop} {l : Int} (hYX : sn_YX Y X) (hI : sk_Iv σ) (h1 : 0 ≤ l) (h2 : l < σ 3 0) (kk : ∀ τ, sk_q σ τ → Q (some (sn_i (τ 92 l))) (sn_hh n k Y τ X)) : sn_Wp 90 0 [sn_r 2, sn_i l, sn_i 4] [] (sn_hh n k Y σ X) Q := by
  refine sn_q_aloadn sn_bc_90 dX9_ofLand_0 rfl ?_
  refine sn_q_iloadn sn_bc_90 dX9_ofLand_1 rfl ?_
  refine sn_q_invV sn_bc_90 dX9_ofLand_2 sn_oc_90 sn_pv_9_152 (by decide) rfl (by decide) (sn_h1 (by decide)) rfl rfl rfl rfl (sp_needLand h1 h2 hI.1.1.2 ?_)
  refine sn_q_iloadn sn_bc_90 dX9_ofLand_5 rfl ?_
  refine sn_q_iconst sn_bc_90 dX9_ofLand_6 rfl ?_
  refine sn_q_bipush sn_bc_90 dX9_ofLand_7 rfl ?_
  refine sn_q_invS sn_bc_90 dX9_ofLand_9 sn_oc_90 sn_px_9_103 sn_ps_9_103 (by decide) rfl rfl rfl (sp_isWithin (fun w1 w2 => ?_) (fun w => ?_))
  · refine sn_q_ifne (t := 26) sn_bc_90 dX9_ofLand_12 rfl (fun _ => ?_) (fun c => absurd (by decide) c)
    refine sn_q_aloadn sn_bc_90 dX9_ofLand_26 rfl ?_
    refine sn_q_invV sn_bc_90 dX9_ofLand_27 sn_oc_90 sn_pv_9_255 (by decide) rfl (by decide) (sn_h1 (by decide)) rfl rfl rfl rfl (sk_count hYX hI (fun τ hq => ?_))
    refine sn_q_aloadn sn_bc_90 dX9_ofLand_30 rfl ?_
    refine sn_q_iloadn sn_bc_90 dX9_ofLand_31 rfl ?_
    refine sn_q_iloadn sn_bc_90 dX9_ofLand_32 rfl ?_
    refine sn_q_invV sn_bc_90 dX9_ofLand_33 sn_oc_90 sn_pv_9_333 (by decide) rfl (by decide) (sn_h1 (by decide)) rfl rfl rfl rfl (sk_nl4 h1 (by have := hI.1.1.2; omega) ?_)
    refine sn_q_iret sn_bc_90 dX9_ofLand_36 rfl ?_
    exact kk τ hq
  · refine sn_q_ifne (t := 26) sn_bc_90 dX9_ofLand_12 rfl (fun c => absurd c (by decide)) (fun _ => ?_)
    exfalso; omega
theorem sk_ofLand5 {n k : Nat} {Y : Nat → Nat × Nat} {X : Nat → Nat → sn_V} {σ : Int → Int → Int} {Q : Option sn_V → sn_H → Prop} {l : Int} (hYX : sn_YX Y X) (hI : sk_Iv σ) (h1 : 0 ≤ l) (h2 : l < σ 3 0) (kk : ∀ τ, sk_q σ τ → Q (some (sn_i ((if τ 93 l = 0 then 0 else 1)))) (sn_hh n k Y τ X)) : sn_Wp 90 0 [sn_r 2, sn_i l, sn_i 5] [] (sn_hh n k Y σ X) Q := by
  refine sn_q_aloadn sn_bc_90 dX9_ofLand_0 rfl ?_
  refine sn_q_iloadn sn_bc_90 dX9_ofLand_1 rfl ?_
  refine sn_q_invV sn_bc_90 dX9_ofLand_2 sn_oc_90 sn_pv_9_152 (by decide) rfl (by decide) (sn_h1 (by decide)) rfl rfl rfl rfl (sp_needLand h1 h2 hI.1.1.2 ?_)
  refine sn_q_iloadn sn_bc_90 dX9_ofLand_5 rfl ?_
  refine sn_q_iconst sn_bc_90 dX9_ofLand_6 rfl ?_
  refine sn_q_bipush sn_bc_90 dX9_ofLand_7 rfl ?_
  refine sn_q_invS sn_bc_90 dX9_ofLand_9 sn_oc_90 sn_px_9_103 sn_ps_9_103 (by decide) rfl rfl rfl (sp_isWithin (fun w1 w2 => ?_) (fun w => ?_))
  · refine sn_q_ifne (t := 26) sn_bc_90 dX9_ofLand_12 rfl (fun _ => ?_) (fun c => absurd (by decide) c)
    refine sn_q_aloadn sn_bc_90 dX9_ofLand_26 rfl ?_
    refine sn_q_invV sn_bc_90 dX9_ofLand_27 sn_oc_90 sn_pv_9_255 (by decide) rfl (by decide) (sn_h1 (by decide)) rfl rfl rfl rfl (sk_count hYX hI (fun τ hq => ?_))
    refine sn_q_aloadn sn_bc_90 dX9_ofLand_30 rfl ?_
    refine sn_q_iloadn sn_bc_90 dX9_ofLand_31 rfl ?_
    refine sn_q_iloadn sn_bc_90 dX9_ofLand_32 rfl ?_
    refine sn_q_invV sn_bc_90 dX9_ofLand_33 sn_oc_90 sn_pv_9_333 (by decide) rfl (by decide) (sn_h1 (by decide)) rfl rfl rfl rfl (sk_nl5 h1 (by have := hI.1.1.2; omega) ?_)
    refine sn_q_iret sn_bc_90 dX9_ofLand_36 rfl ?_
    exact kk τ hq
  · refine sn_q_ifne (t := 26) sn_bc_90 dX9_ofLand_12 rfl (fun c => absurd c (by decide)) (fun _ => ?_)
    exfalso; omega
theorem sk_ofLand8 {n k : Nat} {Y : Nat → Nat × Nat} {X : Nat → Nat → sn_V} {σ : Int → Int → Int} {Q : Option sn_V → sn_H → Prop} {l : Int} (hYX : sn_YX Y X) (hI : sk_Iv σ) (h1 : 0 ≤ l) (h2 : l < σ 3 0) (kk : ∀ τ, sk_q σ τ → Q (some (sn_i ((if τ 228 l = 0 then 0 else 1)))) (sn_hh n k Y τ X)) : sn_Wp 90 0 [sn_r 2, sn_i l, sn_i 8] [] (sn_hh n k Y σ X) Q := by
  refine sn_q_aloadn sn_bc_90 dX9_ofLand_0 rfl ?_
  refine sn_q_iloadn sn_bc_90 dX9_ofLand_1 rfl ?_
  refine sn_q_invV sn_bc_90 dX9_ofLand_2 sn_oc_90 sn_pv_9_152 (by decide) rfl (by decide) (sn_h1 (by decide)) rfl rfl rfl rfl (sp_needLand h1 h2 hI.1.1.2 ?_)
  refine sn_q_iloadn sn_bc_90 dX9_ofLand_5 rfl ?_
  refine sn_q_iconst sn_bc_90 dX9_ofLand_6 rfl ?_
  refine sn_q_bipush sn_bc_90 dX9_ofLand_7 rfl ?_
  refine sn_q_invS sn_bc_90 dX9_ofLand_9 sn_oc_90 sn_px_9_103 sn_ps_9_103 (by decide) rfl rfl rfl (sp_isWithin (fun w1 w2 => ?_) (fun w => ?_))
  · refine sn_q_ifne (t := 26) sn_bc_90 dX9_ofLand_12 rfl (fun _ => ?_) (fun c => absurd (by decide) c)
    refine sn_q_aloadn sn_bc_90 dX9_ofLand_26 rfl ?_
    refine sn_q_invV sn_bc_90 dX9_ofLand_27 sn_oc_90 sn_pv_9_255 (by decide) rfl (by decide) (sn_h1 (by decide)) rfl rfl rfl rfl (sk_count hYX hI (fun τ hq => ?_))
    refine sn_q_aloadn sn_bc_90 dX9_ofLand_30 rfl ?_
    refine sn_q_iloadn sn_bc_90 dX9_ofLand_31 rfl ?_
    refine sn_q_iloadn sn_bc_90 dX9_ofLand_32 rfl ?_
    refine sn_q_invV sn_bc_90 dX9_ofLand_33 sn_oc_90 sn_pv_9_333 (by decide) rfl (by decide) (sn_h1 (by decide)) rfl rfl rfl rfl (sk_nl8 h1 (by have := hI.1.1.2; omega) ?_)
    refine sn_q_iret sn_bc_90 dX9_ofLand_36 rfl ?_
    exact kk τ hq
  · refine sn_q_ifne (t := 26) sn_bc_90 dX9_ofLand_12 rfl (fun c => absurd c (by decide)) (fun _ => ?_)
    exfalso; omega
theorem sk_ofLand9 {n k : Nat} {Y : Nat → Nat × Nat} {X : Nat → Nat → sn_V} {σ : Int → Int → Int} {Q : Option sn_V → sn_H → Prop} {l : Int} (hYX : sn_YX Y X) (hI : sk_Iv σ) (h1 : 0 ≤ l) (h2 : l < σ 3 0) (kk : ∀ τ, sk_q σ τ → Q (some (sn_i (τ 7 l))) (sn_hh n k Y τ X)) : sn_Wp 90 0 [sn_r 2, sn_i l, sn_i 9] [] (sn_hh n k Y σ X) Q := by
  refine sn_q_aloadn sn_bc_90 dX9_ofLand_0 rfl ?_
  refine sn_q_iloadn sn_bc_90 dX9_ofLand_1 rfl ?_
  refine sn_q_invV sn_bc_90 dX9_ofLand_2 sn_oc_90 sn_pv_9_152 (by decide) rfl (by decide) (sn_h1 (by decide)) rfl rfl rfl rfl (sp_needLand h1 h2 hI.1.1.2 ?_)
  refine sn_q_iloadn sn_bc_90 dX9_ofLand_5 rfl ?_
  refine sn_q_iconst sn_bc_90 dX9_ofLand_6 rfl ?_
  refine sn_q_bipush sn_bc_90 dX9_ofLand_7 rfl ?_
  refine sn_q_invS sn_bc_90 dX9_ofLand_9 sn_oc_90 sn_px_9_103 sn_ps_9_103 (by decide) rfl rfl rfl (sp_isWithin (fun w1 w2 => ?_) (fun w => ?_))
  · refine sn_q_ifne (t := 26) sn_bc_90 dX9_ofLand_12 rfl (fun _ => ?_) (fun c => absurd (by decide) c)
    refine sn_q_aloadn sn_bc_90 dX9_ofLand_26 rfl ?_
    refine sn_q_invV sn_bc_90 dX9_ofLand_27 sn_oc_90 sn_pv_9_255 (by decide) rfl (by decide) (sn_h1 (by decide)) rfl rfl rfl rfl (sk_count hYX hI (fun τ hq => ?_))
    refine sn_q_aloadn sn_bc_90 dX9_ofLand_30 rfl ?_
    refine sn_q_iloadn sn_bc_90 dX9_ofLand_31 rfl ?_
    refine sn_q_iloadn sn_bc_90 dX9_ofLand_32 rfl ?_
    refine sn_q_invV sn_bc_90 dX9_ofLand_33 sn_oc_90 sn_pv_9_333 (by decide) rfl (by decide) (sn_h1 (by decide)) rfl rfl rfl rfl (sk_nl9 h1 (by have := hI.1.1.2; omega) ?_)
    refine sn_q_iret sn_bc_90 dX9_ofLand_36 rfl ?_
    exact kk τ hq
  · refine sn_q_ifne (t := 26) sn_bc_90 dX9_ofLand_12 rfl (fun c => absurd c (by decide)) (fun _ => ?_)
    exfalso; omega
theorem sk_ofLand10 {n k : Nat} {Y : Nat → Nat × Nat} {X : Nat → Nat → sn_V} {σ : Int → Int → Int} {Q : Option sn_V → sn_H → Prop} {l : Int} (hYX : sn_YX Y X) (hI : sk_Iv σ) (h1 : 0 ≤ l) (h2 : l < σ 3 0) (kk : ∀ τ, sk_q σ τ → Q (some (sn_i (τ 8 l))) (sn_hh n k Y τ X)) : sn_Wp 90 0 [sn_r 2, sn_i l, sn_i 10] [] (sn_hh n k Y σ X) Q := by
  refine sn_q_aloadn sn_bc_90 dX9_ofLand_0 rfl ?_
  refine sn_q_iloadn sn_bc_90 dX9_ofLand_1 rfl ?_
  refine sn_q_invV sn_bc_90 dX9_ofLand_2 sn_oc_90 sn_pv_9_152 (by decide) rfl (by decide) (sn_h1 (by decide)) rfl rfl rfl rfl (sp_needLand h1 h2 hI.1.1.2 ?_)
  refine sn_q_iloadn sn_bc_90 dX9_ofLand_5 rfl ?_
  refine sn_q_iconst sn_bc_90 dX9_ofLand_6 rfl ?_
  refine sn_q_bipush sn_bc_90 dX9_ofLand_7 rfl ?_
  refine sn_q_invS sn_bc_90 dX9_ofLand_9 sn_oc_90 sn_px_9_103 sn_ps_9_103 (by decide) rfl rfl rfl (sp_isWithin (fun w1 w2 => ?_) (fun w => ?_))
  · refine sn_q_ifne (t := 26) sn_bc_90 dX9_ofLand_12 rfl (fun _ => ?_) (fun c => absurd (by decide) c)
    refine sn_q_aloadn sn_bc_90 dX9_ofLand_26 rfl ?_
    refine sn_q_invV sn_bc_90 dX9_ofLand_27 sn_oc_90 sn_pv_9_255 (by decide) rfl (by decide) (sn_h1 (by decide)) rfl rfl rfl rfl (sk_count hYX hI (fun τ hq => ?_))
    refine sn_q_aloadn sn_bc_90 dX9_ofLand_30 rfl ?_
    refine sn_q_iloadn sn_bc_90 dX9_ofLand_31 rfl ?_
    refine sn_q_iloadn sn_bc_90 dX9_ofLand_32 rfl ?_
    refine sn_q_invV sn_bc_90 dX9_ofLand_33 sn_oc_90 sn_pv_9_333 (by decide) rfl (by decide) (sn_h1 (by decide)) rfl rfl rfl rfl (sk_nl10 h1 (by have := hI.1.1.2; omega) ?_)
    refine sn_q_iret sn_bc_90 dX9_ofLand_36 rfl ?_
    exact kk τ hq
  · refine sn_q_ifne (t := 26) sn_bc_90 dX9_ofLand_12 rfl (fun c => absurd c (by decide)) (fun _ => ?_)
    exfalso; omega
theorem sk_tot_bd {σ : Int → Int → Int} (hC : sn_Ct σ) (s : Int) (h0 : 0 ≤ s) (h8 : s < 8) : 0 ≤ σ 213 s ∧ σ 213 s ≤ 96 ∧ 0 ≤ σ 214 s ∧ σ 214 s ≤ 96 := by
  have hJ := sn_PJ_bd hC.2.1 h0 h8
  have hK := sn_PK_bd hC.2.1 h0 h8
  have hr := hC.2.2.2.1 s h0 h8
  by_cases e : sn_run σ s
  · have := hr.1 e; omega
  · have := hr.2 e; omega
theorem sk_ns4 {n k : Nat} {Y : Nat → Nat × Nat} {X : Nat → Nat → sn_V} {σ : Int → Int → Int} {Q : Option sn_V → sn_H → Prop} {s : Int} (hC : sn_Ct σ) (hI : sk_Iv σ) (h1 : 0 ≤ s) (h2 : s < 8) (kk : Q (some (sn_i ((if σ 11 s = 0 then 0 else 1)))) (sn_hh n k Y σ X)) : sn_Wp 77 0 [sn_r 2, sn_i s, sn_i 4] [] (sn_hh n k Y σ X) Q := by
  have ht := sk_tot_bd hC s h1 h2
  have hj := sk_jo_bd hI.2.2.2.2.1.1 h1 h2
  have hc := hI.2.2.2.2.1.2.1 s h1 h2
  refine sn_q_iloadn sn_bc_77 dX9_numberOfSong_0 rfl ?_
  refine sn_q_sw (t := 91) sn_bc_77 dX9_numberOfSong_1 (by decide) rfl rfl ?_
  refine sn_q_aloadn sn_bc_77 dX9_numberOfSong_91 rfl ?_
  refine sn_q_getr (v := 9) sn_bc_77 dX9_numberOfSong_92 sn_oc_77 sn_pf_9_42 (by decide) rfl rfl (by decide) ?_
  refine sn_q_getr (v := 11) sn_bc_77 dX9_numberOfSong_95 sn_oc_77 sn_pf_9_238 (by decide) rfl rfl (by decide) ?_
  refine sn_q_iloadn sn_bc_77 dX9_numberOfSong_98 rfl ?_
  refine sn_q_bald (P := 11) sn_bc_77 dX9_numberOfSong_99 sn_a11 rfl (by omega) (by omega) ?_
  refine sn_q_ifeq (t := 107) sn_bc_77 dX9_numberOfSong_100 rfl (fun c_100 => ?_) (fun c_100 => ?_)
  · refine sn_q_iconst sn_bc_77 dX9_numberOfSong_107 rfl ?_
    refine sn_q_iret sn_bc_77 dX9_numberOfSong_108 rfl ?_
    first
      | exact kk
      | (rw [if_pos (by omega)] at kk; exact kk)
      | (rw [if_neg (by omega)] at kk; exact kk)
  · refine sn_q_iconst sn_bc_77 dX9_numberOfSong_103 rfl ?_
    refine sn_q_goto (t := 108) sn_bc_77 dX9_numberOfSong_104 rfl ?_
    refine sn_q_iret sn_bc_77 dX9_numberOfSong_108 rfl ?_
    first
      | exact kk
      | (rw [if_pos (by omega)] at kk; exact kk)
      | (rw [if_neg (by omega)] at kk; exact kk)
theorem sk_ns5 {n k : Nat} {Y : Nat → Nat × Nat} {X : Nat → Nat → sn_V} {σ : Int → Int → Int} {Q : Option sn_V → sn_H → Prop} {s : Int} (hC : sn_Ct σ) (hI : sk_Iv σ) (h1 : 0 ≤ s) (h2 : s < 8) (kk : Q (some (sn_i (σ 213 s))) (sn_hh n k Y σ X)) : sn_Wp 77 0 [sn_r 2, sn_i s, sn_i 5] [] (sn_hh n k Y σ X) Q := by
  have ht := sk_tot_bd hC s h1 h2
  have hj := sk_jo_bd hI.2.2.2.2.1.1 h1 h2
  have hc := hI.2.2.2.2.1.2.1 s h1 h2
  refine sn_q_iloadn sn_bc_77 dX9_numberOfSong_0 rfl ?_
  refine sn_q_sw (t := 109) sn_bc_77 dX9_numberOfSong_1 (by decide) rfl rfl ?_
  refine sn_q_aloadn sn_bc_77 dX9_numberOfSong_109 rfl ?_
  refine sn_q_getr (v := 212) sn_bc_77 dX9_numberOfSong_110 sn_oc_77 sn_pf_9_67 (by decide) rfl rfl (by decide) ?_
  refine sn_q_getr (v := 213) sn_bc_77 dX9_numberOfSong_113 sn_oc_77 sn_pf_9_414 (by decide) rfl rfl (by decide) ?_
  refine sn_q_iloadn sn_bc_77 dX9_numberOfSong_116 rfl ?_
  refine sn_q_iald (P := 213) sn_bc_77 dX9_numberOfSong_117 sn_a213 rfl (by omega) (by omega) ?_
  refine sn_q_iret sn_bc_77 dX9_numberOfSong_118 rfl ?_
  first
    | exact kk
    | (rw [if_pos (by omega)] at kk; exact kk)
    | (rw [if_neg (by omega)] at kk; exact kk)
theorem sk_ns6 {n k : Nat} {Y : Nat → Nat × Nat} {X : Nat → Nat → sn_V} {σ : Int → Int → Int} {Q : Option sn_V → sn_H → Prop} {s : Int} (hC : sn_Ct σ) (hI : sk_Iv σ) (h1 : 0 ≤ s) (h2 : s < 8) (kk : Q (some (sn_i (σ 214 s))) (sn_hh n k Y σ X)) : sn_Wp 77 0 [sn_r 2, sn_i s, sn_i 6] [] (sn_hh n k Y σ X) Q := by
  have ht := sk_tot_bd hC s h1 h2
  have hj := sk_jo_bd hI.2.2.2.2.1.1 h1 h2
  have hc := hI.2.2.2.2.1.2.1 s h1 h2
  refine sn_q_iloadn sn_bc_77 dX9_numberOfSong_0 rfl ?_
  refine sn_q_sw (t := 119) sn_bc_77 dX9_numberOfSong_1 (by decide) rfl rfl ?_
  refine sn_q_aloadn sn_bc_77 dX9_numberOfSong_119 rfl ?_
  refine sn_q_getr (v := 212) sn_bc_77 dX9_numberOfSong_120 sn_oc_77 sn_pf_9_67 (by decide) rfl rfl (by decide) ?_
  refine sn_q_getr (v := 214) sn_bc_77 dX9_numberOfSong_123 sn_oc_77 sn_pf_9_296 (by decide) rfl rfl (by decide) ?_
  refine sn_q_iloadn sn_bc_77 dX9_numberOfSong_126 rfl ?_
  refine sn_q_iald (P := 214) sn_bc_77 dX9_numberOfSong_127 sn_a214 rfl (by omega) (by omega) ?_
  refine sn_q_iret sn_bc_77 dX9_numberOfSong_128 rfl ?_
  first
    | exact kk
    | (rw [if_pos (by omega)] at kk; exact kk)
    | (rw [if_neg (by omega)] at kk; exact kk)
theorem sk_ns7 {n k : Nat} {Y : Nat → Nat × Nat} {X : Nat → Nat → sn_V} {σ : Int → Int → Int} {Q : Option sn_V → sn_H → Prop} {s : Int} (hC : sn_Ct σ) (hI : sk_Iv σ) (h1 : 0 ≤ s) (h2 : s < 8) (kk : Q (some (sn_i (σ 213 s + σ 214 s))) (sn_hh n k Y σ X)) : sn_Wp 77 0 [sn_r 2, sn_i s, sn_i 7] [] (sn_hh n k Y σ X) Q := by
  have ht := sk_tot_bd hC s h1 h2
  have hj := sk_jo_bd hI.2.2.2.2.1.1 h1 h2
  have hc := hI.2.2.2.2.1.2.1 s h1 h2
  refine sn_q_iloadn sn_bc_77 dX9_numberOfSong_0 rfl ?_
  refine sn_q_sw (t := 129) sn_bc_77 dX9_numberOfSong_1 (by decide) rfl rfl ?_
  refine sn_q_aloadn sn_bc_77 dX9_numberOfSong_129 rfl ?_
  refine sn_q_getr (v := 212) sn_bc_77 dX9_numberOfSong_130 sn_oc_77 sn_pf_9_67 (by decide) rfl rfl (by decide) ?_
  refine sn_q_getr (v := 213) sn_bc_77 dX9_numberOfSong_133 sn_oc_77 sn_pf_9_414 (by decide) rfl rfl (by decide) ?_
  refine sn_q_iloadn sn_bc_77 dX9_numberOfSong_136 rfl ?_
  refine sn_q_iald (P := 213) sn_bc_77 dX9_numberOfSong_137 sn_a213 rfl (by omega) (by omega) ?_
  refine sn_q_aloadn sn_bc_77 dX9_numberOfSong_138 rfl ?_
  refine sn_q_getr (v := 212) sn_bc_77 dX9_numberOfSong_139 sn_oc_77 sn_pf_9_67 (by decide) rfl rfl (by decide) ?_
  refine sn_q_getr (v := 214) sn_bc_77 dX9_numberOfSong_142 sn_oc_77 sn_pf_9_296 (by decide) rfl rfl (by decide) ?_
  refine sn_q_iloadn sn_bc_77 dX9_numberOfSong_145 rfl ?_
  refine sn_q_iald (P := 214) sn_bc_77 dX9_numberOfSong_146 sn_a214 rfl (by omega) (by omega) ?_
  refine sn_q_iadd sn_bc_77 dX9_numberOfSong_147 (by omega) (by omega) ?_
  refine sn_q_iret sn_bc_77 dX9_numberOfSong_148 rfl ?_
  first
    | exact kk
    | (rw [if_pos (by omega)] at kk; exact kk)
    | (rw [if_neg (by omega)] at kk; exact kk)
theorem sk_ns9 {n k : Nat} {Y : Nat → Nat × Nat} {X : Nat → Nat → sn_V} {σ : Int → Int → Int} {Q : Option sn_V → sn_H → Prop} {s : Int} (hC : sn_Ct σ) (hI : sk_Iv σ) (h1 : 0 ≤ s) (h2 : s < 8) (kk : Q (some (sn_i (sk_jo σ s + σ 227 s))) (sn_hh n k Y σ X)) : sn_Wp 77 0 [sn_r 2, sn_i s, sn_i 9] [] (sn_hh n k Y σ X) Q := by
  have ht := sk_tot_bd hC s h1 h2
  have hj := sk_jo_bd hI.2.2.2.2.1.1 h1 h2
  have hc := hI.2.2.2.2.1.2.1 s h1 h2
  refine sn_q_iloadn sn_bc_77 dX9_numberOfSong_0 rfl ?_
  refine sn_q_swD (t := 158) sn_bc_77 dX9_numberOfSong_1 (by decide) rfl ?_
  refine sn_q_aloadn sn_bc_77 dX9_numberOfSong_158 rfl ?_
  refine sn_q_getr (v := 217) sn_bc_77 dX9_numberOfSong_159 sn_oc_77 sn_pf_9_76 (by decide) rfl rfl (by decide) ?_
  refine sn_q_iloadn sn_bc_77 dX9_numberOfSong_162 rfl ?_
  refine sn_q_invV sn_bc_77 dX9_numberOfSong_163 sn_oc_77 sn_pv_9_420 (by decide) rfl (by decide) (sn_h1 (by decide)) rfl rfl rfl rfl (sk_juryOf (by omega) (by omega) hI.2.2.2.2.1.1 ?_)
  refine sn_q_aloadn sn_bc_77 dX9_numberOfSong_166 rfl ?_
  refine sn_q_getr (v := 217) sn_bc_77 dX9_numberOfSong_167 sn_oc_77 sn_pf_9_76 (by decide) rfl rfl (by decide) ?_
  refine sn_q_getr (v := 227) sn_bc_77 dX9_numberOfSong_170 sn_oc_77 sn_pf_9_423 (by decide) rfl rfl (by decide) ?_
  refine sn_q_iloadn sn_bc_77 dX9_numberOfSong_173 rfl ?_
  refine sn_q_iald (P := 227) sn_bc_77 dX9_numberOfSong_174 sn_a227 rfl (by omega) (by omega) ?_
  refine sn_q_iadd sn_bc_77 dX9_numberOfSong_175 (by omega) (by omega) ?_
  refine sn_q_iret sn_bc_77 dX9_numberOfSong_176 rfl ?_
  first
    | exact kk
    | (rw [if_pos (by omega)] at kk; exact kk)
    | (rw [if_neg (by omega)] at kk; exact kk)
theorem sk_ns3 {n k : Nat} {Y : Nat → Nat × Nat} {X : Nat → Nat → sn_V} {σ : Int → Int → Int} {Q : Option sn_V → sn_H → Prop} {s : Int} (hC : sn_Ct σ) (hI : sk_Iv σ) (h1 : 0 ≤ s) (h2 : s < 8) (h3 : σ 10 s ≠ 0) (kk : ∀ r : Int, 0 ≤ r → Q (some (sn_i r)) (sn_hh n k Y σ X)) : sn_Wp 77 0 [sn_r 2, sn_i s, sn_i 3] [] (sn_hh n k Y σ X) Q := by
  refine sn_q_iloadn sn_bc_77 dX9_numberOfSong_0 rfl ?_
  refine sn_q_sw (t := 82) sn_bc_77 dX9_numberOfSong_1 (by decide) rfl rfl ?_
  refine sn_q_aloadn sn_bc_77 dX9_numberOfSong_82 rfl ?_
  refine sn_q_getr (v := 15) sn_bc_77 dX9_numberOfSong_83 sn_oc_77 sn_pf_9_46 (by decide) rfl rfl (by decide) ?_
  refine sn_q_iloadn sn_bc_77 dX9_numberOfSong_86 rfl ?_
  refine sn_q_invV sn_bc_77 dX9_numberOfSong_87 sn_oc_77 sn_pv_9_411 (by decide) rfl (by decide) (sn_h1 (by decide)) rfl rfl rfl rfl (sp_placeOf hI.1.2.2.2.1.1 hI.1.2.2.2.1.2 (fun r hr => ?_))
  refine sn_q_iret sn_bc_77 dX9_numberOfSong_90 rfl ?_
  refine kk r ?_
  rcases hr with ⟨hr1, hr2⟩ | hr
  · obtain ⟨p, b1, b2, b3⟩ := hI.2.2.1.2.2.2.2.1 s h1 h2 h3
    exact absurd b3 (hr2 p b1 b2)
  · exact hr.1
theorem sk_ns8 {n k : Nat} {Y : Nat → Nat × Nat} {X : Nat → Nat → sn_V} {σ : Int → Int → Int} {Q : Option sn_V → sn_H → Prop} {s : Int} (hC : sn_Ct σ) (hI : sk_Iv σ) (h1 : 0 ≤ s) (h2 : s < 8) (kk : ∀ r : Int, ((r = -1 ∧ ∀ i, 0 ≤ i → i < σ 212 8 → σ 215 i ≠ s) ∨ (0 ≤ r ∧ r < σ 212 8 ∧ σ 215 r = s)) → Q (some (sn_i r)) (sn_hh n k Y σ X)) : sn_Wp 77 0 [sn_r 2, sn_i s, sn_i 8] [] (sn_hh n k Y σ X) Q := by
  refine sn_q_iloadn sn_bc_77 dX9_numberOfSong_0 rfl ?_
  refine sn_q_sw (t := 149) sn_bc_77 dX9_numberOfSong_1 (by decide) rfl rfl ?_
  refine sn_q_aloadn sn_bc_77 dX9_numberOfSong_149 rfl ?_
  refine sn_q_getr (v := 212) sn_bc_77 dX9_numberOfSong_150 sn_oc_77 sn_pf_9_67 (by decide) rfl rfl (by decide) ?_
  refine sn_q_iloadn sn_bc_77 dX9_numberOfSong_153 rfl ?_
  refine sn_q_invV sn_bc_77 dX9_numberOfSong_154 sn_oc_77 sn_pv_9_417 (by decide) rfl (by decide) (sn_h1 (by decide)) rfl rfl rfl rfl (sp_rankOf (by have := @sn_rn_bd σ 8; have := hC.2.2.1; omega) (by have := @sn_rn_bd σ 8; have := hC.2.2.1; omega) (fun r hr => ?_))
  refine sn_q_iret sn_bc_77 dX9_numberOfSong_157 rfl ?_
  exact kk r hr
theorem sk_ofSong3 {n k : Nat} {Y : Nat → Nat × Nat} {X : Nat → Nat → sn_V} {σ : Int → Int → Int} {Q : Option sn_V → sn_H → Prop} {s : Int} (hYX : sn_YX Y X) (hI : sk_Iv σ) (h1 : 0 ≤ s) (h2 : s < 8) (h3 : σ 10 s ≠ 0) (kk : ∀ τ, sk_q σ τ → ∀ r : Int, 0 ≤ r → Q (some (sn_i r)) (sn_hh n k Y τ X)) : sn_Wp 75 0 [sn_r 2, sn_i s, sn_i 3] [] (sn_hh n k Y σ X) Q := by
  refine sn_q_aloadn sn_bc_75 dX9_ofSong_0 rfl ?_
  refine sn_q_iloadn sn_bc_75 dX9_ofSong_1 rfl ?_
  refine sn_q_invV sn_bc_75 dX9_ofSong_2 sn_oc_75 sn_pv_9_152 (by decide) rfl (by decide) (sn_h1 (by decide)) rfl rfl rfl rfl (sp_needLand h1 (hI.2.1.1 s h1 h2 h3) hI.1.1.2 ?_)
  refine sn_q_aloadn sn_bc_75 dX9_ofSong_5 rfl ?_
  refine sn_q_iloadn sn_bc_75 dX9_ofSong_6 rfl ?_
  refine sn_q_invV sn_bc_75 dX9_ofSong_7 sn_oc_75 sn_pv_9_222 (by decide) rfl (by decide) (sn_h1 (by decide)) rfl rfl rfl rfl (sp_needSong h1 h2 h3 ?_)
  refine sn_q_iloadn sn_bc_75 dX9_ofSong_10 rfl ?_
  refine sn_q_iconst sn_bc_75 dX9_ofSong_11 rfl ?_
  refine sn_q_bipush sn_bc_75 dX9_ofSong_12 rfl ?_
  refine sn_q_invS sn_bc_75 dX9_ofSong_14 sn_oc_75 sn_px_9_103 sn_ps_9_103 (by decide) rfl rfl rfl (sp_isWithin (fun w1 w2 => ?_) (fun w => ?_))
  · refine sn_q_ifne (t := 31) sn_bc_75 dX9_ofSong_17 rfl (fun _ => ?_) (fun c => absurd (by decide) c)
    refine sn_q_aloadn sn_bc_75 dX9_ofSong_31 rfl ?_
    refine sn_q_invV sn_bc_75 dX9_ofSong_32 sn_oc_75 sn_pv_9_255 (by decide) rfl (by decide) (sn_h1 (by decide)) rfl rfl rfl rfl (sk_count hYX hI (fun τ hq => ?_))
    have h3' : τ 10 s ≠ 0 := by rw [hq.1 10 s (by omega) (by omega)]; exact h3
    refine sn_q_aloadn sn_bc_75 dX9_ofSong_35 rfl ?_
    refine sn_q_iloadn sn_bc_75 dX9_ofSong_36 rfl ?_
    refine sn_q_iloadn sn_bc_75 dX9_ofSong_37 rfl ?_
    refine sn_q_invV sn_bc_75 dX9_ofSong_38 sn_oc_75 sn_pv_9_338 (by decide) rfl (by decide) (sn_h1 (by decide)) rfl rfl rfl rfl (sk_ns3 hq.2.2.2.1 hq.2.2.1 h1 h2 h3' (fun r hr => ?_))
    refine sn_q_iret sn_bc_75 dX9_ofSong_41 rfl ?_
    exact kk τ hq r hr
  · refine sn_q_ifne (t := 31) sn_bc_75 dX9_ofSong_17 rfl (fun c => absurd c (by decide)) (fun _ => ?_)
    exfalso; omega
theorem sk_ofSong4 {n k : Nat} {Y : Nat → Nat × Nat} {X : Nat → Nat → sn_V} {σ : Int → Int → Int} {Q : Option sn_V → sn_H → Prop} {s : Int} (hYX : sn_YX Y X) (hI : sk_Iv σ) (h1 : 0 ≤ s) (h2 : s < 8) (h3 : σ 10 s ≠ 0) (kk : ∀ τ, sk_q σ τ → Q (some (sn_i ((if τ 11 s = 0 then 0 else 1)))) (sn_hh n k Y τ X)) : sn_Wp 75 0 [sn_r 2, sn_i s, sn_i 4] [] (sn_hh n k Y σ X) Q := by
  refine sn_q_aloadn sn_bc_75 dX9_ofSong_0 rfl ?_
  refine sn_q_iloadn sn_bc_75 dX9_ofSong_1 rfl ?_
  refine sn_q_invV sn_bc_75 dX9_ofSong_2 sn_oc_75 sn_pv_9_152 (by decide) rfl (by decide) (sn_h1 (by decide)) rfl rfl rfl rfl (sp_needLand h1 (hI.2.1.1 s h1 h2 h3) hI.1.1.2 ?_)
  refine sn_q_aloadn sn_bc_75 dX9_ofSong_5 rfl ?_
  refine sn_q_iloadn sn_bc_75 dX9_ofSong_6 rfl ?_
  refine sn_q_invV sn_bc_75 dX9_ofSong_7 sn_oc_75 sn_pv_9_222 (by decide) rfl (by decide) (sn_h1 (by decide)) rfl rfl rfl rfl (sp_needSong h1 h2 h3 ?_)
  refine sn_q_iloadn sn_bc_75 dX9_ofSong_10 rfl ?_
  refine sn_q_iconst sn_bc_75 dX9_ofSong_11 rfl ?_
  refine sn_q_bipush sn_bc_75 dX9_ofSong_12 rfl ?_
  refine sn_q_invS sn_bc_75 dX9_ofSong_14 sn_oc_75 sn_px_9_103 sn_ps_9_103 (by decide) rfl rfl rfl (sp_isWithin (fun w1 w2 => ?_) (fun w => ?_))
  · refine sn_q_ifne (t := 31) sn_bc_75 dX9_ofSong_17 rfl (fun _ => ?_) (fun c => absurd (by decide) c)
    refine sn_q_aloadn sn_bc_75 dX9_ofSong_31 rfl ?_
    skip
    refine sn_q_invV sn_bc_75 dX9_ofSong_32 sn_oc_75 sn_pv_9_255 (by decide) rfl (by decide) (sn_h1 (by decide)) rfl rfl rfl rfl (sk_count hYX hI (fun τ hq => ?_))
    refine sn_q_aloadn sn_bc_75 dX9_ofSong_35 rfl ?_
    refine sn_q_iloadn sn_bc_75 dX9_ofSong_36 rfl ?_
    refine sn_q_iloadn sn_bc_75 dX9_ofSong_37 rfl ?_
    refine sn_q_invV sn_bc_75 dX9_ofSong_38 sn_oc_75 sn_pv_9_338 (by decide) rfl (by decide) (sn_h1 (by decide)) rfl rfl rfl rfl (sk_ns4 hq.2.2.2.1 hq.2.2.1 h1 h2 ?_)
    refine sn_q_iret sn_bc_75 dX9_ofSong_41 rfl ?_
    exact kk τ hq
  · refine sn_q_ifne (t := 31) sn_bc_75 dX9_ofSong_17 rfl (fun c => absurd c (by decide)) (fun _ => ?_)
    exfalso; omega
theorem sk_ofSong5 {n k : Nat} {Y : Nat → Nat × Nat} {X : Nat → Nat → sn_V} {σ : Int → Int → Int} {Q : Option sn_V → sn_H → Prop} {s : Int} (hYX : sn_YX Y X) (hI : sk_Iv σ) (h1 : 0 ≤ s) (h2 : s < 8) (h3 : σ 10 s ≠ 0) (kk : ∀ τ, sk_q σ τ → Q (some (sn_i (τ 213 s))) (sn_hh n k Y τ X)) : sn_Wp 75 0 [sn_r 2, sn_i s, sn_i 5] [] (sn_hh n k Y σ X) Q := by
  refine sn_q_aloadn sn_bc_75 dX9_ofSong_0 rfl ?_
  refine sn_q_iloadn sn_bc_75 dX9_ofSong_1 rfl ?_
  refine sn_q_invV sn_bc_75 dX9_ofSong_2 sn_oc_75 sn_pv_9_152 (by decide) rfl (by decide) (sn_h1 (by decide)) rfl rfl rfl rfl (sp_needLand h1 (hI.2.1.1 s h1 h2 h3) hI.1.1.2 ?_)
  refine sn_q_aloadn sn_bc_75 dX9_ofSong_5 rfl ?_
  refine sn_q_iloadn sn_bc_75 dX9_ofSong_6 rfl ?_
  refine sn_q_invV sn_bc_75 dX9_ofSong_7 sn_oc_75 sn_pv_9_222 (by decide) rfl (by decide) (sn_h1 (by decide)) rfl rfl rfl rfl (sp_needSong h1 h2 h3 ?_)
  refine sn_q_iloadn sn_bc_75 dX9_ofSong_10 rfl ?_
  refine sn_q_iconst sn_bc_75 dX9_ofSong_11 rfl ?_
  refine sn_q_bipush sn_bc_75 dX9_ofSong_12 rfl ?_
  refine sn_q_invS sn_bc_75 dX9_ofSong_14 sn_oc_75 sn_px_9_103 sn_ps_9_103 (by decide) rfl rfl rfl (sp_isWithin (fun w1 w2 => ?_) (fun w => ?_))
  · refine sn_q_ifne (t := 31) sn_bc_75 dX9_ofSong_17 rfl (fun _ => ?_) (fun c => absurd (by decide) c)
    refine sn_q_aloadn sn_bc_75 dX9_ofSong_31 rfl ?_
    skip
    refine sn_q_invV sn_bc_75 dX9_ofSong_32 sn_oc_75 sn_pv_9_255 (by decide) rfl (by decide) (sn_h1 (by decide)) rfl rfl rfl rfl (sk_count hYX hI (fun τ hq => ?_))
    refine sn_q_aloadn sn_bc_75 dX9_ofSong_35 rfl ?_
    refine sn_q_iloadn sn_bc_75 dX9_ofSong_36 rfl ?_
    refine sn_q_iloadn sn_bc_75 dX9_ofSong_37 rfl ?_
    refine sn_q_invV sn_bc_75 dX9_ofSong_38 sn_oc_75 sn_pv_9_338 (by decide) rfl (by decide) (sn_h1 (by decide)) rfl rfl rfl rfl (sk_ns5 hq.2.2.2.1 hq.2.2.1 h1 h2 ?_)
    refine sn_q_iret sn_bc_75 dX9_ofSong_41 rfl ?_
    exact kk τ hq
  · refine sn_q_ifne (t := 31) sn_bc_75 dX9_ofSong_17 rfl (fun c => absurd c (by decide)) (fun _ => ?_)
    exfalso; omega
theorem sk_ofSong6 {n k : Nat} {Y : Nat → Nat × Nat} {X : Nat → Nat → sn_V} {σ : Int → Int → Int} {Q : Option sn_V → sn_H → Prop} {s : Int} (hYX : sn_YX Y X) (hI : sk_Iv σ) (h1 : 0 ≤ s) (h2 : s < 8) (h3 : σ 10 s ≠ 0) (kk : ∀ τ, sk_q σ τ → Q (some (sn_i (τ 214 s))) (sn_hh n k Y τ X)) : sn_Wp 75 0 [sn_r 2, sn_i s, sn_i 6] [] (sn_hh n k Y σ X) Q := by
  refine sn_q_aloadn sn_bc_75 dX9_ofSong_0 rfl ?_
  refine sn_q_iloadn sn_bc_75 dX9_ofSong_1 rfl ?_
  refine sn_q_invV sn_bc_75 dX9_ofSong_2 sn_oc_75 sn_pv_9_152 (by decide) rfl (by decide) (sn_h1 (by decide)) rfl rfl rfl rfl (sp_needLand h1 (hI.2.1.1 s h1 h2 h3) hI.1.1.2 ?_)
  refine sn_q_aloadn sn_bc_75 dX9_ofSong_5 rfl ?_
  refine sn_q_iloadn sn_bc_75 dX9_ofSong_6 rfl ?_
  refine sn_q_invV sn_bc_75 dX9_ofSong_7 sn_oc_75 sn_pv_9_222 (by decide) rfl (by decide) (sn_h1 (by decide)) rfl rfl rfl rfl (sp_needSong h1 h2 h3 ?_)
  refine sn_q_iloadn sn_bc_75 dX9_ofSong_10 rfl ?_
  refine sn_q_iconst sn_bc_75 dX9_ofSong_11 rfl ?_
  refine sn_q_bipush sn_bc_75 dX9_ofSong_12 rfl ?_
  refine sn_q_invS sn_bc_75 dX9_ofSong_14 sn_oc_75 sn_px_9_103 sn_ps_9_103 (by decide) rfl rfl rfl (sp_isWithin (fun w1 w2 => ?_) (fun w => ?_))
  · refine sn_q_ifne (t := 31) sn_bc_75 dX9_ofSong_17 rfl (fun _ => ?_) (fun c => absurd (by decide) c)
    refine sn_q_aloadn sn_bc_75 dX9_ofSong_31 rfl ?_
    skip
    refine sn_q_invV sn_bc_75 dX9_ofSong_32 sn_oc_75 sn_pv_9_255 (by decide) rfl (by decide) (sn_h1 (by decide)) rfl rfl rfl rfl (sk_count hYX hI (fun τ hq => ?_))
    refine sn_q_aloadn sn_bc_75 dX9_ofSong_35 rfl ?_
    refine sn_q_iloadn sn_bc_75 dX9_ofSong_36 rfl ?_
    refine sn_q_iloadn sn_bc_75 dX9_ofSong_37 rfl ?_
    refine sn_q_invV sn_bc_75 dX9_ofSong_38 sn_oc_75 sn_pv_9_338 (by decide) rfl (by decide) (sn_h1 (by decide)) rfl rfl rfl rfl (sk_ns6 hq.2.2.2.1 hq.2.2.1 h1 h2 ?_)
    refine sn_q_iret sn_bc_75 dX9_ofSong_41 rfl ?_
    exact kk τ hq
  · refine sn_q_ifne (t := 31) sn_bc_75 dX9_ofSong_17 rfl (fun c => absurd c (by decide)) (fun _ => ?_)
    exfalso; omega
theorem sk_ofSong7 {n k : Nat} {Y : Nat → Nat × Nat} {X : Nat → Nat → sn_V} {σ : Int → Int → Int} {Q : Option sn_V → sn_H → Prop} {s : Int} (hYX : sn_YX Y X) (hI : sk_Iv σ) (h1 : 0 ≤ s) (h2 : s < 8) (h3 : σ 10 s ≠ 0) (kk : ∀ τ, sk_q σ τ → Q (some (sn_i (τ 213 s + τ 214 s))) (sn_hh n k Y τ X)) : sn_Wp 75 0 [sn_r 2, sn_i s, sn_i 7] [] (sn_hh n k Y σ X) Q := by
  refine sn_q_aloadn sn_bc_75 dX9_ofSong_0 rfl ?_
  refine sn_q_iloadn sn_bc_75 dX9_ofSong_1 rfl ?_
  refine sn_q_invV sn_bc_75 dX9_ofSong_2 sn_oc_75 sn_pv_9_152 (by decide) rfl (by decide) (sn_h1 (by decide)) rfl rfl rfl rfl (sp_needLand h1 (hI.2.1.1 s h1 h2 h3) hI.1.1.2 ?_)
  refine sn_q_aloadn sn_bc_75 dX9_ofSong_5 rfl ?_
  refine sn_q_iloadn sn_bc_75 dX9_ofSong_6 rfl ?_
  refine sn_q_invV sn_bc_75 dX9_ofSong_7 sn_oc_75 sn_pv_9_222 (by decide) rfl (by decide) (sn_h1 (by decide)) rfl rfl rfl rfl (sp_needSong h1 h2 h3 ?_)
  refine sn_q_iloadn sn_bc_75 dX9_ofSong_10 rfl ?_
  refine sn_q_iconst sn_bc_75 dX9_ofSong_11 rfl ?_
  refine sn_q_bipush sn_bc_75 dX9_ofSong_12 rfl ?_
  refine sn_q_invS sn_bc_75 dX9_ofSong_14 sn_oc_75 sn_px_9_103 sn_ps_9_103 (by decide) rfl rfl rfl (sp_isWithin (fun w1 w2 => ?_) (fun w => ?_))
  · refine sn_q_ifne (t := 31) sn_bc_75 dX9_ofSong_17 rfl (fun _ => ?_) (fun c => absurd (by decide) c)
    refine sn_q_aloadn sn_bc_75 dX9_ofSong_31 rfl ?_
    skip
    refine sn_q_invV sn_bc_75 dX9_ofSong_32 sn_oc_75 sn_pv_9_255 (by decide) rfl (by decide) (sn_h1 (by decide)) rfl rfl rfl rfl (sk_count hYX hI (fun τ hq => ?_))
    refine sn_q_aloadn sn_bc_75 dX9_ofSong_35 rfl ?_
    refine sn_q_iloadn sn_bc_75 dX9_ofSong_36 rfl ?_
    refine sn_q_iloadn sn_bc_75 dX9_ofSong_37 rfl ?_
    refine sn_q_invV sn_bc_75 dX9_ofSong_38 sn_oc_75 sn_pv_9_338 (by decide) rfl (by decide) (sn_h1 (by decide)) rfl rfl rfl rfl (sk_ns7 hq.2.2.2.1 hq.2.2.1 h1 h2 ?_)
    refine sn_q_iret sn_bc_75 dX9_ofSong_41 rfl ?_
    exact kk τ hq
  · refine sn_q_ifne (t := 31) sn_bc_75 dX9_ofSong_17 rfl (fun c => absurd c (by decide)) (fun _ => ?_)
    exfalso; omega
theorem sk_ofSong8 {n k : Nat} {Y : Nat → Nat × Nat} {X : Nat → Nat → sn_V} {σ : Int → Int → Int} {Q : Option sn_V → sn_H → Prop} {s : Int} (hYX : sn_YX Y X) (hI : sk_Iv σ) (h1 : 0 ≤ s) (h2 : s < 8) (h3 : σ 10 s ≠ 0) (kk : ∀ τ, sk_q σ τ → ∀ r : Int, ((r = -1 ∧ ∀ i, 0 ≤ i → i < τ 212 8 → τ 215 i ≠ s) ∨ (0 ≤ r ∧ r < τ 212 8 ∧ τ 215 r = s)) → Q (some (sn_i r)) (sn_hh n k Y τ X)) : sn_Wp 75 0 [sn_r 2, sn_i s, sn_i 8] [] (sn_hh n k Y σ X) Q := by
  refine sn_q_aloadn sn_bc_75 dX9_ofSong_0 rfl ?_
  refine sn_q_iloadn sn_bc_75 dX9_ofSong_1 rfl ?_
  refine sn_q_invV sn_bc_75 dX9_ofSong_2 sn_oc_75 sn_pv_9_152 (by decide) rfl (by decide) (sn_h1 (by decide)) rfl rfl rfl rfl (sp_needLand h1 (hI.2.1.1 s h1 h2 h3) hI.1.1.2 ?_)
  refine sn_q_aloadn sn_bc_75 dX9_ofSong_5 rfl ?_
  refine sn_q_iloadn sn_bc_75 dX9_ofSong_6 rfl ?_
  refine sn_q_invV sn_bc_75 dX9_ofSong_7 sn_oc_75 sn_pv_9_222 (by decide) rfl (by decide) (sn_h1 (by decide)) rfl rfl rfl rfl (sp_needSong h1 h2 h3 ?_)
  refine sn_q_iloadn sn_bc_75 dX9_ofSong_10 rfl ?_
  refine sn_q_iconst sn_bc_75 dX9_ofSong_11 rfl ?_
  refine sn_q_bipush sn_bc_75 dX9_ofSong_12 rfl ?_
  refine sn_q_invS sn_bc_75 dX9_ofSong_14 sn_oc_75 sn_px_9_103 sn_ps_9_103 (by decide) rfl rfl rfl (sp_isWithin (fun w1 w2 => ?_) (fun w => ?_))
  · refine sn_q_ifne (t := 31) sn_bc_75 dX9_ofSong_17 rfl (fun _ => ?_) (fun c => absurd (by decide) c)
    refine sn_q_aloadn sn_bc_75 dX9_ofSong_31 rfl ?_
    skip
    refine sn_q_invV sn_bc_75 dX9_ofSong_32 sn_oc_75 sn_pv_9_255 (by decide) rfl (by decide) (sn_h1 (by decide)) rfl rfl rfl rfl (sk_count hYX hI (fun τ hq => ?_))
    refine sn_q_aloadn sn_bc_75 dX9_ofSong_35 rfl ?_
    refine sn_q_iloadn sn_bc_75 dX9_ofSong_36 rfl ?_
    refine sn_q_iloadn sn_bc_75 dX9_ofSong_37 rfl ?_
    refine sn_q_invV sn_bc_75 dX9_ofSong_38 sn_oc_75 sn_pv_9_338 (by decide) rfl (by decide) (sn_h1 (by decide)) rfl rfl rfl rfl (sk_ns8 hq.2.2.2.1 hq.2.2.1 h1 h2 (fun r hr => ?_))
    refine sn_q_iret sn_bc_75 dX9_ofSong_41 rfl ?_
    exact kk τ hq r hr
  · refine sn_q_ifne (t := 31) sn_bc_75 dX9_ofSong_17 rfl (fun c => absurd c (by decide)) (fun _ => ?_)
    exfalso; omega
theorem sk_ofSong9 {n k : Nat} {Y : Nat → Nat × Nat} {X : Nat → Nat → sn_V} {σ : Int → Int → Int} {Q : Option sn_V → sn_H → Prop} {s : Int} (hYX : sn_YX Y X) (hI : sk_Iv σ) (h1 : 0 ≤ s) (h2 : s < 8) (h3 : σ 10 s ≠ 0) (kk : ∀ τ, sk_q σ τ → Q (some (sn_i (sk_jo τ s + τ 227 s))) (sn_hh n k Y τ X)) : sn_Wp 75 0 [sn_r 2, sn_i s, sn_i 9] [] (sn_hh n k Y σ X) Q := by
  refine sn_q_aloadn sn_bc_75 dX9_ofSong_0 rfl ?_
  refine sn_q_iloadn sn_bc_75 dX9_ofSong_1 rfl ?_
  refine sn_q_invV sn_bc_75 dX9_ofSong_2 sn_oc_75 sn_pv_9_152 (by decide) rfl (by decide) (sn_h1 (by decide)) rfl rfl rfl rfl (sp_needLand h1 (hI.2.1.1 s h1 h2 h3) hI.1.1.2 ?_)
  refine sn_q_aloadn sn_bc_75 dX9_ofSong_5 rfl ?_
  refine sn_q_iloadn sn_bc_75 dX9_ofSong_6 rfl ?_
  refine sn_q_invV sn_bc_75 dX9_ofSong_7 sn_oc_75 sn_pv_9_222 (by decide) rfl (by decide) (sn_h1 (by decide)) rfl rfl rfl rfl (sp_needSong h1 h2 h3 ?_)
  refine sn_q_iloadn sn_bc_75 dX9_ofSong_10 rfl ?_
  refine sn_q_iconst sn_bc_75 dX9_ofSong_11 rfl ?_
  refine sn_q_bipush sn_bc_75 dX9_ofSong_12 rfl ?_
  refine sn_q_invS sn_bc_75 dX9_ofSong_14 sn_oc_75 sn_px_9_103 sn_ps_9_103 (by decide) rfl rfl rfl (sp_isWithin (fun w1 w2 => ?_) (fun w => ?_))
  · refine sn_q_ifne (t := 31) sn_bc_75 dX9_ofSong_17 rfl (fun _ => ?_) (fun c => absurd (by decide) c)
    refine sn_q_aloadn sn_bc_75 dX9_ofSong_31 rfl ?_
    skip
    refine sn_q_invV sn_bc_75 dX9_ofSong_32 sn_oc_75 sn_pv_9_255 (by decide) rfl (by decide) (sn_h1 (by decide)) rfl rfl rfl rfl (sk_count hYX hI (fun τ hq => ?_))
    refine sn_q_aloadn sn_bc_75 dX9_ofSong_35 rfl ?_
    refine sn_q_iloadn sn_bc_75 dX9_ofSong_36 rfl ?_
    refine sn_q_iloadn sn_bc_75 dX9_ofSong_37 rfl ?_
    refine sn_q_invV sn_bc_75 dX9_ofSong_38 sn_oc_75 sn_pv_9_338 (by decide) rfl (by decide) (sn_h1 (by decide)) rfl rfl rfl rfl (sk_ns9 hq.2.2.2.1 hq.2.2.1 h1 h2 ?_)
    refine sn_q_iret sn_bc_75 dX9_ofSong_41 rfl ?_
    exact kk τ hq
  · refine sn_q_ifne (t := 31) sn_bc_75 dX9_ofSong_17 rfl (fun c => absurd c (by decide)) (fun _ => ?_)
    exfalso; omega
theorem sk_nc0 {n k : Nat} {Y : Nat → Nat × Nat} {X : Nat → Nat → sn_V} {σ : Int → Int → Int} {Q : Option sn_V → sn_H → Prop} (hI : sk_Iv σ) (kk : Q (some (sn_i (σ 2 9))) (sn_hh n k Y σ X)) : sn_Wp 55 0 [sn_r 2, sn_i 0] [] (sn_hh n k Y σ X) Q := by
  refine sn_q_iloadn sn_bc_55 dX9_numberOfContest_0 rfl ?_
  refine sn_q_sw (t := 60) sn_bc_55 dX9_numberOfContest_1 (by decide) rfl rfl ?_
  refine sn_q_aloadn sn_bc_55 dX9_numberOfContest_60 rfl ?_
  refine sn_q_geti (P := 2) (J := 9) sn_bc_55 dX9_numberOfContest_61 sn_oc_55 sn_pf_9_80 (by decide) rfl rfl rfl rfl ?_
  refine sn_q_iret sn_bc_55 dX9_numberOfContest_64 rfl ?_
  exact kk
theorem sk_nc1 {n k : Nat} {Y : Nat → Nat × Nat} {X : Nat → Nat → sn_V} {σ : Int → Int → Int} {Q : Option sn_V → sn_H → Prop} (hI : sk_Iv σ) (kk : Q (some (sn_i (σ 2 10))) (sn_hh n k Y σ X)) : sn_Wp 55 0 [sn_r 2, sn_i 1] [] (sn_hh n k Y σ X) Q := by
  refine sn_q_iloadn sn_bc_55 dX9_numberOfContest_0 rfl ?_
  refine sn_q_sw (t := 65) sn_bc_55 dX9_numberOfContest_1 (by decide) rfl rfl ?_
  refine sn_q_aloadn sn_bc_55 dX9_numberOfContest_65 rfl ?_
  refine sn_q_geti (P := 2) (J := 10) sn_bc_55 dX9_numberOfContest_66 sn_oc_55 sn_pf_9_84 (by decide) rfl rfl rfl rfl ?_
  refine sn_q_iret sn_bc_55 dX9_numberOfContest_69 rfl ?_
  exact kk
theorem sk_nc2 {n k : Nat} {Y : Nat → Nat × Nat} {X : Nat → Nat → sn_V} {σ : Int → Int → Int} {Q : Option sn_V → sn_H → Prop} (hI : sk_Iv σ) (kk : Q (some (sn_i (σ 3 0))) (sn_hh n k Y σ X)) : sn_Wp 55 0 [sn_r 2, sn_i 2] [] (sn_hh n k Y σ X) Q := by
  refine sn_q_iloadn sn_bc_55 dX9_numberOfContest_0 rfl ?_
  refine sn_q_sw (t := 70) sn_bc_55 dX9_numberOfContest_1 (by decide) rfl rfl ?_
  refine sn_q_aloadn sn_bc_55 dX9_numberOfContest_70 rfl ?_
  refine sn_q_getr (v := 3) sn_bc_55 dX9_numberOfContest_71 sn_oc_55 sn_pf_9_38 (by decide) rfl rfl (by decide) ?_
  refine sn_q_geti (P := 3) (J := 0) sn_bc_55 dX9_numberOfContest_74 sn_oc_55 sn_pf_9_118 (by decide) rfl rfl rfl rfl ?_
  refine sn_q_iret sn_bc_55 dX9_numberOfContest_77 rfl ?_
  exact kk
theorem sk_nc3 {n k : Nat} {Y : Nat → Nat × Nat} {X : Nat → Nat → sn_V} {σ : Int → Int → Int} {Q : Option sn_V → sn_H → Prop} (hI : sk_Iv σ) (kk : Q (some (sn_i (σ 9 0))) (sn_hh n k Y σ X)) : sn_Wp 55 0 [sn_r 2, sn_i 3] [] (sn_hh n k Y σ X) Q := by
  refine sn_q_iloadn sn_bc_55 dX9_numberOfContest_0 rfl ?_
  refine sn_q_sw (t := 78) sn_bc_55 dX9_numberOfContest_1 (by decide) rfl rfl ?_
  refine sn_q_aloadn sn_bc_55 dX9_numberOfContest_78 rfl ?_
  refine sn_q_getr (v := 9) sn_bc_55 dX9_numberOfContest_79 sn_oc_55 sn_pf_9_42 (by decide) rfl rfl (by decide) ?_
  refine sn_q_geti (P := 9) (J := 0) sn_bc_55 dX9_numberOfContest_82 sn_oc_55 sn_pf_9_134 (by decide) rfl rfl rfl rfl ?_
  refine sn_q_iret sn_bc_55 dX9_numberOfContest_85 rfl ?_
  exact kk
theorem sk_nc4 {n k : Nat} {Y : Nat → Nat × Nat} {X : Nat → Nat → sn_V} {σ : Int → Int → Int} {Q : Option sn_V → sn_H → Prop} (hI : sk_Iv σ) (kk : Q (some (sn_i (σ 9 1))) (sn_hh n k Y σ X)) : sn_Wp 55 0 [sn_r 2, sn_i 4] [] (sn_hh n k Y σ X) Q := by
  refine sn_q_iloadn sn_bc_55 dX9_numberOfContest_0 rfl ?_
  refine sn_q_sw (t := 86) sn_bc_55 dX9_numberOfContest_1 (by decide) rfl rfl ?_
  refine sn_q_aloadn sn_bc_55 dX9_numberOfContest_86 rfl ?_
  refine sn_q_getr (v := 9) sn_bc_55 dX9_numberOfContest_87 sn_oc_55 sn_pf_9_42 (by decide) rfl rfl (by decide) ?_
  refine sn_q_geti (P := 9) (J := 1) sn_bc_55 dX9_numberOfContest_90 sn_oc_55 sn_pf_9_426 (by decide) rfl rfl rfl rfl ?_
  refine sn_q_iret sn_bc_55 dX9_numberOfContest_93 rfl ?_
  exact kk
theorem sk_nc5 {n k : Nat} {Y : Nat → Nat × Nat} {X : Nat → Nat → sn_V} {σ : Int → Int → Int} {Q : Option sn_V → sn_H → Prop} (hI : sk_Iv σ) (kk : Q (some (sn_i (sn_dx σ (σ 16) (σ 15 3 - 1).toNat))) (sn_hh n k Y σ X)) : sn_Wp 55 0 [sn_r 2, sn_i 5] [] (sn_hh n k Y σ X) Q := by
  refine sn_q_iloadn sn_bc_55 dX9_numberOfContest_0 rfl ?_
  refine sn_q_sw (t := 94) sn_bc_55 dX9_numberOfContest_1 (by decide) rfl rfl ?_
  refine sn_q_aloadn sn_bc_55 dX9_numberOfContest_94 rfl ?_
  refine sn_q_getr (v := 15) sn_bc_55 dX9_numberOfContest_95 sn_oc_55 sn_pf_9_46 (by decide) rfl rfl (by decide) ?_
  refine sn_q_invV sn_bc_55 dX9_numberOfContest_98 sn_oc_55 sn_pv_9_195 (by decide) rfl (by decide) (sn_h1 (by decide)) rfl rfl rfl rfl (sp_delay hI.1.2.2.2.1.1 hI.1.2.2.2.1.2 (fun i a1 a2 => ⟨(hI.2.2.1.2.2.1 i a1 a2).1, (hI.2.2.1.2.2.1 i a1 a2).2.1⟩) hI.2.2.1.2.2.2.2.2 ?_)
  refine sn_q_iret sn_bc_55 dX9_numberOfContest_101 rfl ?_
  exact kk
theorem sk_nc6 {n k : Nat} {Y : Nat → Nat × Nat} {X : Nat → Nat → sn_V} {σ : Int → Int → Int} {Q : Option sn_V → sn_H → Prop} (hI : sk_Iv σ) (kk : Q (some (sn_i (sk_vj σ (σ 3 0).toNat))) (sn_hh n k Y σ X)) : sn_Wp 55 0 [sn_r 2, sn_i 6] [] (sn_hh n k Y σ X) Q := by
  refine sn_q_iloadn sn_bc_55 dX9_numberOfContest_0 rfl ?_
  refine sn_q_sw (t := 102) sn_bc_55 dX9_numberOfContest_1 (by decide) rfl rfl ?_
  refine sn_q_aloadn sn_bc_55 dX9_numberOfContest_102 rfl ?_
  refine sn_q_invV sn_bc_55 dX9_numberOfContest_103 sn_oc_55 sn_pv_9_257 (by decide) rfl (by decide) (sn_h1 (by decide)) rfl rfl rfl rfl (sp_voidJuries hI.1.1.1 hI.1.1.2 ?_)
  refine sn_q_iret sn_bc_55 dX9_numberOfContest_106 rfl ?_
  exact kk
theorem sk_nc7 {n k : Nat} {Y : Nat → Nat × Nat} {X : Nat → Nat → sn_V} {σ : Int → Int → Int} {Q : Option sn_V → sn_H → Prop} (hI : sk_Iv σ) (kk : Q (some (sn_i (σ 217 7))) (sn_hh n k Y σ X)) : sn_Wp 55 0 [sn_r 2, sn_i 7] [] (sn_hh n k Y σ X) Q := by
  refine sn_q_iloadn sn_bc_55 dX9_numberOfContest_0 rfl ?_
  refine sn_q_sw (t := 107) sn_bc_55 dX9_numberOfContest_1 (by decide) rfl rfl ?_
  refine sn_q_aloadn sn_bc_55 dX9_numberOfContest_107 rfl ?_
  refine sn_q_getr (v := 217) sn_bc_55 dX9_numberOfContest_108 sn_oc_55 sn_pf_9_76 (by decide) rfl rfl (by decide) ?_
  refine sn_q_geti (P := 217) (J := 7) sn_bc_55 dX9_numberOfContest_111 sn_oc_55 sn_pf_9_291 (by decide) rfl rfl rfl rfl ?_
  refine sn_q_iret sn_bc_55 dX9_numberOfContest_114 rfl ?_
  exact kk
theorem sk_nc8 {n k : Nat} {Y : Nat → Nat × Nat} {X : Nat → Nat → sn_V} {σ : Int → Int → Int} {Q : Option sn_V → sn_H → Prop} (hI : sk_Iv σ) (kk : Q (some (sn_i (σ 217 8))) (sn_hh n k Y σ X)) : sn_Wp 55 0 [sn_r 2, sn_i 8] [] (sn_hh n k Y σ X) Q := by
  refine sn_q_iloadn sn_bc_55 dX9_numberOfContest_0 rfl ?_
  refine sn_q_sw (t := 115) sn_bc_55 dX9_numberOfContest_1 (by decide) rfl rfl ?_
  refine sn_q_aloadn sn_bc_55 dX9_numberOfContest_115 rfl ?_
  refine sn_q_getr (v := 217) sn_bc_55 dX9_numberOfContest_116 sn_oc_55 sn_pf_9_76 (by decide) rfl rfl (by decide) ?_
  refine sn_q_geti (P := 217) (J := 8) sn_bc_55 dX9_numberOfContest_119 sn_oc_55 sn_pf_9_429 (by decide) rfl rfl rfl rfl ?_
  refine sn_q_iret sn_bc_55 dX9_numberOfContest_122 rfl ?_
  exact kk
theorem sk_nc9 {n k : Nat} {Y : Nat → Nat × Nat} {X : Nat → Nat → sn_V} {σ : Int → Int → Int} {Q : Option sn_V → sn_H → Prop} (hI : sk_Iv σ) (kk : Q (some (sn_i (σ 2 13))) (sn_hh n k Y σ X)) : sn_Wp 55 0 [sn_r 2, sn_i 9] [] (sn_hh n k Y σ X) Q := by
  refine sn_q_iloadn sn_bc_55 dX9_numberOfContest_0 rfl ?_
  refine sn_q_sw (t := 123) sn_bc_55 dX9_numberOfContest_1 (by decide) rfl rfl ?_
  refine sn_q_aloadn sn_bc_55 dX9_numberOfContest_123 rfl ?_
  refine sn_q_geti (P := 2) (J := 13) sn_bc_55 dX9_numberOfContest_124 sn_oc_55 sn_pf_9_93 (by decide) rfl rfl rfl rfl ?_
  refine sn_q_iret sn_bc_55 dX9_numberOfContest_127 rfl ?_
  exact kk
theorem sk_nc10 {n k : Nat} {Y : Nat → Nat × Nat} {X : Nat → Nat → sn_V} {σ : Int → Int → Int} {Q : Option sn_V → sn_H → Prop} (hI : sk_Iv σ) (kk : Q (some (sn_i (σ 2 12))) (sn_hh n k Y σ X)) : sn_Wp 55 0 [sn_r 2, sn_i 10] [] (sn_hh n k Y σ X) Q := by
  refine sn_q_iloadn sn_bc_55 dX9_numberOfContest_0 rfl ?_
  refine sn_q_sw (t := 128) sn_bc_55 dX9_numberOfContest_1 (by decide) rfl rfl ?_
  refine sn_q_aloadn sn_bc_55 dX9_numberOfContest_128 rfl ?_
  refine sn_q_geti (P := 2) (J := 12) sn_bc_55 dX9_numberOfContest_129 sn_oc_55 sn_pf_9_90 (by decide) rfl rfl rfl rfl ?_
  refine sn_q_iret sn_bc_55 dX9_numberOfContest_132 rfl ?_
  exact kk
theorem sk_nc11 {n k : Nat} {Y : Nat → Nat × Nat} {X : Nat → Nat → sn_V} {σ : Int → Int → Int} {Q : Option sn_V → sn_H → Prop} (hI : sk_Iv σ) (kk : Q (some (sn_i (σ 2 14))) (sn_hh n k Y σ X)) : sn_Wp 55 0 [sn_r 2, sn_i 11] [] (sn_hh n k Y σ X) Q := by
  refine sn_q_iloadn sn_bc_55 dX9_numberOfContest_0 rfl ?_
  refine sn_q_swD (t := 133) sn_bc_55 dX9_numberOfContest_1 (by decide) rfl ?_
  refine sn_q_aloadn sn_bc_55 dX9_numberOfContest_133 rfl ?_
  refine sn_q_geti (P := 2) (J := 14) sn_bc_55 dX9_numberOfContest_134 sn_oc_55 sn_pf_9_96 (by decide) rfl rfl rfl rfl ?_
  refine sn_q_iret sn_bc_55 dX9_numberOfContest_137 rfl ?_
  exact kk
theorem sk_ncx {n k : Nat} {Y : Nat → Nat × Nat} {X : Nat → Nat → sn_V} {σ : Int → Int → Int} {Q : Option sn_V → sn_H → Prop} {x : Int} (hI : sk_Iv σ) (h3 : 0 ≤ x) (h4 : x ≤ 11) (kk : ∀ r : Int, Q (some (sn_i r)) (sn_hh n k Y σ X)) : sn_Wp 55 0 [sn_r 2, sn_i x] [] (sn_hh n k Y σ X) Q := by
  rcases (show x = 0 ∨ x = 1 ∨ x = 2 ∨ x = 3 ∨ x = 4 ∨ x = 5 ∨ x = 6 ∨ x = 7 ∨ x = 8 ∨ x = 9 ∨ x = 10 ∨ x = 11 by omega) with rfl | rfl | rfl | rfl | rfl | rfl | rfl | rfl | rfl | rfl | rfl | rfl
  · exact sk_nc0 hI (kk _)
  · exact sk_nc1 hI (kk _)
  · exact sk_nc2 hI (kk _)
  · exact sk_nc3 hI (kk _)
  · exact sk_nc4 hI (kk _)
  · exact sk_nc5 hI (kk _)
  · exact sk_nc6 hI (kk _)
  · exact sk_nc7 hI (kk _)
  · exact sk_nc8 hI (kk _)
  · exact sk_nc9 hI (kk _)
  · exact sk_nc10 hI (kk _)
  · exact sk_nc11 hI (kk _)
theorem sk_many0 {n k : Nat} {Y : Nat → Nat × Nat} {X : Nat → Nat → sn_V} {σ : Int → Int → Int} {Q : Option sn_V → sn_H → Prop} (hYX : sn_YX Y X) (hI : sk_Iv σ) (kk : ∀ τ, sk_q σ τ → Q (some (sn_i (τ 2 9))) (sn_hh n k Y τ X)) : sn_Wp 21 0 [sn_r 2, sn_i 0] [] (sn_hh n k Y σ X) Q := by
  refine sn_q_iloadn sn_bc_21 dX9_many_0 rfl ?_
  refine sn_q_iconst sn_bc_21 dX9_many_1 rfl ?_
  refine sn_q_bipush sn_bc_21 dX9_many_2 rfl ?_
  refine sn_q_invS sn_bc_21 dX9_many_4 sn_oc_21 sn_px_9_103 sn_ps_9_103 (by decide) rfl rfl rfl (sp_isWithin (fun w1 w2 => ?_) (fun w => ?_))
  · refine sn_q_ifne (t := 21) sn_bc_21 dX9_many_7 rfl (fun _ => ?_) (fun c => absurd (by decide) c)
    refine sn_q_aloadn sn_bc_21 dX9_many_21 rfl ?_
    refine sn_q_invV sn_bc_21 dX9_many_22 sn_oc_21 sn_pv_9_255 (by decide) rfl (by decide) (sn_h1 (by decide)) rfl rfl rfl rfl (sk_count hYX hI (fun τ hq => ?_))
    refine sn_q_aloadn sn_bc_21 dX9_many_25 rfl ?_
    refine sn_q_iloadn sn_bc_21 dX9_many_26 rfl ?_
    refine sn_q_invV sn_bc_21 dX9_many_27 sn_oc_21 sn_pv_9_350 (by decide) rfl (by decide) (sn_h1 (by decide)) rfl rfl rfl rfl (sk_nc0 hq.2.2.1 ?_)
    refine sn_q_iret sn_bc_21 dX9_many_30 rfl ?_
    exact kk τ hq
  · refine sn_q_ifne (t := 21) sn_bc_21 dX9_many_7 rfl (fun c => absurd c (by decide)) (fun _ => ?_)
    exfalso; omega
theorem sk_many3 {n k : Nat} {Y : Nat → Nat × Nat} {X : Nat → Nat → sn_V} {σ : Int → Int → Int} {Q : Option sn_V → sn_H → Prop} (hYX : sn_YX Y X) (hI : sk_Iv σ) (kk : ∀ τ, sk_q σ τ → Q (some (sn_i (τ 9 0))) (sn_hh n k Y τ X)) : sn_Wp 21 0 [sn_r 2, sn_i 3] [] (sn_hh n k Y σ X) Q := by
  refine sn_q_iloadn sn_bc_21 dX9_many_0 rfl ?_
  refine sn_q_iconst sn_bc_21 dX9_many_1 rfl ?_
  refine sn_q_bipush sn_bc_21 dX9_many_2 rfl ?_
  refine sn_q_invS sn_bc_21 dX9_many_4 sn_oc_21 sn_px_9_103 sn_ps_9_103 (by decide) rfl rfl rfl (sp_isWithin (fun w1 w2 => ?_) (fun w => ?_))
  · refine sn_q_ifne (t := 21) sn_bc_21 dX9_many_7 rfl (fun _ => ?_) (fun c => absurd (by decide) c)
    refine sn_q_aloadn sn_bc_21 dX9_many_21 rfl ?_
    refine sn_q_invV sn_bc_21 dX9_many_22 sn_oc_21 sn_pv_9_255 (by decide) rfl (by decide) (sn_h1 (by decide)) rfl rfl rfl rfl (sk_count hYX hI (fun τ hq => ?_))
    refine sn_q_aloadn sn_bc_21 dX9_many_25 rfl ?_
    refine sn_q_iloadn sn_bc_21 dX9_many_26 rfl ?_
    refine sn_q_invV sn_bc_21 dX9_many_27 sn_oc_21 sn_pv_9_350 (by decide) rfl (by decide) (sn_h1 (by decide)) rfl rfl rfl rfl (sk_nc3 hq.2.2.1 ?_)
    refine sn_q_iret sn_bc_21 dX9_many_30 rfl ?_
    exact kk τ hq
  · refine sn_q_ifne (t := 21) sn_bc_21 dX9_many_7 rfl (fun c => absurd c (by decide)) (fun _ => ?_)
    exfalso; omega
theorem sk_many4 {n k : Nat} {Y : Nat → Nat × Nat} {X : Nat → Nat → sn_V} {σ : Int → Int → Int} {Q : Option sn_V → sn_H → Prop} (hYX : sn_YX Y X) (hI : sk_Iv σ) (kk : ∀ τ, sk_q σ τ → Q (some (sn_i (τ 9 1))) (sn_hh n k Y τ X)) : sn_Wp 21 0 [sn_r 2, sn_i 4] [] (sn_hh n k Y σ X) Q := by
  refine sn_q_iloadn sn_bc_21 dX9_many_0 rfl ?_
  refine sn_q_iconst sn_bc_21 dX9_many_1 rfl ?_
  refine sn_q_bipush sn_bc_21 dX9_many_2 rfl ?_
  refine sn_q_invS sn_bc_21 dX9_many_4 sn_oc_21 sn_px_9_103 sn_ps_9_103 (by decide) rfl rfl rfl (sp_isWithin (fun w1 w2 => ?_) (fun w => ?_))
  · refine sn_q_ifne (t := 21) sn_bc_21 dX9_many_7 rfl (fun _ => ?_) (fun c => absurd (by decide) c)
    refine sn_q_aloadn sn_bc_21 dX9_many_21 rfl ?_
    refine sn_q_invV sn_bc_21 dX9_many_22 sn_oc_21 sn_pv_9_255 (by decide) rfl (by decide) (sn_h1 (by decide)) rfl rfl rfl rfl (sk_count hYX hI (fun τ hq => ?_))
    refine sn_q_aloadn sn_bc_21 dX9_many_25 rfl ?_
    refine sn_q_iloadn sn_bc_21 dX9_many_26 rfl ?_
    refine sn_q_invV sn_bc_21 dX9_many_27 sn_oc_21 sn_pv_9_350 (by decide) rfl (by decide) (sn_h1 (by decide)) rfl rfl rfl rfl (sk_nc4 hq.2.2.1 ?_)
    refine sn_q_iret sn_bc_21 dX9_many_30 rfl ?_
    exact kk τ hq
  · refine sn_q_ifne (t := 21) sn_bc_21 dX9_many_7 rfl (fun c => absurd c (by decide)) (fun _ => ?_)
    exfalso; omega
theorem sk_many5 {n k : Nat} {Y : Nat → Nat × Nat} {X : Nat → Nat → sn_V} {σ : Int → Int → Int} {Q : Option sn_V → sn_H → Prop} (hYX : sn_YX Y X) (hI : sk_Iv σ) (kk : ∀ τ, sk_q σ τ → Q (some (sn_i (sn_dx τ (τ 16) (τ 15 3 - 1).toNat))) (sn_hh n k Y τ X)) : sn_Wp 21 0 [sn_r 2, sn_i 5] [] (sn_hh n k Y σ X) Q := by
  refine sn_q_iloadn sn_bc_21 dX9_many_0 rfl ?_
  refine sn_q_iconst sn_bc_21 dX9_many_1 rfl ?_
  refine sn_q_bipush sn_bc_21 dX9_many_2 rfl ?_
  refine sn_q_invS sn_bc_21 dX9_many_4 sn_oc_21 sn_px_9_103 sn_ps_9_103 (by decide) rfl rfl rfl (sp_isWithin (fun w1 w2 => ?_) (fun w => ?_))
  · refine sn_q_ifne (t := 21) sn_bc_21 dX9_many_7 rfl (fun _ => ?_) (fun c => absurd (by decide) c)
    refine sn_q_aloadn sn_bc_21 dX9_many_21 rfl ?_
    refine sn_q_invV sn_bc_21 dX9_many_22 sn_oc_21 sn_pv_9_255 (by decide) rfl (by decide) (sn_h1 (by decide)) rfl rfl rfl rfl (sk_count hYX hI (fun τ hq => ?_))
    refine sn_q_aloadn sn_bc_21 dX9_many_25 rfl ?_
    refine sn_q_iloadn sn_bc_21 dX9_many_26 rfl ?_
    refine sn_q_invV sn_bc_21 dX9_many_27 sn_oc_21 sn_pv_9_350 (by decide) rfl (by decide) (sn_h1 (by decide)) rfl rfl rfl rfl (sk_nc5 hq.2.2.1 ?_)
    refine sn_q_iret sn_bc_21 dX9_many_30 rfl ?_
    exact kk τ hq
  · refine sn_q_ifne (t := 21) sn_bc_21 dX9_many_7 rfl (fun c => absurd c (by decide)) (fun _ => ?_)
    exfalso; omega
theorem sk_many6 {n k : Nat} {Y : Nat → Nat × Nat} {X : Nat → Nat → sn_V} {σ : Int → Int → Int} {Q : Option sn_V → sn_H → Prop} (hYX : sn_YX Y X) (hI : sk_Iv σ) (kk : ∀ τ, sk_q σ τ → Q (some (sn_i (sk_vj τ (τ 3 0).toNat))) (sn_hh n k Y τ X)) : sn_Wp 21 0 [sn_r 2, sn_i 6] [] (sn_hh n k Y σ X) Q := by
  refine sn_q_iloadn sn_bc_21 dX9_many_0 rfl ?_
  refine sn_q_iconst sn_bc_21 dX9_many_1 rfl ?_
  refine sn_q_bipush sn_bc_21 dX9_many_2 rfl ?_
  refine sn_q_invS sn_bc_21 dX9_many_4 sn_oc_21 sn_px_9_103 sn_ps_9_103 (by decide) rfl rfl rfl (sp_isWithin (fun w1 w2 => ?_) (fun w => ?_))
  · refine sn_q_ifne (t := 21) sn_bc_21 dX9_many_7 rfl (fun _ => ?_) (fun c => absurd (by decide) c)
    refine sn_q_aloadn sn_bc_21 dX9_many_21 rfl ?_
    refine sn_q_invV sn_bc_21 dX9_many_22 sn_oc_21 sn_pv_9_255 (by decide) rfl (by decide) (sn_h1 (by decide)) rfl rfl rfl rfl (sk_count hYX hI (fun τ hq => ?_))
    refine sn_q_aloadn sn_bc_21 dX9_many_25 rfl ?_
    refine sn_q_iloadn sn_bc_21 dX9_many_26 rfl ?_
    refine sn_q_invV sn_bc_21 dX9_many_27 sn_oc_21 sn_pv_9_350 (by decide) rfl (by decide) (sn_h1 (by decide)) rfl rfl rfl rfl (sk_nc6 hq.2.2.1 ?_)
    refine sn_q_iret sn_bc_21 dX9_many_30 rfl ?_
    exact kk τ hq
  · refine sn_q_ifne (t := 21) sn_bc_21 dX9_many_7 rfl (fun c => absurd c (by decide)) (fun _ => ?_)
    exfalso; omega
theorem sk_many7 {n k : Nat} {Y : Nat → Nat × Nat} {X : Nat → Nat → sn_V} {σ : Int → Int → Int} {Q : Option sn_V → sn_H → Prop} (hYX : sn_YX Y X) (hI : sk_Iv σ) (kk : ∀ τ, sk_q σ τ → Q (some (sn_i (τ 217 7))) (sn_hh n k Y τ X)) : sn_Wp 21 0 [sn_r 2, sn_i 7] [] (sn_hh n k Y σ X) Q := by
  refine sn_q_iloadn sn_bc_21 dX9_many_0 rfl ?_
  refine sn_q_iconst sn_bc_21 dX9_many_1 rfl ?_
  refine sn_q_bipush sn_bc_21 dX9_many_2 rfl ?_
  refine sn_q_invS sn_bc_21 dX9_many_4 sn_oc_21 sn_px_9_103 sn_ps_9_103 (by decide) rfl rfl rfl (sp_isWithin (fun w1 w2 => ?_) (fun w => ?_))
  · refine sn_q_ifne (t := 21) sn_bc_21 dX9_many_7 rfl (fun _ => ?_) (fun c => absurd (by decide) c)
    refine sn_q_aloadn sn_bc_21 dX9_many_21 rfl ?_
    refine sn_q_invV sn_bc_21 dX9_many_22 sn_oc_21 sn_pv_9_255 (by decide) rfl (by decide) (sn_h1 (by decide)) rfl rfl rfl rfl (sk_count hYX hI (fun τ hq => ?_))
    refine sn_q_aloadn sn_bc_21 dX9_many_25 rfl ?_
    refine sn_q_iloadn sn_bc_21 dX9_many_26 rfl ?_
    refine sn_q_invV sn_bc_21 dX9_many_27 sn_oc_21 sn_pv_9_350 (by decide) rfl (by decide) (sn_h1 (by decide)) rfl rfl rfl rfl (sk_nc7 hq.2.2.1 ?_)
    refine sn_q_iret sn_bc_21 dX9_many_30 rfl ?_
    exact kk τ hq
  · refine sn_q_ifne (t := 21) sn_bc_21 dX9_many_7 rfl (fun c => absurd c (by decide)) (fun _ => ?_)
    exfalso; omega
theorem sk_many8 {n k : Nat} {Y : Nat → Nat × Nat} {X : Nat → Nat → sn_V} {σ : Int → Int → Int} {Q : Option sn_V → sn_H → Prop} (hYX : sn_YX Y X) (hI : sk_Iv σ) (kk : ∀ τ, sk_q σ τ → Q (some (sn_i (τ 217 8))) (sn_hh n k Y τ X)) : sn_Wp 21 0 [sn_r 2, sn_i 8] [] (sn_hh n k Y σ X) Q := by
  refine sn_q_iloadn sn_bc_21 dX9_many_0 rfl ?_
  refine sn_q_iconst sn_bc_21 dX9_many_1 rfl ?_
  refine sn_q_bipush sn_bc_21 dX9_many_2 rfl ?_
  refine sn_q_invS sn_bc_21 dX9_many_4 sn_oc_21 sn_px_9_103 sn_ps_9_103 (by decide) rfl rfl rfl (sp_isWithin (fun w1 w2 => ?_) (fun w => ?_))
  · refine sn_q_ifne (t := 21) sn_bc_21 dX9_many_7 rfl (fun _ => ?_) (fun c => absurd (by decide) c)
    refine sn_q_aloadn sn_bc_21 dX9_many_21 rfl ?_
    refine sn_q_invV sn_bc_21 dX9_many_22 sn_oc_21 sn_pv_9_255 (by decide) rfl (by decide) (sn_h1 (by decide)) rfl rfl rfl rfl (sk_count hYX hI (fun τ hq => ?_))
    refine sn_q_aloadn sn_bc_21 dX9_many_25 rfl ?_
    refine sn_q_iloadn sn_bc_21 dX9_many_26 rfl ?_
    refine sn_q_invV sn_bc_21 dX9_many_27 sn_oc_21 sn_pv_9_350 (by decide) rfl (by decide) (sn_h1 (by decide)) rfl rfl rfl rfl (sk_nc8 hq.2.2.1 ?_)
    refine sn_q_iret sn_bc_21 dX9_many_30 rfl ?_
    exact kk τ hq
  · refine sn_q_ifne (t := 21) sn_bc_21 dX9_many_7 rfl (fun c => absurd c (by decide)) (fun _ => ?_)
    exfalso; omega
theorem sk_many9 {n k : Nat} {Y : Nat → Nat × Nat} {X : Nat → Nat → sn_V} {σ : Int → Int → Int} {Q : Option sn_V → sn_H → Prop} (hYX : sn_YX Y X) (hI : sk_Iv σ) (kk : ∀ τ, sk_q σ τ → Q (some (sn_i (τ 2 13))) (sn_hh n k Y τ X)) : sn_Wp 21 0 [sn_r 2, sn_i 9] [] (sn_hh n k Y σ X) Q := by
  refine sn_q_iloadn sn_bc_21 dX9_many_0 rfl ?_
  refine sn_q_iconst sn_bc_21 dX9_many_1 rfl ?_
  refine sn_q_bipush sn_bc_21 dX9_many_2 rfl ?_
  refine sn_q_invS sn_bc_21 dX9_many_4 sn_oc_21 sn_px_9_103 sn_ps_9_103 (by decide) rfl rfl rfl (sp_isWithin (fun w1 w2 => ?_) (fun w => ?_))
  · refine sn_q_ifne (t := 21) sn_bc_21 dX9_many_7 rfl (fun _ => ?_) (fun c => absurd (by decide) c)
    refine sn_q_aloadn sn_bc_21 dX9_many_21 rfl ?_
    refine sn_q_invV sn_bc_21 dX9_many_22 sn_oc_21 sn_pv_9_255 (by decide) rfl (by decide) (sn_h1 (by decide)) rfl rfl rfl rfl (sk_count hYX hI (fun τ hq => ?_))
    refine sn_q_aloadn sn_bc_21 dX9_many_25 rfl ?_
    refine sn_q_iloadn sn_bc_21 dX9_many_26 rfl ?_
    refine sn_q_invV sn_bc_21 dX9_many_27 sn_oc_21 sn_pv_9_350 (by decide) rfl (by decide) (sn_h1 (by decide)) rfl rfl rfl rfl (sk_nc9 hq.2.2.1 ?_)
    refine sn_q_iret sn_bc_21 dX9_many_30 rfl ?_
    exact kk τ hq
  · refine sn_q_ifne (t := 21) sn_bc_21 dX9_many_7 rfl (fun c => absurd c (by decide)) (fun _ => ?_)
    exfalso; omega
theorem sk_many10 {n k : Nat} {Y : Nat → Nat × Nat} {X : Nat → Nat → sn_V} {σ : Int → Int → Int} {Q : Option sn_V → sn_H → Prop} (hYX : sn_YX Y X) (hI : sk_Iv σ) (kk : ∀ τ, sk_q σ τ → Q (some (sn_i (τ 2 12))) (sn_hh n k Y τ X)) : sn_Wp 21 0 [sn_r 2, sn_i 10] [] (sn_hh n k Y σ X) Q := by
  refine sn_q_iloadn sn_bc_21 dX9_many_0 rfl ?_
  refine sn_q_iconst sn_bc_21 dX9_many_1 rfl ?_
  refine sn_q_bipush sn_bc_21 dX9_many_2 rfl ?_
  refine sn_q_invS sn_bc_21 dX9_many_4 sn_oc_21 sn_px_9_103 sn_ps_9_103 (by decide) rfl rfl rfl (sp_isWithin (fun w1 w2 => ?_) (fun w => ?_))
  · refine sn_q_ifne (t := 21) sn_bc_21 dX9_many_7 rfl (fun _ => ?_) (fun c => absurd (by decide) c)
    refine sn_q_aloadn sn_bc_21 dX9_many_21 rfl ?_
    refine sn_q_invV sn_bc_21 dX9_many_22 sn_oc_21 sn_pv_9_255 (by decide) rfl (by decide) (sn_h1 (by decide)) rfl rfl rfl rfl (sk_count hYX hI (fun τ hq => ?_))
    refine sn_q_aloadn sn_bc_21 dX9_many_25 rfl ?_
    refine sn_q_iloadn sn_bc_21 dX9_many_26 rfl ?_
    refine sn_q_invV sn_bc_21 dX9_many_27 sn_oc_21 sn_pv_9_350 (by decide) rfl (by decide) (sn_h1 (by decide)) rfl rfl rfl rfl (sk_nc10 hq.2.2.1 ?_)
    refine sn_q_iret sn_bc_21 dX9_many_30 rfl ?_
    exact kk τ hq
  · refine sn_q_ifne (t := 21) sn_bc_21 dX9_many_7 rfl (fun c => absurd c (by decide)) (fun _ => ?_)
    exfalso; omega
