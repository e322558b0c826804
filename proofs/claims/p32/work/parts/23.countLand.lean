/-! juries: all of them -/
/-- what the juries make of the land w -/
def sn_lf (σ : Int → Int → Int) (A : Prop) (w : Int) : Prop := sn_or σ w ∧ (-1 ≤ σ 92 w ∧ σ 92 w ≤ 4 ∧ (σ 92 w ≠ -1 → 3 ≤ sn_gv σ w)) ∧ (sn_gv σ w < 2 → σ 93 w ≠ 0) ∧ (A → σ 93 w ≠ 0 → sn_gv σ w < 2) ∧ (σ 93 w = 0 → ∀ j, 0 ≤ j → j < 5 → σ 61 (w * 5 + j) ≠ 0 → j ≠ σ 92 w → 0 < σ 60 (w * 5 + j) → 12 ≤ σ (65 + w) (σ (20 + (w * 5 + j)) 0)) ∧ (σ 94 w = -1 ∨ (0 ≤ σ 94 w ∧ σ 94 w < 8))
theorem sn_or_t {σ τ : Int → Int → Int} {w : Int} (h : sn_or σ w) (e91 : τ 91 w = σ 91 w) (e74 : ∀ i, τ (74 + w) i = σ (74 + w) i) (e65 : ∀ i, τ (65 + w) i = σ (65 + w) i) (e10 : ∀ i, τ 10 i = σ 10 i) (e11 : ∀ i, τ 11 i = σ 11 i) : sn_or τ w := by
  unfold sn_or sn_cd at h ⊢
  simp only [e91, e74, e65, e10, e11]
  exact h
theorem sn_lf_t {σ τ : Int → Int → Int} {A : Prop} {w : Int} (h : sn_lf σ A w) (h0 : 0 ≤ w) (h8 : w < 8) (e : ∀ a c, (a < 65 ∨ a = 65 + w ∨ a = 74 + w ∨ (91 ≤ a ∧ a ≤ 94 ∧ c = w)) → τ a c = σ a c) : sn_lf τ A w := by
  obtain ⟨a1, a2, a3, a4, a5, a6⟩ := h
  have eg : sn_gv τ w = sn_gv σ w := sn_gv_t (fun c => e 61 c (by omega))
  unfold sn_lf
  rw [eg, e 92 w (by omega), e 93 w (by omega), e 94 w (by omega)]
  refine ⟨sn_or_t a1 (e 91 w (by omega)) (fun i => e _ i (by omega)) (fun i => e _ i (by omega)) (fun i => e _ i (by omega)) (fun i => e _ i (by omega)), a2, a3, a4, fun z j b1 b2 b3 b4 b5 => ?_, a6⟩
  rw [e 61 _ (by omega)] at b3
  rw [e 60 _ (by omega)] at b5
  rw [e (20 + (w * 5 + j)) 0 (by omega), e (65 + w) _ (by omega)]
  exact a5 z j b1 b2 b3 b4 b5
/-- the places of the land w that its count writes -/
def sn_cl (σ τ : Int → Int → Int) (w : Int) : Prop := ∀ a c, a ≠ 65 + w → a ≠ 74 + w → a ≠ 95 → ¬ (91 ≤ a ∧ a ≤ 94 ∧ c = w) → τ a c = σ a c
theorem sn_bg_of {σ τ : Int → Int → Int} {w : Int} (h : sn_bg σ w) (h0 : 0 ≤ w) (h8 : w < 8) (e : ∀ a c, a < 65 → τ a c = σ a c) : sn_bg τ w := sn_bg_t h h0 h8 (fun a c _ h2 => e a c (by omega))
/-- behind the sums -/
theorem sp_countLand_78 {n k : Nat} {Y : Nat → Nat × Nat} {X : Nat → Nat → sn_V} {σ τ : Int → Int → Int} {Q : Option sn_V → sn_H → Prop} {w : Int} {g : sn_V} (h1 : 0 ≤ w) (h2 : w < 8) (ho : sn_or τ w) (kk : ∀ r : Int, (r = -1 ∨ (0 ≤ r ∧ r < 8)) → Q none (sn_hh n k Y (sn_s τ 94 w r) X)) : sn_Wp 24 78 [sn_r 63, sn_i w, g] [] (sn_hh n k Y τ X) Q := by
  refine sn_q_aloadn sn_bc_24 dX2_countLand_78 rfl ?_
  refine sn_q_getr (v := 94) sn_bc_24 dX2_countLand_79 sn_oc_24 sn_pf_2_33 (by decide) rfl rfl (by decide) ?_
  refine sn_q_iloadn sn_bc_24 dX2_countLand_82 rfl ?_
  refine sn_q_aloadn sn_bc_24 dX2_countLand_83 rfl ?_
  refine sn_q_iloadn sn_bc_24 dX2_countLand_84 rfl ?_
  refine sn_q_invV sn_bc_24 dX2_countLand_85 sn_oc_24 sn_pv_2_85 (by decide) rfl (by decide) (sn_h1 (by decide)) rfl rfl rfl rfl (sp_findPraised (by omega) (by omega) ho (fun p hp => ?_))
  refine sn_q_iast (P := 94) sn_bc_24 dX2_countLand_88 sn_a94 rfl (by omega) (by omega) ?_
  refine sn_q_vret sn_bc_24 dX2_countLand_89 rfl ?_
  exact kk _ hp
/-- the sums anew, and the row by them -/
def sn_ss (σ τ : Int → Int → Int) (w : Int) : Prop := (∀ a c, a ≠ 65 + w → a ≠ 74 + w → ¬ (a = 91 ∧ c = w) → τ a c = σ a c) ∧ sn_or τ w ∧ ∀ j, 0 ≤ j → j < 5 → σ 61 (w * 5 + j) ≠ 0 → j ≠ σ 92 w → 0 < σ 60 (w * 5 + j) → 12 ≤ τ (65 + w) (σ (20 + (w * 5 + j)) 0)
theorem sn_ss_of {σ b s : Int → Int → Int} {w : Int} (h1 : 0 ≤ w) (h2 : w < 8) (hb : sn_sb σ b w 5) (hs : ∀ a c, a ≠ 74 + w → ¬ (a = 91 ∧ c = w) → s a c = b a c) (ho : sn_or s w) : sn_ss σ s w := by
  refine ⟨fun a c g1 g2 g3 => (hs a c g2 g3).trans (hb.1 a c g1), ho, fun j a1 a2 a3 a4 a5 => ?_⟩
  rw [hs _ _ (by omega) (by omega)]
  exact hb.2.2 j a1 a2 a3 a4 a5
theorem sp_countLand {n k : Nat} {Y : Nat → Nat × Nat} {X : Nat → Nat → sn_V} {σ : Int → Int → Int} {Q : Option sn_V → sn_H → Prop} {w : Int} (hYX : sn_YX Y X) (h1 : 0 ≤ w) (h2 : w < 8) (hbg : sn_bg σ w) (h95 : sn_95 σ) (kk : ∀ τ, sn_cl σ τ w → sn_95 τ → (∀ A, sn_lf τ A w) → Q none (sn_hh n k Y τ X)) : sn_Wp 24 0 [sn_r 63, sn_i w, sn_u] [] (sn_hh n k Y σ X) Q := by
  have hgv := @sn_gv_bd σ w
  have hz : sn_sum (fun j => if σ 61 (w * 5 + j) = 0 then 0 else 1) 5 = sn_gv σ w := rfl
  have fin : ∀ (z : Int) (ρ : Int → Int → Int), ((z = 1 ∧ sn_gv σ w < 2) ∨ (z = 0 ∧ 2 ≤ sn_gv σ w)) → ρ 93 w = z → (-1 ≤ ρ 92 w ∧ ρ 92 w ≤ 4 ∧ (ρ 92 w ≠ -1 → 3 ≤ sn_gv σ w)) → sn_95 ρ → sn_cl σ ρ w → sn_or ρ w → (∀ j, 0 ≤ j → j < 5 → σ 61 (w * 5 + j) ≠ 0 → j ≠ ρ 92 w → 0 < σ 60 (w * 5 + j) → 12 ≤ ρ (65 + w) (σ (20 + (w * 5 + j)) 0)) → sn_Wp 24 78 [sn_r 63, sn_i w, sn_i (sn_gv σ w)] [] (sn_hh n k Y ρ X) Q := by
    intro z ρ hz1 e93 e92 h9 hf ho hs
    refine sp_countLand_78 (σ := σ) h1 h2 ho (fun r hr => kk _ ?_ ?_ ?_)
    · intro a c g1 g2 g3 g4; unfold sn_s; rw [if_neg (by omega)]; exact hf a c g1 g2 g3 g4
    · intro x a1 a2; rw [sn_s_p (by omega)]; exact h9 x a1 a2
    · intro A
      have q : ∀ a c, a ≠ 94 → sn_s ρ 94 w r a c = ρ a c := fun a c g => sn_s_p g
      have q6 : ∀ a c, a < 65 → ρ a c = σ a c := fun a c g => hf a c (by omega) (by omega) (by omega) (by omega)
      have eg : sn_gv (sn_s ρ 94 w r) w = sn_gv σ w := sn_gv_t (fun c => (q 61 c (by omega)).trans (q6 61 c (by omega)))
      unfold sn_lf
      rw [eg, q 92 w (by omega), q 93 w (by omega), sn_s_e, e93]
      refine ⟨sn_or_t ho (q _ _ (by omega)) (fun _ => q _ _ (by omega)) (fun _ => q _ _ (by omega)) (fun _ => q _ _ (by omega)) (fun _ => q _ _ (by omega)), e92, by omega, fun _ _ => by omega, fun _ j a1 a2 a3 a4 a5 => ?_, hr⟩
      rw [q _ _ (by omega), q6 _ _ (by omega)] at a3 a5
      rw [q (20 + (w * 5 + j)) _ (by omega), q6 _ _ (by omega), q _ _ (by omega)]
      exact hs j a1 a2 a3 a4 a5
  have more : ∀ (z : Int), ((z = 1 ∧ sn_gv σ w < 2) ∨ (z = 0 ∧ 2 ≤ sn_gv σ w)) → ∀ (τ : Int → Int → Int), τ 93 w = z → (∀ a c, ¬ (92 ≤ a ∧ a ≤ 93 ∧ c = w) → τ a c = σ a c) → ∀ s, sn_ss τ s w → τ 92 w = -1 → ∀ (r : Int) (f : Int → Int → Int), (∀ a c, a ≠ 95 → f a c = s a c) → sn_95 f → -1 ≤ r → r ≤ 4 → 3 ≤ sn_gv σ w → sn_Wp 24 58 [sn_r 63, sn_i w, sn_i (sn_gv σ w)] [] (sn_hh n k Y (sn_s f 92 w r) X) Q := by
    intro z hz1 τ e93 hτ s S1 e92 r f hf h9f hr1 hr2 hg3
    have fr : ∀ a c, a ≠ 65 + w → a ≠ 74 + w → a ≠ 95 → ¬ (91 ≤ a ∧ a ≤ 93 ∧ c = w) → sn_s f 92 w r a c = σ a c := fun a c g1 g2 g3 g4 => by
      unfold sn_s; rw [if_neg (by omega)]; exact (hf a c g3).trans ((S1.1 a c g1 g2 (by omega)).trans (hτ a c (by omega)))
    have f93 : sn_s f 92 w r 93 w = z := by rw [sn_s_p (by omega), hf _ _ (by omega), S1.1 _ _ (by omega) (by omega) (by omega), e93]
    have f9 : sn_95 (sn_s f 92 w r) := fun x a1 a2 => by rw [sn_s_p (by omega)]; exact h9f x a1 a2
    have fo : sn_or (sn_s f 92 w r) w := sn_or_t S1.2.1 (by rw [sn_s_p (by omega), hf _ _ (by omega)]) (fun _ => by rw [sn_s_p (by omega), hf _ _ (by omega)]) (fun _ => by rw [sn_s_p (by omega), hf _ _ (by omega)]) (fun _ => by rw [sn_s_p (by omega), hf _ _ (by omega)]) (fun _ => by rw [sn_s_p (by omega), hf _ _ (by omega)])
    refine sn_q_aloadn sn_bc_24 dX2_countLand_58 rfl ?_
    refine sn_q_getr (v := 92) sn_bc_24 dX2_countLand_59 sn_oc_24 sn_pf_2_26 (by decide) rfl rfl (by decide) ?_
    refine sn_q_iloadn sn_bc_24 dX2_countLand_62 rfl ?_
    refine sn_q_iald (P := 92) sn_bc_24 dX2_countLand_63 sn_a92 rfl (by omega) (by omega) ?_
    refine sn_q_iconst sn_bc_24 dX2_countLand_64 rfl ?_
    rw [sn_s_e]
    refine sn_q_iceq (t := 78) sn_bc_24 dX2_countLand_65 rfl (fun c_65 => ?_) (fun c_65 => ?_)
    · first
        | (have S2 := sn_ss_of h1 h2 hb hs ho
           refine fin z s' hz1 ((S2.1 _ _ (by omega) (by omega) (by omega)).trans f93) (by rw [S2.1 92 w (by omega) (by omega) (by omega), sn_s_e]; omega) (fun x a1 a2 => by rw [S2.1 95 x (by omega) (by omega) (by omega)]; exact f9 x a1 a2) (fun a c g1 g2 g3 g4 => (S2.1 a c g1 g2 (by omega)).trans (fr a c g1 g2 g3 (by omega))) ho (fun j a1 a2 a3 a4 a5 => ?_)
           have := S2.2.2 j a1 a2 (by rw [fr _ _ (by omega) (by omega) (by omega) (by omega)]; exact a3) (by rw [S2.1 92 w (by omega) (by omega) (by omega)] at a4; exact a4) (by rw [fr _ _ (by omega) (by omega) (by omega) (by omega)]; exact a5)
           rw [fr (20 + (w * 5 + j)) _ (by omega) (by omega) (by omega) (by omega)] at this
           exact this)
        | (refine fin z _ hz1 f93 (by rw [sn_s_e]; omega) f9 (fun a c g1 g2 g3 g4 => fr a c g1 g2 g3 (by omega)) fo (fun j a1 a2 a3 a4 a5 => ?_)
           rw [sn_s_e] at a4
           have := S1.2.2 j a1 a2 (by rw [hτ _ _ (by omega)]; exact a3) (by rw [e92]; omega) (by rw [hτ _ _ (by omega)]; exact a5)
           rw [sn_s_p (by omega), hf _ _ (by omega)]
           rw [hτ (20 + (w * 5 + j)) _ (by omega)] at this
           exact this)
    · refine sn_q_aloadn sn_bc_24 dX2_countLand_68 rfl ?_
      refine sn_q_iloadn sn_bc_24 dX2_countLand_69 rfl ?_
      refine sn_q_invV sn_bc_24 dX2_countLand_70 sn_oc_24 sn_pv_2_79 (by decide) rfl (by decide) (sn_h1 (by decide)) rfl rfl rfl rfl (sp_addBallots hYX (by omega) (by omega) (sn_bg_of hbg h1 h2 (fun a c g => fr a c (by omega) (by omega) (by omega) (by omega))) (fun b hb => ?_))
      refine sn_q_aloadn sn_bc_24 dX2_countLand_73 rfl ?_
      refine sn_q_iloadn sn_bc_24 dX2_countLand_74 rfl ?_
      refine sn_q_invV sn_bc_24 dX2_countLand_75 sn_oc_24 sn_pv_2_67 (by decide) rfl (by decide) (sn_h1 (by decide)) rfl rfl rfl rfl (sp_sortCandidates (by omega) (by omega) (fun s' hs ho => ?_))
      first
        | (have S2 := sn_ss_of h1 h2 hb hs ho
           refine fin z s' hz1 ((S2.1 _ _ (by omega) (by omega) (by omega)).trans f93) (by rw [S2.1 92 w (by omega) (by omega) (by omega), sn_s_e]; omega) (fun x a1 a2 => by rw [S2.1 95 x (by omega) (by omega) (by omega)]; exact f9 x a1 a2) (fun a c g1 g2 g3 g4 => (S2.1 a c g1 g2 (by omega)).trans (fr a c g1 g2 g3 (by omega))) ho (fun j a1 a2 a3 a4 a5 => ?_)
           have := S2.2.2 j a1 a2 (by rw [fr _ _ (by omega) (by omega) (by omega) (by omega)]; exact a3) (by rw [S2.1 92 w (by omega) (by omega) (by omega)] at a4; exact a4) (by rw [fr _ _ (by omega) (by omega) (by omega) (by omega)]; exact a5)
           rw [fr (20 + (w * 5 + j)) _ (by omega) (by omega) (by omega) (by omega)] at this
           exact this)
        | (refine fin z _ hz1 f93 (by rw [sn_s_e]; omega) f9 (fun a c g1 g2 g3 g4 => fr a c g1 g2 g3 (by omega)) fo (fun j a1 a2 a3 a4 a5 => ?_)
           rw [sn_s_e] at a4
           have := S1.2.2 j a1 a2 (by rw [hτ _ _ (by omega)]; exact a3) (by rw [e92]; omega) (by rw [hτ _ _ (by omega)]; exact a5)
           rw [sn_s_p (by omega), hf _ _ (by omega)]
           rw [hτ (20 + (w * 5 + j)) _ (by omega)] at this
           exact this)
  have go : ∀ (z : Int), ((z = 1 ∧ sn_gv σ w < 2) ∨ (z = 0 ∧ 2 ≤ sn_gv σ w)) → ∀ (τ : Int → Int → Int), τ 93 w = z → τ 92 w = -1 → (∀ a c, ¬ (92 ≤ a ∧ a ≤ 93 ∧ c = w) → τ a c = σ a c) → sn_Wp 24 32 [sn_r 63, sn_i w, sn_i (sn_gv σ w)] [] (sn_hh n k Y τ X) Q := by
    intro z hz1 τ e93 e92 hτ
    have hbg : sn_bg τ w := sn_bg_of hbg h1 h2 (fun a c g => hτ a c (by omega))
    refine sn_q_aloadn sn_bc_24 dX2_countLand_32 rfl ?_
    refine sn_q_iloadn sn_bc_24 dX2_countLand_33 rfl ?_
    refine sn_q_invV sn_bc_24 dX2_countLand_34 sn_oc_24 sn_pv_2_79 (by decide) rfl (by decide) (sn_h1 (by decide)) rfl rfl rfl rfl (sp_addBallots hYX (by omega) (by omega) hbg (fun b hb => ?_))
    refine sn_q_aloadn sn_bc_24 dX2_countLand_37 rfl ?_
    refine sn_q_iloadn sn_bc_24 dX2_countLand_38 rfl ?_
    refine sn_q_invV sn_bc_24 dX2_countLand_39 sn_oc_24 sn_pv_2_67 (by decide) rfl (by decide) (sn_h1 (by decide)) rfl rfl rfl rfl (sp_sortCandidates (by omega) (by omega) (fun s hs ho => ?_))
    refine sn_q_iloadn sn_bc_24 dX2_countLand_42 rfl ?_
    refine sn_q_iconst sn_bc_24 dX2_countLand_43 rfl ?_
    refine sn_q_iclt (t := 58) sn_bc_24 dX2_countLand_44 rfl (fun c_44 => ?_) (fun c_44 => ?_)
    · refine sn_q_aloadn sn_bc_24 dX2_countLand_58 rfl ?_
      refine sn_q_getr (v := 92) sn_bc_24 dX2_countLand_59 sn_oc_24 sn_pf_2_26 (by decide) rfl rfl (by decide) ?_
      refine sn_q_iloadn sn_bc_24 dX2_countLand_62 rfl ?_
      refine sn_q_iald (P := 92) sn_bc_24 dX2_countLand_63 sn_a92 rfl (by omega) (by omega) ?_
      refine sn_q_iconst sn_bc_24 dX2_countLand_64 rfl ?_
      rw [(sn_ss_of h1 h2 hb hs ho).1 92 w (by omega) (by omega) (by omega), e92]
      refine sn_q_iceq (t := 78) sn_bc_24 dX2_countLand_65 rfl (fun c_65 => ?_) (fun c_65 => ?_)
      · have S1 := sn_ss_of h1 h2 hb hs ho
        exact fin z s hz1 ((S1.1 _ _ (by omega) (by omega) (by omega)).trans e93) (by rw [S1.1 92 w (by omega) (by omega) (by omega), e92]; omega) (fun x a1 a2 => by rw [S1.1 95 x (by omega) (by omega) (by omega), hτ 95 x (by omega)]; exact h95 x a1 a2) (fun a c g1 g2 g3 g4 => (S1.1 a c g1 g2 (by omega)).trans (hτ a c (by omega))) ho (fun j a1 a2 a3 a4 a5 => by
          have := S1.2.2 j a1 a2 (by rw [hτ _ _ (by omega)]; exact a3) (by rw [S1.1 92 w (by omega) (by omega) (by omega)] at a4; exact a4) (by rw [hτ _ _ (by omega)]; exact a5)
          rw [hτ (20 + (w * 5 + j)) _ (by omega)] at this
          exact this)
      · exact absurd rfl c_65
    · refine sn_q_aloadn sn_bc_24 dX2_countLand_47 rfl ?_
      refine sn_q_getr (v := 92) sn_bc_24 dX2_countLand_48 sn_oc_24 sn_pf_2_26 (by decide) rfl rfl (by decide) ?_
      refine sn_q_iloadn sn_bc_24 dX2_countLand_51 rfl ?_
      refine sn_q_aloadn sn_bc_24 dX2_countLand_52 rfl ?_
      refine sn_q_iloadn sn_bc_24 dX2_countLand_53 rfl ?_
      have S1 := sn_ss_of h1 h2 hb hs ho
      refine sn_q_invV sn_bc_24 dX2_countLand_54 sn_oc_24 sn_pv_2_82 (by decide) rfl (by decide) (sn_h1 (by decide)) rfl rfl rfl rfl (sp_findOutlier (by omega) (by omega) ho (sn_bg_of hbg h1 h2 (fun a c g => ((sn_ss_of h1 h2 hb hs ho).1 a c (by omega) (by omega) (by omega)))) (fun x a1 a2 => by rw [(sn_ss_of h1 h2 hb hs ho).1 95 x (by omega) (by omega) (by omega), hτ 95 x (by omega)]; exact h95 x a1 a2) (fun r f hf h9f hr1 hr2 => ?_))
      refine sn_q_iast (P := 92) sn_bc_24 dX2_countLand_57 sn_a92 rfl (by omega) (by omega) ?_
      first
        | exact more z hz1 τ e93 hτ s S1 e92 r f hf h9f hr1 hr2 (by omega)
        | skip
  refine sn_q_aloadn sn_bc_24 dX2_countLand_0 rfl ?_
  refine sn_q_getr (v := 18) sn_bc_24 dX2_countLand_1 sn_oc_24 sn_pf_2_47 (by decide) rfl rfl (by decide) ?_
  refine sn_q_iloadn sn_bc_24 dX2_countLand_4 rfl ?_
  refine sn_q_invV sn_bc_24 dX2_countLand_5 sn_oc_24 sn_pv_2_73 (by decide) rfl (by decide) (sn_h1 (by decide)) rfl rfl rfl rfl (sp_given (by omega) (by omega) ?_)
  rw [hz]
  refine sn_q_istn2 sn_bc_24 dX2_countLand_8 rfl ?_
  refine sn_q_aloadn sn_bc_24 dX2_countLand_9 rfl ?_
  refine sn_q_getr (v := 93) sn_bc_24 dX2_countLand_10 sn_oc_24 sn_pf_2_29 (by decide) rfl rfl (by decide) ?_
  refine sn_q_iloadn sn_bc_24 dX2_countLand_13 rfl ?_
  refine sn_q_iloadn sn_bc_24 dX2_countLand_14 rfl ?_
  refine sn_q_iconst sn_bc_24 dX2_countLand_15 rfl ?_
  refine sn_q_icge (t := 23) sn_bc_24 dX2_countLand_16 rfl (fun c_16 => ?_) (fun c_16 => ?_)
  · refine sn_q_iconst sn_bc_24 dX2_countLand_23 rfl ?_
    refine sn_q_bast (P := 93) sn_bc_24 dX2_countLand_24 sn_a93 rfl (by omega) (by omega) (by omega) ?_
    refine sn_q_aloadn sn_bc_24 dX2_countLand_25 rfl ?_
    refine sn_q_getr (v := 92) sn_bc_24 dX2_countLand_26 sn_oc_24 sn_pf_2_26 (by decide) rfl rfl (by decide) ?_
    refine sn_q_iloadn sn_bc_24 dX2_countLand_29 rfl ?_
    refine sn_q_iconst sn_bc_24 dX2_countLand_30 rfl ?_
    refine sn_q_iast (P := 92) sn_bc_24 dX2_countLand_31 sn_a92 rfl (by omega) (by omega) ?_
    have g0 : ∀ a c, ¬ (92 ≤ a ∧ a ≤ 93 ∧ c = w) → (sn_s (sn_s σ 93 w 0) 92 w (-1)) a c = σ a c := fun a c g => by
      unfold sn_s
      rw [if_neg (by omega), if_neg (by omega)]
    exact go 0 (by omega) _ (by unfold sn_s; rw [if_neg (by omega), if_pos ⟨rfl, rfl⟩]) (by rw [sn_s_e]) g0
  · refine sn_q_iconst sn_bc_24 dX2_countLand_19 rfl ?_
    refine sn_q_goto (t := 24) sn_bc_24 dX2_countLand_20 rfl ?_
    refine sn_q_bast (P := 93) sn_bc_24 dX2_countLand_24 sn_a93 rfl (by omega) (by omega) (by omega) ?_
    refine sn_q_aloadn sn_bc_24 dX2_countLand_25 rfl ?_
    refine sn_q_getr (v := 92) sn_bc_24 dX2_countLand_26 sn_oc_24 sn_pf_2_26 (by decide) rfl rfl (by decide) ?_
    refine sn_q_iloadn sn_bc_24 dX2_countLand_29 rfl ?_
    refine sn_q_iconst sn_bc_24 dX2_countLand_30 rfl ?_
    refine sn_q_iast (P := 92) sn_bc_24 dX2_countLand_31 sn_a92 rfl (by omega) (by omega) ?_
    have g0 : ∀ a c, ¬ (92 ≤ a ∧ a ≤ 93 ∧ c = w) → (sn_s (sn_s σ 93 w 1) 92 w (-1)) a c = σ a c := fun a c g => by
      unfold sn_s
      rw [if_neg (by omega), if_neg (by omega)]
    exact go 1 (by omega) _ (by unfold sn_s; rw [if_neg (by omega), if_pos ⟨rfl, rfl⟩]) (by rw [sn_s_e]) g0
