/-- what all the juries' count may write -/
def sn_ja (σ τ : Int → Int → Int) (m : Int) : Prop := ∀ a c, (a < 65 ∨ 95 < a ∨ (83 + m ≤ a ∧ a ≤ 90)) → τ a c = σ a c
theorem sp_jCountAll {n k : Nat} {Y : Nat → Nat × Nat} {X : Nat → Nat → sn_V} {σ : Int → Int → Int} {Q : Option sn_V → sn_H → Prop} {a : Int} (hYX : sn_YX Y X) (h1 : 0 ≤ σ 3 0) (h2 : σ 3 0 ≤ 8) (hbg : ∀ l, 0 ≤ l → l < σ 3 0 → sn_bg σ l) (h95 : sn_95 σ) (kk : ∀ τ, sn_ja σ τ (σ 3 0) → sn_95 τ → (∀ l, 0 ≤ l → l < σ 3 0 → sn_lf τ (a = 0) l ∧ sn_pt τ l) → Q none (sn_hh n k Y τ X)) : sn_Wp 23 0 [sn_r 63, sn_i a, sn_u] [] (sn_hh n k Y σ X) Q := by
  have loop3 : ∀ (τ0 : Int → Int → Int), sn_ja σ τ0 (σ 3 0) → sn_95 τ0 → (∀ l, 0 ≤ l → l < σ 3 0 → sn_lf τ0 (a = 0) l) → ∀ (d : Nat) (i : Nat) (τ : Int → Int → Int), i + d = 8 → (i : Int) ≤ σ 3 0 → (∀ b c, (b < 83 ∨ 83 + (i : Int) ≤ b) → τ b c = τ0 b c) → (∀ l, 0 ≤ l → l < (i : Int) → sn_pt τ l) → sn_Wp 23 72 [sn_r 63, sn_i a, sn_i (i : Int)] [] (sn_hh n k Y τ X) Q := by
    intro τ0 hf0 h9 hl0
    have hlf : ∀ (τ : Int → Int → Int), (∀ b c, (b < 83 ∨ 91 ≤ b) → τ b c = τ0 b c) → ∀ l, 0 ≤ l → l < σ 3 0 → sn_lf τ (a = 0) l := fun τ hg l a1 a2 => sn_lf_t (hl0 l a1 a2) a1 (by omega) (fun b c g => hg b c (by omega))
    refine sn_ind (fun d ih => ?_)
    intro i τ hi hz hg0 hp
    have hg : ∀ b c, (b < 83 ∨ 91 ≤ b) → τ b c = τ0 b c := fun b c g => hg0 b c (by omega)
    have e3 := (hg 3 0 (by omega)).trans (hf0 3 0 (by omega))
    refine sn_q_iloadn sn_bc_23 dX2_countAll_72 rfl ?_
    refine sn_q_aloadn sn_bc_23 dX2_countAll_73 rfl ?_
    refine sn_q_getr (v := 3) sn_bc_23 dX2_countAll_74 sn_oc_23 sn_pf_2_39 (by decide) rfl rfl (by decide) ?_
    refine sn_q_geti (P := 3) (J := 0) sn_bc_23 dX2_countAll_77 sn_oc_23 sn_pf_2_51 (by decide) rfl rfl rfl rfl ?_
    refine sn_q_icge (t := 94) sn_bc_23 dX2_countAll_80 rfl (fun c_80 => ?_) (fun c_80 => ?_)
    · refine sn_q_vret sn_bc_23 dX2_countAll_94 rfl ?_
      exact kk τ (fun b c g => (hg0 b c (by omega)).trans (hf0 b c (by omega))) (fun x a1 a2 => by rw [hg 95 x (by omega)]; exact h9 x a1 a2) (fun l a1 a2 => ⟨hlf τ hg l a1 a2, hp l a1 (by omega)⟩)
    · refine sn_q_aloadn sn_bc_23 dX2_countAll_83 rfl ?_
      refine sn_q_iloadn sn_bc_23 dX2_countAll_84 rfl ?_
      refine sn_q_invV sn_bc_23 dX2_countAll_85 sn_oc_23 sn_pv_2_70 (by decide) rfl (by decide) (sn_h1 (by decide)) rfl rfl rfl rfl (sp_jGivePoints hYX (by omega) (by omega) (hlf τ hg i (by omega) (by omega)).1 (fun ρ hr1 hr2 => ?_))
      refine sn_q_inc2 sn_bc_23 dX2_countAll_88 rfl (by omega) (by omega) ?_
      refine sn_q_goto (t := 72) sn_bc_23 dX2_countAll_91 rfl ?_
      refine ih (d - 1) (by omega) (i + 1) ρ (by omega) (by omega) (fun b c g => (hr1 b c (by omega)).trans (hg0 b c (by omega))) (fun l a1 a2 => ?_)
      by_cases e : l = (i : Int)
      · rw [e]; exact hr2
      · exact sn_pt_t (hp l a1 (by omega)) (hr1 _ _ (by omega)) (fun z => hr1 _ z (by omega)) (fun z => hr1 _ z (by omega)) (fun z => hr1 _ z (by omega))
  have loop2 : ∀ (d : Nat) (i : Nat) (τ : Int → Int → Int), i + d = 8 → (i : Int) ≤ σ 3 0 → sn_ja σ τ (σ 3 0) → sn_95 τ → (∀ l, 0 ≤ l → l < σ 3 0 → sn_lf τ (a = 0) l) → sn_Wp 23 34 [sn_r 63, sn_i a, sn_i (i : Int)] [] (sn_hh n k Y τ X) Q := by
    refine sn_ind (fun d ih => ?_)
    intro i τ hi hz hf h9 hl
    have e3 := hf 3 0 (by omega)
    refine sn_q_iloadn sn_bc_23 dX2_countAll_34 rfl ?_
    refine sn_q_aloadn sn_bc_23 dX2_countAll_35 rfl ?_
    refine sn_q_getr (v := 3) sn_bc_23 dX2_countAll_36 sn_oc_23 sn_pf_2_39 (by decide) rfl rfl (by decide) ?_
    refine sn_q_geti (P := 3) (J := 0) sn_bc_23 dX2_countAll_39 sn_oc_23 sn_pf_2_51 (by decide) rfl rfl rfl rfl ?_
    refine sn_q_icge (t := 70) sn_bc_23 dX2_countAll_42 rfl (fun c_42 => ?_) (fun c_42 => ?_)
    · refine sn_q_iconst sn_bc_23 dX2_countAll_70 rfl ?_
      refine sn_q_istn2 sn_bc_23 dX2_countAll_71 rfl ?_
      exact loop3 τ hf h9 hl 8 0 τ rfl (by omega) (fun _ _ _ => rfl) (fun l a1 a2 => by omega)
    · refine sn_q_aloadn sn_bc_23 dX2_countAll_45 rfl ?_
      refine sn_q_getr (v := 93) sn_bc_23 dX2_countAll_46 sn_oc_23 sn_pf_2_29 (by decide) rfl rfl (by decide) ?_
      refine sn_q_iloadn sn_bc_23 dX2_countAll_49 rfl ?_
      refine sn_q_bald (P := 93) sn_bc_23 dX2_countAll_50 sn_a93 rfl (by omega) (by omega) ?_
      refine sn_q_ifeq (t := 64) sn_bc_23 dX2_countAll_51 rfl (fun c_51 => ?_) (fun c_51 => ?_)
      · refine sn_q_inc2 sn_bc_23 dX2_countAll_64 rfl (by omega) (by omega) ?_
        refine sn_q_goto (t := 34) sn_bc_23 dX2_countAll_67 rfl ?_
        first
          | (have q : ∀ b c, b ≠ 65 + (i : Int) → b ≠ 74 + (i : Int) → ¬ (b = 91 ∧ c = (i : Int)) → s b c = τ b c := fun b c g1 g2 g3 => (hs b c g2 g3).trans (hg b c g1)
             refine ih (d - 1) (by omega) (i + 1) s (by omega) (by omega) (fun b c g => (q b c (by omega) (by omega) (by omega)).trans (hf b c g)) (fun x a1 a2 => by rw [q 95 x (by omega) (by omega) (by omega)]; exact h9 x a1 a2) (fun l a1 a2 => ?_)
             by_cases e : l = (i : Int)
             · obtain ⟨b1, b2, b3, b4, b5, b6⟩ := hl l a1 a2
               have eg : sn_gv s l = sn_gv τ l := sn_gv_t (fun c => q 61 c (by omega) (by omega) (by omega))
               rw [e] at b2 b3 b4 b5 b6 eg ⊢
               unfold sn_lf
               rw [eg, q 92 i (by omega) (by omega) (by omega), q 93 i (by omega) (by omega) (by omega), q 94 i (by omega) (by omega) (by omega)]
               exact ⟨ho, b2, b3, b4, fun z => absurd z (by assumption), b6⟩
             · exact sn_lf_t (hl l a1 a2) a1 (by omega) (fun b c g => q b c (by omega) (by omega) (by omega)))
          | exact ih (d - 1) (by omega) (i + 1) τ (by omega) (by omega) hf h9 hl
      · have e3 : τ 3 0 = σ 3 0 := hf 3 0 (by omega)
        refine sn_q_aloadn sn_bc_23 dX2_countAll_54 rfl ?_
        refine sn_q_iloadn sn_bc_23 dX2_countAll_55 rfl ?_
        refine sn_q_invV sn_bc_23 dX2_countAll_56 sn_oc_23 sn_pv_2_64 (by decide) rfl (by decide) (sn_h1 (by decide)) rfl rfl rfl rfl (sp_borrowSums (by omega) (by omega) (by omega) (by omega) (fun ρ hg => ?_))
        refine sn_q_aloadn sn_bc_23 dX2_countAll_59 rfl ?_
        refine sn_q_iloadn sn_bc_23 dX2_countAll_60 rfl ?_
        refine sn_q_invV sn_bc_23 dX2_countAll_61 sn_oc_23 sn_pv_2_67 (by decide) rfl (by decide) (sn_h1 (by decide)) rfl rfl rfl rfl (sp_sortCandidates (by omega) (by omega) (fun s hs ho => ?_))
        refine sn_q_inc2 sn_bc_23 dX2_countAll_64 rfl (by omega) (by omega) ?_
        refine sn_q_goto (t := 34) sn_bc_23 dX2_countAll_67 rfl ?_
        first
          | (have q : ∀ b c, b ≠ 65 + (i : Int) → b ≠ 74 + (i : Int) → ¬ (b = 91 ∧ c = (i : Int)) → s b c = τ b c := fun b c g1 g2 g3 => (hs b c g2 g3).trans (hg b c g1)
             refine ih (d - 1) (by omega) (i + 1) s (by omega) (by omega) (fun b c g => (q b c (by omega) (by omega) (by omega)).trans (hf b c g)) (fun x a1 a2 => by rw [q 95 x (by omega) (by omega) (by omega)]; exact h9 x a1 a2) (fun l a1 a2 => ?_)
             by_cases e : l = (i : Int)
             · obtain ⟨b1, b2, b3, b4, b5, b6⟩ := hl l a1 a2
               have eg : sn_gv s l = sn_gv τ l := sn_gv_t (fun c => q 61 c (by omega) (by omega) (by omega))
               rw [e] at b2 b3 b4 b5 b6 eg ⊢
               unfold sn_lf
               rw [eg, q 92 i (by omega) (by omega) (by omega), q 93 i (by omega) (by omega) (by omega), q 94 i (by omega) (by omega) (by omega)]
               exact ⟨ho, b2, b3, b4, fun z => absurd z (by assumption), b6⟩
             · exact sn_lf_t (hl l a1 a2) a1 (by omega) (fun b c g => q b c (by omega) (by omega) (by omega)))
          | exact ih (d - 1) (by omega) (i + 1) τ (by omega) (by omega) hf h9 hl
  have loop1 : ∀ (d : Nat) (i : Nat) (τ : Int → Int → Int), i + d = 8 → (i : Int) ≤ σ 3 0 → sn_ja σ τ (σ 3 0) → sn_95 τ → (∀ l, 0 ≤ l → l < (i : Int) → ∀ A, sn_lf τ A l) → sn_Wp 23 2 [sn_r 63, sn_i a, sn_i (i : Int)] [] (sn_hh n k Y τ X) Q := by
    refine sn_ind (fun d ih => ?_)
    intro i τ hi hz hf h9 hl
    have e3 := hf 3 0 (by omega)
    refine sn_q_iloadn sn_bc_23 dX2_countAll_2 rfl ?_
    refine sn_q_aloadn sn_bc_23 dX2_countAll_3 rfl ?_
    refine sn_q_getr (v := 3) sn_bc_23 dX2_countAll_4 sn_oc_23 sn_pf_2_39 (by decide) rfl rfl (by decide) ?_
    refine sn_q_geti (P := 3) (J := 0) sn_bc_23 dX2_countAll_7 sn_oc_23 sn_pf_2_51 (by decide) rfl rfl rfl rfl ?_
    refine sn_q_icge (t := 24) sn_bc_23 dX2_countAll_10 rfl (fun c_10 => ?_) (fun c_10 => ?_)
    · refine sn_q_iloadn sn_bc_23 dX2_countAll_24 rfl ?_
      refine sn_q_ifeq (t := 32) sn_bc_23 dX2_countAll_25 rfl (fun c_25 => ?_) (fun c_25 => ?_)
      · refine sn_q_iconst sn_bc_23 dX2_countAll_32 rfl ?_
        refine sn_q_istn2 sn_bc_23 dX2_countAll_33 rfl ?_
        first
          | exact loop2 8 0 τ rfl (by omega) hf h9 (fun l a1 a2 => hl l a1 (by omega) _)
          | (refine loop2 8 0 ρ rfl (by omega) (fun b c g => (hv1 b c (by omega)).trans (hf b c g)) (fun x a1 a2 => by rw [hv1 95 x (by omega)]; exact h9 x a1 a2) (fun l a1 a2 => ?_)
             obtain ⟨b1, b2, b3, b4, b5, b6⟩ := hl l a1 (by omega) True
             have eg : sn_gv ρ l = sn_gv τ l := sn_gv_t (fun c => hv1 61 c (by omega))
             have e93 := hv2 l
             unfold sn_lf
             rw [eg, hv1 92 l (by omega), hv1 94 l (by omega)]
             refine ⟨sn_or_t b1 (hv1 _ _ (by omega)) (fun _ => hv1 _ _ (by omega)) (fun _ => hv1 _ _ (by omega)) (fun _ => hv1 _ _ (by omega)) (fun _ => hv1 _ _ (by omega)), b2, fun z => ?_, fun z => absurd z (by assumption), fun z j d1 d2 d3 d4 d5 => ?_, b6⟩
             · rcases e93 with h | h
               · rw [h]; exact b3 z
               · omega
             · have z2 : τ 93 l = 0 := by omega
               rw [hv1 _ _ (by omega)] at d3 d5
               rw [hv1 _ _ (by omega), hv1 _ _ (by omega)]
               exact b5 z2 j d1 d2 d3 d4 d5)
      · refine sn_q_aloadn sn_bc_23 dX2_countAll_28 rfl ?_
        refine sn_q_invV sn_bc_23 dX2_countAll_29 sn_oc_23 sn_pv_2_61 (by decide) rfl (by decide) (sn_h1 (by decide)) rfl rfl rfl rfl (sp_voidPairs (by omega) (by omega) (fun l a1 a2 => (hl l a1 (by omega) True).2.2.2.2.2) (fun ρ hv1 hv2 => ?_))
        refine sn_q_iconst sn_bc_23 dX2_countAll_32 rfl ?_
        refine sn_q_istn2 sn_bc_23 dX2_countAll_33 rfl ?_
        first
          | exact loop2 8 0 τ rfl (by omega) hf h9 (fun l a1 a2 => hl l a1 (by omega) _)
          | (refine loop2 8 0 ρ rfl (by omega) (fun b c g => (hv1 b c (by omega)).trans (hf b c g)) (fun x a1 a2 => by rw [hv1 95 x (by omega)]; exact h9 x a1 a2) (fun l a1 a2 => ?_)
             obtain ⟨b1, b2, b3, b4, b5, b6⟩ := hl l a1 (by omega) True
             have eg : sn_gv ρ l = sn_gv τ l := sn_gv_t (fun c => hv1 61 c (by omega))
             have e93 := hv2 l
             unfold sn_lf
             rw [eg, hv1 92 l (by omega), hv1 94 l (by omega)]
             refine ⟨sn_or_t b1 (hv1 _ _ (by omega)) (fun _ => hv1 _ _ (by omega)) (fun _ => hv1 _ _ (by omega)) (fun _ => hv1 _ _ (by omega)) (fun _ => hv1 _ _ (by omega)), b2, fun z => ?_, fun z => absurd z (by assumption), fun z j d1 d2 d3 d4 d5 => ?_, b6⟩
             · rcases e93 with h | h
               · rw [h]; exact b3 z
               · omega
             · have z2 : τ 93 l = 0 := by omega
               rw [hv1 _ _ (by omega)] at d3 d5
               rw [hv1 _ _ (by omega), hv1 _ _ (by omega)]
               exact b5 z2 j d1 d2 d3 d4 d5)
    · refine sn_q_aloadn sn_bc_23 dX2_countAll_13 rfl ?_
      refine sn_q_iloadn sn_bc_23 dX2_countAll_14 rfl ?_
      refine sn_q_invV sn_bc_23 dX2_countAll_15 sn_oc_23 sn_pv_2_57 (by decide) rfl (by decide) (sn_h1 (by decide)) rfl rfl rfl rfl (sp_countLand hYX (by omega) (by omega) (sn_bg_of (hbg i (by omega) (by omega)) (by omega) (by omega) (fun a c _ => hf a c (by omega))) h9 (fun ρ hcl h9r hlf => ?_))
      refine sn_q_inc2 sn_bc_23 dX2_countAll_18 rfl (by omega) (by omega) ?_
      refine sn_q_goto (t := 2) sn_bc_23 dX2_countAll_21 rfl ?_
      refine ih (d - 1) (by omega) (i + 1) ρ (by omega) (by omega) (fun b c g => (hcl b c (by omega) (by omega) (by omega) (by omega)).trans (hf b c g)) h9r (fun l a1 a2 A => ?_)
      by_cases e : l = (i : Int)
      · rw [e]; exact hlf A
      · exact sn_lf_t (hl l a1 (by omega) A) a1 (by omega) (fun b c g => hcl b c (by omega) (by omega) (by omega) (by omega))
  refine sn_q_iconst sn_bc_23 dX2_countAll_0 rfl ?_
  refine sn_q_istn2 sn_bc_23 dX2_countAll_1 rfl ?_
  exact loop1 8 0 σ rfl (by omega) (fun _ _ _ => rfl) h95 (fun l a1 a2 => by omega)
