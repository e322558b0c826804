/-! all that is counted -/
theorem sn_pt_bd {σ : Int → Int → Int} {w : Int} (ho : sn_or σ w) (hp : sn_pt σ w) : ∀ x, 0 ≤ x → x < 8 → 0 ≤ σ (83 + w) x ∧ σ (83 + w) x ≤ 12 := by
  intro x h0 h8
  by_cases hc : sn_cd σ w x
  · obtain ⟨i, a1, a2, a3⟩ := ho.2.2.2.1 x h0 h8 hc
    have := hp.1 i a1 a2
    rw [a3] at this
    rw [this]
    have hw := sn_wv_bd i
    split <;> omega
  · rw [hp.2 x h0 h8 (fun i a1 a2 e => hc (by have := (ho.2.2.1 i a1 a2).2.2; rw [e] at this; exact this))]
    omega
/-- all facts of what is counted -/
def sn_Ct (σ : Int → Int → Int) : Prop := (∀ l, 0 ≤ l → l < σ 3 0 → sn_lf σ (σ 211 4 = 0) l ∧ sn_pt σ l ∧ sn_php σ l) ∧ sn_b12 σ ∧ sn_rko σ
/-- what lies so between two calls -/
def sn_In (σ : Int → Int → Int) : Prop := (0 ≤ σ 3 0 ∧ σ 3 0 ≤ 8) ∧ (∀ l, 0 ≤ l → l < 8 → sn_bg σ l) ∧ sn_95 σ ∧ (0 ≤ σ 15 3 ∧ σ 15 3 ≤ 8) ∧ (∀ l s, σ 3 0 ≤ l → l < 8 → 0 ≤ s → s < 8 → σ (83 + l) s = 0 ∧ σ (198 + l) s = 0) ∧ (σ 2 15 ≠ 0 → sn_Ct σ)
/-- what a count may write -/
def sn_cf (σ τ : Int → Int → Int) : Prop := ∀ a c, (a < 65 ∨ (96 ≤ a ∧ a < 180) ∨ a = 211 ∨ 217 ≤ a) → ¬ (a = 2 ∧ c = 15) → τ a c = σ a c
theorem sn_rko_t {σ τ : Int → Int → Int} (h : sn_rko σ) (e : ∀ a c, a ≠ 2 → τ a c = σ a c) : sn_rko τ := by
  unfold sn_rko sn_rn sn_PJ sn_PK sn_run at h ⊢
  simp only [e 212 _ (by decide), e 10 _ (by decide), e 11 _ (by decide), e 213 _ (by decide), e 214 _ (by decide), e 215 _ (by decide)]
  have e83 : ∀ s, sn_sum (fun l => τ (83 + l) s) 8 = sn_sum (fun l => σ (83 + l) s) 8 := fun s => sn_sum_c 8 (fun i g => e _ _ (by omega))
  have e198 : ∀ s, sn_sum (fun l => τ (198 + l) s) 8 = sn_sum (fun l => σ (198 + l) s) 8 := fun s => sn_sum_c 8 (fun i g => e _ _ (by omega))
  simp only [e83, e198]
  exact h
theorem sn_Ct_t {σ τ : Int → Int → Int} (h : sn_Ct σ) (e : ∀ a c, a ≠ 2 → τ a c = σ a c) (hn : σ 3 0 ≤ 8) : sn_Ct τ := by
  obtain ⟨h1, h2, h3⟩ := h
  refine ⟨fun l a1 a2 => ?_, sn_b12_t h2 (fun a c _ _ => e a c (by omega)), sn_rko_t h3 e⟩
  rw [e 3 0 (by decide)] at a2
  obtain ⟨b1, b2, b3⟩ := h1 l a1 a2
  rw [e 211 4 (by decide)]
  obtain ⟨d1, d2, d3, d4, d5, d6⟩ := b1
  have eg : sn_gv τ l = sn_gv σ l := sn_gv_t (fun c => e 61 c (by decide))
  refine ⟨⟨sn_or_t d1 (e _ _ (by omega)) (fun _ => e _ _ (by omega)) (fun _ => e _ _ (by omega)) (fun _ => e _ _ (by omega)) (fun _ => e _ _ (by omega)), ?_, ?_, ?_, ?_, ?_⟩, sn_pt_t b2 (e _ _ (by omega)) (fun _ => e _ _ (by omega)) (fun _ => e _ _ (by omega)) (fun _ => e _ _ (by omega)), sn_php_t b3 (fun _ => e _ _ (by omega)) (fun _ => e _ _ (by omega)) (fun _ => e _ _ (by omega))⟩
  · rw [e 92 l (by omega), eg]; exact d2
  · rw [e 93 l (by omega), eg]; exact d3
  · rw [e 93 l (by omega), eg]; exact d4
  · intro z j c1 c2 c3 c4 c5
    rw [e 93 l (by omega)] at z
    rw [e 61 _ (by omega)] at c3
    rw [e 92 _ (by omega)] at c4
    rw [e 60 _ (by omega)] at c5
    rw [e (20 + (l * 5 + j)) 0 (by omega), e (65 + l) _ (by omega)]
    exact d5 z j c1 c2 c3 c4 c5
  · rw [e 94 l (by omega)]; exact d6
theorem sp_count {n k : Nat} {Y : Nat → Nat × Nat} {X : Nat → Nat → sn_V} {σ : Int → Int → Int} {Q : Option sn_V → sn_H → Prop} (hYX : sn_YX Y X) (hI : sn_In σ) (kk : ∀ τ, sn_cf σ τ → (σ 2 15 ≠ 0 → τ = σ) → sn_In τ → τ 2 15 ≠ 0 → Q none (sn_hh n k Y τ X)) : sn_Wp 22 0 [sn_r 2, sn_u] [] (sn_hh n k Y σ X) Q := by
  have h30 := hI.1.1
  have h38 := hI.1.2
  have go : ∀ (τ : Int → Int → Int), sn_ja σ τ (σ 3 0) → sn_95 τ → (∀ l, 0 ≤ l → l < σ 3 0 → sn_lf τ (σ 211 4 = 0) l ∧ sn_pt τ l) → σ 2 15 = 0 → ∀ (d : Nat) (i : Nat) (ω : Int → Int → Int), i + d = 8 → (i : Int) ≤ σ 3 0 → (∀ a c, ¬ (180 ≤ a ∧ a ≤ 196) → ¬ (198 ≤ a ∧ a < 198 + (i : Int)) → ¬ (206 ≤ a ∧ a ≤ 210) → True → ω a c = τ a c) → (∀ l, 0 ≤ l → l < (i : Int) → sn_php ω l) → sn_Wp 22 24 [sn_r 2, sn_i (i : Int)] [] (sn_hh n k Y ω X) Q := by
    intro τ hf h9 hl hc0
    have hb12 : ∀ (ω : Int → Int → Int) (i : Nat), (i : Int) = σ 3 0 → (∀ a c, ¬ (180 ≤ a ∧ a ≤ 196) → ¬ (198 ≤ a ∧ a < 198 + (i : Int)) → ¬ (206 ≤ a ∧ a ≤ 210) → True → ω a c = τ a c) → (∀ l, 0 ≤ l → l < (i : Int) → sn_php ω l) → sn_b12 ω := by
      intro ω i hi hg hp l s a1 a2 a3 a4
      rw [hg (83 + l) s (by omega) (by omega) (by omega) trivial]
      by_cases hl8 : l < σ 3 0
      · have := hp l a1 (by omega) s a3 a4
        exact ⟨sn_pt_bd (hl l a1 hl8).1.1 (hl l a1 hl8).2 s a3 a4, this.1, this.2.1⟩
      · rw [hg (198 + l) s (by omega) (by omega) (by omega) trivial, hf (83 + l) s (by omega), hf (198 + l) s (by omega)]
        have := hI.2.2.2.2.1 l s (by omega) a2 a3 a4
        omega
    refine sn_ind (fun d ih => ?_)
    intro i ω hi hz hg hp
    have e3 : ω 3 0 = σ 3 0 := (hg 3 0 (by omega) (by omega) (by omega) trivial).trans (hf 3 0 (by omega))
    have e15 : ω 15 3 = σ 15 3 := (hg 15 3 (by omega) (by omega) (by omega) trivial).trans (hf 15 3 (by omega))
    have h15 := hI.2.2.2.1
    refine sn_q_iloadn sn_bc_22 dX9_count_24 rfl ?_
    refine sn_q_aloadn sn_bc_22 dX9_count_25 rfl ?_
    refine sn_q_getr (v := 3) sn_bc_22 dX9_count_26 sn_oc_22 sn_pf_9_38 (by decide) rfl rfl (by decide) ?_
    refine sn_q_geti (P := 3) (J := 0) sn_bc_22 dX9_count_29 sn_oc_22 sn_pf_9_118 (by decide) rfl rfl rfl rfl ?_
    refine sn_q_icge (t := 80) sn_bc_22 dX9_count_32 rfl (fun c_32 => ?_) (fun c_32 => ?_)
    · refine sn_q_aloadn sn_bc_22 dX9_count_80 rfl ?_
      refine sn_q_getr (v := 212) sn_bc_22 dX9_count_81 sn_oc_22 sn_pf_9_67 (by decide) rfl rfl (by decide) ?_
      refine sn_q_invV sn_bc_22 dX9_count_84 sn_oc_22 sn_pv_9_456 (by decide) rfl (by decide) (sn_h1 (by decide)) rfl rfl rfl rfl (sp_rCountAll (hb12 ω i (by omega) hg hp) (by omega) (by omega) (fun χ hχ1 hχ2 => ?_))
      refine sn_q_aloadn sn_bc_22 dX9_count_87 rfl ?_
      refine sn_q_iconst sn_bc_22 dX9_count_88 rfl ?_
      refine sn_q_puti (P := 2) (J := 15) sn_bc_22 dX9_count_89 sn_oc_22 sn_pf_9_99 (by decide) rfl rfl rfl rfl (sn_fz (by omega)) rfl ?_
      refine sn_q_vret sn_bc_22 dX9_count_92 rfl ?_
      have hz' : (i : Int) = σ 3 0 := by omega
      have hb := hb12 ω i hz' hg hp
      have q : ∀ a c, ¬ (180 ≤ a ∧ a ≤ 196) → ¬ (198 ≤ a ∧ a < 198 + (i : Int)) → ¬ (206 ≤ a ∧ a ≤ 210) → ¬ (213 ≤ a ∧ a ≤ 216) → ¬ (a = 212 ∧ c = 8) → χ a c = τ a c := fun a c g1 g2 g3 g4 g5 => (hχ1 a c g4 g5).trans (hg a c g1 g2 g3 trivial)
      have q2 : ∀ a c, ¬ (65 ≤ a ∧ a ≤ 95 ∧ ¬ (83 + σ 3 0 ≤ a ∧ a ≤ 90)) → ¬ (180 ≤ a ∧ a ≤ 196) → ¬ (198 ≤ a ∧ a < 198 + σ 3 0) → ¬ (206 ≤ a ∧ a ≤ 210) → ¬ (213 ≤ a ∧ a ≤ 216) → ¬ (a = 212 ∧ c = 8) → χ a c = σ a c := fun a c g0 g1 g2 g3 g4 g5 => (q a c g1 (by omega) g3 g4 g5).trans (hf a c (by omega))
      have hct : sn_Ct χ := by
        refine ⟨fun l a1 a2 => ?_, sn_b12_t hb (fun a c g1 g2 => hχ1 a c (by omega) (by omega)), hχ2⟩
        rw [q2 3 0 (by omega) (by omega) (by omega) (by omega) (by omega) (by omega)] at a2
        rw [q2 211 4 (by omega) (by omega) (by omega) (by omega) (by omega) (by omega)]
        refine ⟨sn_lf_t (hl l a1 a2).1 a1 (by omega) (fun a c g => q a c (by omega) (by omega) (by omega) (by omega) (by omega)), sn_pt_t (hl l a1 a2).2 (q _ _ (by omega) (by omega) (by omega) (by omega) (by omega)) (fun _ => q _ _ (by omega) (by omega) (by omega) (by omega) (by omega)) (fun _ => q _ _ (by omega) (by omega) (by omega) (by omega) (by omega)) (fun _ => q _ _ (by omega) (by omega) (by omega) (by omega) (by omega)), sn_php_t (hp l a1 (by omega)) (fun _ => hχ1 _ _ (by omega) (by omega)) (fun _ => hχ1 _ _ (by omega) (by omega)) (fun _ => hχ1 _ _ (by omega) (by omega))⟩
      have s1 : ∀ a c, a ≠ 2 → sn_s χ 2 15 1 a c = χ a c := fun a c g => sn_s_p g
      have f : ∀ a c, ¬ (65 ≤ a ∧ a ≤ 95 ∧ ¬ (83 + σ 3 0 ≤ a ∧ a ≤ 90)) → ¬ (180 ≤ a ∧ a ≤ 196) → ¬ (198 ≤ a ∧ a < 198 + σ 3 0) → ¬ (206 ≤ a ∧ a ≤ 210) → ¬ (213 ≤ a ∧ a ≤ 216) → ¬ (a = 212 ∧ c = 8) → a ≠ 2 → sn_s χ 2 15 1 a c = σ a c := fun a c g0 g1 g2 g3 g4 g5 g6 => (s1 a c g6).trans (q2 a c g0 g1 g2 g3 g4 g5)
      refine kk (sn_s χ 2 15 1) (fun a c g1 g2 => ?_) (fun z => absurd hc0 z) ⟨?_, fun l a1 a2 => sn_bg_t (hI.2.1 l a1 a2) a1 a2 (fun a c g1 g2 => f a c (by omega) (by omega) (by omega) (by omega) (by omega) (by omega) (by omega)), fun x a1 a2 => ?_, ?_, fun l s a1 a2 a3 a4 => ?_, fun _ => sn_Ct_t hct s1 ?_⟩ (by rw [sn_s_e]; decide)
      · unfold sn_s; rw [if_neg g2]; exact q2 a c (by omega) (by omega) (by omega) (by omega) (by omega) (by omega)
      · rw [f 3 0 (by omega) (by omega) (by omega) (by omega) (by omega) (by omega) (by omega)]; exact hI.1
      · rw [s1 _ _ (by omega), q _ _ (by omega) (by omega) (by omega) (by omega) (by omega)]; exact h9 x a1 a2
      · rw [f 15 3 (by omega) (by omega) (by omega) (by omega) (by omega) (by omega) (by omega)]; exact h15
      · rw [f 3 0 (by omega) (by omega) (by omega) (by omega) (by omega) (by omega) (by omega)] at a1
        rw [f _ _ (by omega) (by omega) (by omega) (by omega) (by omega) (by omega) (by omega), f _ _ (by omega) (by omega) (by omega) (by omega) (by omega) (by omega) (by omega)]
        exact hI.2.2.2.2.1 l s a1 a2 a3 a4
      · rw [q2 3 0 (by omega) (by omega) (by omega) (by omega) (by omega) (by omega)]; omega
    · refine sn_q_aloadn sn_bc_22 dX9_count_35 rfl ?_
      refine sn_q_getr (v := 96) sn_bc_22 dX9_count_36 sn_oc_22 sn_pf_9_58 (by decide) rfl rfl (by decide) ?_
      refine sn_q_iloadn sn_bc_22 dX9_count_39 rfl ?_
      refine sn_q_aloadn sn_bc_22 dX9_count_40 rfl ?_
      refine sn_q_getr (v := 211) sn_bc_22 dX9_count_41 sn_oc_22 sn_pf_9_32 (by decide) rfl rfl (by decide) ?_
      refine sn_q_geti (P := 211) (J := 2) sn_bc_22 dX9_count_44 sn_oc_22 sn_pf_9_143 (by decide) rfl rfl rfl rfl ?_
      refine sn_q_invV sn_bc_22 dX9_count_47 sn_oc_22 sn_pv_9_449 (by decide) rfl (by decide) (sn_h1 (by decide)) rfl rfl rfl rfl (sp_pCountLand (by omega) (by omega) (fun ρ hρ => ?_))
      refine sn_q_aloadn sn_bc_22 dX9_count_50 rfl ?_
      refine sn_q_getr (v := 96) sn_bc_22 dX9_count_51 sn_oc_22 sn_pf_9_58 (by decide) rfl rfl (by decide) ?_
      refine sn_q_iloadn sn_bc_22 dX9_count_54 rfl ?_
      refine sn_q_aloadn sn_bc_22 dX9_count_55 rfl ?_
      refine sn_q_getr (v := 211) sn_bc_22 dX9_count_56 sn_oc_22 sn_pf_9_32 (by decide) rfl rfl (by decide) ?_
      refine sn_q_geti (P := 211) (J := 3) sn_bc_22 dX9_count_59 sn_oc_22 sn_pf_9_146 (by decide) rfl rfl rfl rfl ?_
      refine sn_q_aloadn sn_bc_22 dX9_count_62 rfl ?_
      refine sn_q_getr (v := 63) sn_bc_22 dX9_count_63 sn_oc_22 sn_pf_9_54 (by decide) rfl rfl (by decide) ?_
      refine sn_q_getr (v := 82) sn_bc_22 dX9_count_66 sn_oc_22 sn_pf_9_277 (by decide) rfl rfl (by decide) ?_
      refine sn_q_iloadn sn_bc_22 dX9_count_69 rfl ?_
      refine sn_q_aald sn_bc_22 dX9_count_70 sn_a82 (by omega) (by omega) ?_
      refine sn_q_invV sn_bc_22 dX9_count_71 sn_oc_22 sn_pv_9_452 (by decide) rfl (by decide) (sn_h1 (by decide)) rfl rfl rfl rfl (sp_pGivePoints hYX (by omega) (by omega) (fun x a1 a2 => by rw [hρ (83 + (i : Int)) _ (by omega) (by omega) (by omega), hg (83 + (i : Int)) _ (by omega) (by omega) (by omega) trivial]; exact sn_pt_bd (hl i (by omega) (by omega)).1.1 (hl i (by omega) (by omega)).2 x a1 a2) (fun ν hω1 hω2 => ?_))
      refine sn_q_inc1 sn_bc_22 dX9_count_74 rfl (by omega) (by omega) ?_
      refine sn_q_goto (t := 24) sn_bc_22 dX9_count_77 rfl ?_
      have g' : ∀ a c, ¬ (180 ≤ a ∧ a ≤ 196) → ¬ (a = 198 + (i : Int)) → ¬ (206 ≤ a ∧ a ≤ 210) → ν a c = ω a c := fun a c g1 g2 g3 => (hω1 a c (by omega) (by omega) (by omega) (by omega)).trans (hρ a c (by omega) (by omega) (by omega))
      refine ih (d - 1) (by omega) (i + 1) _ (by omega) (by omega) (fun a c g1 g2 g3 _ => (g' a c g1 (by omega) g3).trans (hg a c g1 (by omega) g3 trivial)) (fun l a1 a2 => ?_)
      by_cases e : l = (i : Int)
      · rw [e]; exact hω2
      · exact sn_php_t (hp l a1 (by omega)) (fun _ => g' _ _ (by omega) (by omega) (by omega)) (fun _ => g' _ _ (by omega) (by omega) (by omega)) (fun _ => g' _ _ (by omega) (by omega) (by omega))
  refine sn_q_aloadn sn_bc_22 dX9_count_0 rfl ?_
  refine sn_q_geti (P := 2) (J := 15) sn_bc_22 dX9_count_1 sn_oc_22 sn_pf_9_99 (by decide) rfl rfl rfl rfl ?_
  refine sn_q_ifeq (t := 8) sn_bc_22 dX9_count_4 rfl (fun c_4 => ?_) (fun c_4 => ?_)
  · refine sn_q_aloadn sn_bc_22 dX9_count_8 rfl ?_
    refine sn_q_getr (v := 63) sn_bc_22 dX9_count_9 sn_oc_22 sn_pf_9_54 (by decide) rfl rfl (by decide) ?_
    refine sn_q_aloadn sn_bc_22 dX9_count_12 rfl ?_
    refine sn_q_getr (v := 211) sn_bc_22 dX9_count_13 sn_oc_22 sn_pf_9_32 (by decide) rfl rfl (by decide) ?_
    refine sn_q_geti (P := 211) (J := 4) sn_bc_22 dX9_count_16 sn_oc_22 sn_pf_9_149 (by decide) rfl rfl rfl rfl ?_
    refine sn_q_invV sn_bc_22 dX9_count_19 sn_oc_22 sn_pv_9_445 (by decide) rfl (by decide) (sn_h1 (by decide)) rfl rfl rfl rfl (sp_jCountAll hYX hI.1.1 hI.1.2 (fun l a1 a2 => hI.2.1 l a1 (by omega)) hI.2.2.1 (fun τ hf h9 hl => ?_))
    refine sn_q_iconst sn_bc_22 dX9_count_22 rfl ?_
    refine sn_q_istn1 sn_bc_22 dX9_count_23 rfl ?_
    exact go τ hf h9 hl (by omega) 8 0 τ rfl (by omega) (fun _ _ _ _ _ _ => rfl) (fun l a1 a2 => by omega)
  · refine sn_q_vret sn_bc_22 dX9_count_7 rfl ?_
    exact kk σ (fun _ _ _ _ => rfl) (fun _ => rfl) hI (by omega)
