/-! calls of the contest, third lot -/
theorem sn_s_2 {σ : Int → Int → Int} {P J z a b : Int} (h : ¬ (a = P ∧ b = J)) : sn_s σ P J z a b = σ a b := if_neg h
theorem sk_to_t {σ σ' τ τ' : Int → Int → Int} {s b : Int} (h : sk_to σ τ s b) (e1 : σ' 60 b = σ 60 b) (e2 : ∀ i, σ' (20 + b) i = σ (20 + b) i) (e3 : τ' 60 b = τ 60 b) (e4 : ∀ i, τ' (20 + b) i = τ (20 + b) i) : sk_to σ' τ' s b := by
  unfold sk_to at h ⊢
  simp only [e1, e2, e3, e4]
  exact h
theorem sk_St_t' {σ τ : Int → Int → Int} (h : sk_St σ) (e9 : τ 9 0 = σ 9 0) (e : ∀ a c, (a = 10 ∨ a = 13 ∨ a = 15 ∨ a = 16) → τ a c = σ a c) : sk_St τ := by
  unfold sk_St sn_od sn_p9 at h ⊢
  simp only [e9, e 10 _ (by decide), e 13 _ (by decide), e 15 _ (by decide), e 16 _ (by decide)]
  exact h
theorem sk_dis {σ ω : Int → Int → Int} {w : Int} (hI : sk_Iv σ) (h0 : 0 ≤ w) (h8 : w < 8) (hn : σ 10 w ≠ 0) (ho : σ 11 w = 0) (f : ∀ a c, ¬ (a = 11 ∧ c = w) → ¬ (a = 9 ∧ c = 1) → ¬ (20 ≤ a ∧ a ≤ 60) → ¬ (219 ≤ a ∧ a ≤ 227 ∧ c = w) → ¬ (a = 2 ∧ c = 15) → ω a c = σ a c) (e11 : ω 11 w = 1) (e91 : ω 9 1 = σ 9 1 + 1) (e219 : ∀ l, 0 ≤ l → l < 8 → ω (219 + l) w = 0) (e227 : ω 227 w = 0) (ht : ∀ b, 0 ≤ b → b < 40 → sk_to σ ω w b) (e2 : ω 2 15 = 0) : sk_Iv ω := by
  obtain ⟨q1, q2, q3, q4, q5, q6⟩ := hI
  have e10 : ∀ c, ω 10 c = σ 10 c := fun c => f 10 c (by omega) (by omega) (by omega) (by omega) (by omega)
  have e11' : ∀ c, c ≠ w → ω 11 c = σ 11 c := fun c g => f 11 c (by omega) (by omega) (by omega) (by omega) (by omega)
  have hcd : ∀ l x, sn_cd ω l x ↔ (sn_cd σ l x ∧ x ≠ w) := fun l x => by
    unfold sn_cd
    rw [e10]
    by_cases e : x = w
    · rw [e, e11]
      constructor
      · intro z; exact absurd z.2.2 (by decide)
      · intro z; exact absurd rfl z.2
    · rw [e11' x e]
      constructor
      · intro z; exact ⟨z, e⟩
      · intro z; exact z.1
  have hC : sk_C ω := by
    refine ⟨fun l j a1 a2 a3 a4 a5 => ?_, fun b a1 a2 => ?_⟩
    · rw [f 61 _ (by omega) (by omega) (by omega) (by omega) (by omega)] at a5
      obtain ⟨b1, b2, b3, b4⟩ := q4.1 l j a1 a2 a3 a4 a5
      obtain ⟨c1, c2, c3, c4⟩ := ht (l * 5 + j) (by omega) (by omega)
      refine ⟨c1, by omega, fun m g1 g2 => ?_, fun x g1 g2 g3 => ?_⟩
      · obtain ⟨d1, m', d2, d3, d4⟩ := c3 m g1 g2
        have := b3 m' d2 d3
        rw [← d4] at this
        exact ⟨this.1, this.2.1, (hcd l _).mpr ⟨this.2.2, d1⟩⟩
      · obtain ⟨z1, z2⟩ := (hcd l x).mp g3
        obtain ⟨m', d1, d2, d3⟩ := b4 x g1 g2 z1
        obtain ⟨m, k1, k2, k3⟩ := c4 m' d1 d2 (by rw [d3]; exact z2)
        exact ⟨m, k1, k2, k3.trans d3⟩
    · have := ht b a1 a2
      have := q4.2 b a1 a2
      unfold sk_to at *
      omega
  refine ⟨sk_In_0 q1 (fun a c g => f a c (by omega) (by omega) (by omega) (by omega) (by omega)) (by rw [f 3 0 (by omega) (by omega) (by omega) (by omega) (by omega)]; omega) (by rw [f 3 0 (by omega) (by omega) (by omega) (by omega) (by omega)]; exact q1.1.2) hC (by rw [f 15 3 (by omega) (by omega) (by omega) (by omega) (by omega)]; exact q1.2.2.2.1) e2, ?_, sk_St_t' q3 (f 9 0 (by omega) (by omega) (by omega) (by omega) (by omega)) (fun a c g => f a c (by omega) (by omega) (by omega) (by omega) (by omega)), hC, ?_, sk_E_t q6 (fun a c g => f a c (by omega) (by omega) (by omega) (by omega) (by omega))⟩
  · obtain ⟨a1, a2, a3, a4⟩ := q2
    refine ⟨fun s b1 b2 b3 => ?_, ?_, ?_, fun s b1 b2 b3 => ?_⟩
    · rw [e10] at b3; rw [f 3 0 (by omega) (by omega) (by omega) (by omega) (by omega)]; exact a1 s b1 b2 b3
    · unfold sk_si at a2 ⊢; simp only [e10]; rw [f 9 0 (by omega) (by omega) (by omega) (by omega) (by omega)]; exact a2
    · have := sk_sum_upd (f := fun s => if σ 10 s ≠ 0 ∧ σ 11 s = 0 then (1 : Int) else 0) (g := fun s => if ω 10 s ≠ 0 ∧ ω 11 s = 0 then (1 : Int) else 0) (w := w) 8 h0 h8 (fun i _ _ b => by rw [e10, e11' i b])
      rw [if_neg (show ¬ (ω 10 w ≠ 0 ∧ ω 11 w = 0) from fun z => by rw [e11] at z; exact absurd z.2 (by decide)), if_pos (show σ 10 w ≠ 0 ∧ σ 11 w = 0 from ⟨hn, ho⟩)] at this
      have h2 : sn_rn ω 8 = sn_rn σ 8 + (0 - 1) := this
      rw [h2, e91, f 9 0 (by omega) (by omega) (by omega) (by omega) (by omega)]
      omega
    · rw [e10] at b3
      have : s ≠ w := fun z => by rw [z] at b3; exact hn b3
      rw [e11' s this]; exact a4 s b1 b2 b3
  · obtain ⟨a1, a2, a3, a4, a5, a6, a7⟩ := q5
    have g : ∀ a c, 217 ≤ a → ¬ (219 ≤ a ∧ a ≤ 227 ∧ c = w) → ω a c = σ a c := fun a c z1 z2 => f a c (by omega) (by omega) (by omega) z2 (by omega)
    refine ⟨fun l s b1 b2 b3 b4 => ?_, fun s b1 b2 => ?_, fun l s b1 b2 b3 b4 b5 => ?_, ?_, ?_, fun l b1 b2 => ?_, fun l b1 b2 => ?_⟩
    · by_cases e : s = w
      · rw [e, e219 l b1 b2]; omega
      · rw [g _ _ (by omega) (by omega)]; exact a1 l s b1 b2 b3 b4
    · by_cases e : s = w
      · rw [e, e227]; omega
      · rw [g _ _ (by omega) (by omega)]; exact a2 s b1 b2
    · rw [g 228 l (by omega) (by omega)] at b5
      by_cases e : s = w
      · rw [e, e219 l b1 b2]
      · rw [g _ _ (by omega) (by omega)]; exact a3 l s b1 b2 b3 b4 b5
    · unfold sk_nl at a4 ⊢; rw [g 217 7 (by omega) (by omega), a4]; exact (sn_sum_c 8 (fun i _ => by rw [g 228 i (by omega) (by omega)])).symm
    · unfold sk_ns at a5 ⊢; rw [g 217 8 (by omega) (by omega), a5]; exact (sn_sum_c 8 (fun i _ => by rw [g 230 i (by omega) (by omega)])).symm
    · rw [f 3 0 (by omega) (by omega) (by omega) (by omega) (by omega)] at b1; rw [g _ _ (by omega) (by omega)]; exact a6 l b1 b2
    · rw [g _ _ (by omega) (by omega)]; exact a7 l b1 b2
theorem sk_disqualify {n k : Nat} {Y : Nat → Nat × Nat} {X : Nat → Nat → sn_V} {σ : Int → Int → Int} {Q : Option sn_V → sn_H → Prop} {w : Int} (hI : sk_Iv σ) (hph : σ 2 10 = 1 ∨ σ 2 10 = 2) (h1 : 0 ≤ w) (h2 : w < σ 3 0) (hn : σ 10 w ≠ 0) (ho : σ 11 w = 0) (h3 : 3 ≤ σ 9 0 - σ 9 1) (kk : ∀ ω, sk_Iv ω → (∀ a c, ¬ (a = 11 ∧ c = w) → ¬ (a = 9 ∧ c = 1) → ¬ (20 ≤ a ∧ a ≤ 60) → ¬ (219 ≤ a ∧ a ≤ 227 ∧ c = w) → ¬ (a = 2 ∧ c = 15) → ω a c = σ a c) → ω 11 w = 1 → ω 9 1 = σ 9 1 + 1 → (∀ l, 0 ≤ l → l < 8 → ω (219 + l) w = 0) → ω 227 w = 0 → Q (some (sn_i (σ 9 0 - (σ 9 1 + 1)))) (sn_hh n k Y ω X)) : sn_Wp 83 0 [sn_r 2, sn_i w] [] (sn_hh n k Y σ X) Q := by
  have h38 := hI.1.1.2
  have hA := sk_A_bd hI.2.1
  refine sn_q_aloadn sn_bc_83 dX9_disqualify_0 rfl ?_
  refine sn_q_iloadn sn_bc_83 dX9_disqualify_1 rfl ?_
  refine sn_q_invV sn_bc_83 dX9_disqualify_2 sn_oc_83 sn_pv_9_152 (by decide) rfl (by decide) (sn_h1 (by decide)) rfl rfl rfl rfl (sp_needLand h1 h2 hI.1.1.2 ?_)
  refine sn_q_aloadn sn_bc_83 dX9_disqualify_5 rfl ?_
  refine sn_q_iloadn sn_bc_83 dX9_disqualify_6 rfl ?_
  refine sn_q_invV sn_bc_83 dX9_disqualify_7 sn_oc_83 sn_pv_9_222 (by decide) rfl (by decide) (sn_h1 (by decide)) rfl rfl rfl rfl (sp_needSong h1 (by omega) hn ?_)
  refine sn_q_aloadn sn_bc_83 dX9_disqualify_10 rfl ?_
  refine sn_q_geti (P := 2) (J := 10) sn_bc_83 dX9_disqualify_11 sn_oc_83 sn_pf_9_84 (by decide) rfl rfl rfl rfl ?_
  refine sn_q_iconst sn_bc_83 dX9_disqualify_14 rfl ?_
  refine sn_q_iceq (t := 36) sn_bc_83 dX9_disqualify_15 rfl (fun c_15 => ?_) (fun c_15 => ?_)
  · refine sn_q_aloadn sn_bc_83 dX9_disqualify_36 rfl ?_
    refine sn_q_getr (v := 9) sn_bc_83 dX9_disqualify_37 sn_oc_83 sn_pf_9_42 (by decide) rfl rfl (by decide) ?_
    refine sn_q_getr (v := 11) sn_bc_83 dX9_disqualify_40 sn_oc_83 sn_pf_9_238 (by decide) rfl rfl (by decide) ?_
    refine sn_q_iloadn sn_bc_83 dX9_disqualify_43 rfl ?_
    refine sn_q_bald (P := 11) sn_bc_83 dX9_disqualify_44 sn_a11 rfl (by omega) (by omega) ?_
    refine sn_q_ifne (t := 59) sn_bc_83 dX9_disqualify_45 rfl (fun c_45 => ?_) (fun c_45 => ?_)
    · exfalso; omega
    · refine sn_q_aloadn sn_bc_83 dX9_disqualify_48 rfl ?_
      refine sn_q_getr (v := 9) sn_bc_83 dX9_disqualify_49 sn_oc_83 sn_pf_9_42 (by decide) rfl rfl (by decide) ?_
      refine sn_q_invV sn_bc_83 dX9_disqualify_52 sn_oc_83 sn_pv_9_241 (by decide) rfl (by decide) (sn_h1 (by decide)) rfl rfl rfl rfl (sp_running (by omega) (by omega) (by omega) (by omega) ?_)
      refine sn_q_iconst sn_bc_83 dX9_disqualify_55 rfl ?_
      refine sn_q_icge (t := 69) sn_bc_83 dX9_disqualify_56 rfl (fun c_56 => ?_) (fun c_56 => ?_)
      · refine sn_q_aloadn sn_bc_83 dX9_disqualify_69 rfl ?_
        refine sn_q_getr (v := 9) sn_bc_83 dX9_disqualify_70 sn_oc_83 sn_pf_9_42 (by decide) rfl rfl (by decide) ?_
        refine sn_q_iloadn sn_bc_83 dX9_disqualify_73 rfl ?_
        refine sn_q_invV sn_bc_83 dX9_disqualify_74 sn_oc_83 sn_pv_9_246 (by decide) rfl (by decide) (sn_h1 (by decide)) rfl rfl rfl rfl (sp_putOut h1 (by omega) (by omega) (by omega) ?_)
        refine sn_q_aloadn sn_bc_83 dX9_disqualify_77 rfl ?_
        refine sn_q_getr (v := 18) sn_bc_83 dX9_disqualify_78 sn_oc_83 sn_pf_9_50 (by decide) rfl rfl (by decide) ?_
        refine sn_q_iloadn sn_bc_83 dX9_disqualify_81 rfl ?_
        refine sn_q_invV sn_bc_83 dX9_disqualify_82 sn_oc_83 sn_pv_9_249 (by decide) rfl (by decide) (sn_h1 (by decide)) rfl rfl rfl rfl (sp_takeOut (fun b a1 a2 => by rw [sn_s_p (by omega), sn_s_p (by omega)]; exact hI.2.2.2.1.2 b a1 a2) (fun τ hf ht => ?_))
        refine sn_q_aloadn sn_bc_83 dX9_disqualify_85 rfl ?_
        refine sn_q_getr (v := 217) sn_bc_83 dX9_disqualify_86 sn_oc_83 sn_pf_9_76 (by decide) rfl rfl (by decide) ?_
        refine sn_q_iloadn sn_bc_83 dX9_disqualify_89 rfl ?_
        refine sn_q_invV sn_bc_83 dX9_disqualify_90 sn_oc_83 sn_pv_9_252 (by decide) rfl (by decide) (sn_h1 (by decide)) rfl rfl rfl rfl (sp_wipe h1 (by omega) ?_)
        refine sn_q_aloadn sn_bc_83 dX9_disqualify_93 rfl ?_
        refine sn_q_iconst sn_bc_83 dX9_disqualify_94 rfl ?_
        refine sn_q_puti (P := 2) (J := 15) sn_bc_83 dX9_disqualify_95 sn_oc_83 sn_pf_9_99 (by decide) rfl rfl rfl rfl (sn_fz (by omega)) rfl ?_
        obtain ⟨ω, hω⟩ : ∃ x, x = (sn_s (fun a b => if a = 227 ∧ b = w then 0 else if 219 ≤ a ∧ a < 219 + 8 ∧ b = w then 0 else τ a b) 2 15 0) := ⟨_, rfl⟩
        rw [← hω]
        have t : ∀ a c, ¬ (219 ≤ a ∧ a ≤ 227 ∧ c = w) → ¬ (a = 2 ∧ c = 15) → ω a c = τ a c := fun a c g1 g2 => by
          rw [hω, sn_s_2 g2]; (try dsimp only); rw [if_neg (by omega), if_neg (by omega)]
        have f : ∀ a c, ¬ (a = 11 ∧ c = w) → ¬ (a = 9 ∧ c = 1) → ¬ (20 ≤ a ∧ a ≤ 60) → ¬ (219 ≤ a ∧ a ≤ 227 ∧ c = w) → ¬ (a = 2 ∧ c = 15) → ω a c = σ a c := fun a c g1 g2 g3 g4 g5 => by
          rw [t a c g4 g5, hf a c (by omega) (by omega)]
          unfold sn_s
          rw [if_neg g2, if_neg g1]
        have e11 : ω 11 w = 1 := by rw [t _ _ (by omega) (by omega), hf _ _ (by omega) (by omega), sn_s_p (by omega), sn_s_e]
        have e91 : ω 9 1 = σ 9 1 + 1 := by rw [t _ _ (by omega) (by omega), hf _ _ (by omega) (by omega), sn_s_e]
        have e90 : ω 9 0 = σ 9 0 := f 9 0 (by omega) (by omega) (by omega) (by omega) (by omega)
        have e219 : ∀ l, 0 ≤ l → l < 8 → ω (219 + l) w = 0 := fun l g1 g2 => by
          rw [hω, sn_s_p (by omega)]; (try dsimp only); rw [if_neg (by omega), if_pos ⟨by omega, by omega, rfl⟩]
        have e227 : ω 227 w = 0 := by rw [hω, sn_s_p (by omega)]; (try dsimp only); rw [if_pos ⟨rfl, rfl⟩]
        have ht' : ∀ b, 0 ≤ b → b < 40 → sk_to σ ω w b := fun b g1 g2 => sk_to_t (ht b g1 g2) (by rw [sn_s_p (by omega), sn_s_p (by omega)]) (fun _ => by rw [sn_s_p (by omega), sn_s_p (by omega)]) (t _ _ (by omega) (by omega)) (fun _ => t _ _ (by omega) (by omega))
        have hIv := sk_dis hI h1 (by omega) hn ho f e11 e91 e219 e227 ht' (by rw [hω, sn_s_e])
        refine sn_q_aloadn sn_bc_83 dX9_disqualify_98 rfl ?_
        refine sn_q_getr (v := 9) sn_bc_83 dX9_disqualify_99 sn_oc_83 sn_pf_9_42 (by decide) rfl rfl (by decide) ?_
        refine sn_q_invV sn_bc_83 dX9_disqualify_102 sn_oc_83 sn_pv_9_241 (by decide) rfl (by decide) (sn_h1 (by decide)) rfl rfl rfl rfl (sp_running (by omega) (by omega) (by omega) (by omega) ?_)
        refine sn_q_iret sn_bc_83 dX9_disqualify_105 rfl ?_
        rw [e90, e91]
        exact kk ω hIv f e11 e91 e219 e227
      · exfalso; omega
  · refine sn_q_aloadn sn_bc_83 dX9_disqualify_18 rfl ?_
    refine sn_q_geti (P := 2) (J := 10) sn_bc_83 dX9_disqualify_19 sn_oc_83 sn_pf_9_84 (by decide) rfl rfl rfl rfl ?_
    refine sn_q_iconst sn_bc_83 dX9_disqualify_22 rfl ?_
    refine sn_q_iceq (t := 36) sn_bc_83 dX9_disqualify_23 rfl (fun c_23 => ?_) (fun c_23 => ?_)
    · refine sn_q_aloadn sn_bc_83 dX9_disqualify_36 rfl ?_
      refine sn_q_getr (v := 9) sn_bc_83 dX9_disqualify_37 sn_oc_83 sn_pf_9_42 (by decide) rfl rfl (by decide) ?_
      refine sn_q_getr (v := 11) sn_bc_83 dX9_disqualify_40 sn_oc_83 sn_pf_9_238 (by decide) rfl rfl (by decide) ?_
      refine sn_q_iloadn sn_bc_83 dX9_disqualify_43 rfl ?_
      refine sn_q_bald (P := 11) sn_bc_83 dX9_disqualify_44 sn_a11 rfl (by omega) (by omega) ?_
      refine sn_q_ifne (t := 59) sn_bc_83 dX9_disqualify_45 rfl (fun c_45 => ?_) (fun c_45 => ?_)
      · exfalso; omega
      · refine sn_q_aloadn sn_bc_83 dX9_disqualify_48 rfl ?_
        refine sn_q_getr (v := 9) sn_bc_83 dX9_disqualify_49 sn_oc_83 sn_pf_9_42 (by decide) rfl rfl (by decide) ?_
        refine sn_q_invV sn_bc_83 dX9_disqualify_52 sn_oc_83 sn_pv_9_241 (by decide) rfl (by decide) (sn_h1 (by decide)) rfl rfl rfl rfl (sp_running (by omega) (by omega) (by omega) (by omega) ?_)
        refine sn_q_iconst sn_bc_83 dX9_disqualify_55 rfl ?_
        refine sn_q_icge (t := 69) sn_bc_83 dX9_disqualify_56 rfl (fun c_56 => ?_) (fun c_56 => ?_)
        · refine sn_q_aloadn sn_bc_83 dX9_disqualify_69 rfl ?_
          refine sn_q_getr (v := 9) sn_bc_83 dX9_disqualify_70 sn_oc_83 sn_pf_9_42 (by decide) rfl rfl (by decide) ?_
          refine sn_q_iloadn sn_bc_83 dX9_disqualify_73 rfl ?_
          refine sn_q_invV sn_bc_83 dX9_disqualify_74 sn_oc_83 sn_pv_9_246 (by decide) rfl (by decide) (sn_h1 (by decide)) rfl rfl rfl rfl (sp_putOut h1 (by omega) (by omega) (by omega) ?_)
          refine sn_q_aloadn sn_bc_83 dX9_disqualify_77 rfl ?_
          refine sn_q_getr (v := 18) sn_bc_83 dX9_disqualify_78 sn_oc_83 sn_pf_9_50 (by decide) rfl rfl (by decide) ?_
          refine sn_q_iloadn sn_bc_83 dX9_disqualify_81 rfl ?_
          refine sn_q_invV sn_bc_83 dX9_disqualify_82 sn_oc_83 sn_pv_9_249 (by decide) rfl (by decide) (sn_h1 (by decide)) rfl rfl rfl rfl (sp_takeOut (fun b a1 a2 => by rw [sn_s_p (by omega), sn_s_p (by omega)]; exact hI.2.2.2.1.2 b a1 a2) (fun τ hf ht => ?_))
          refine sn_q_aloadn sn_bc_83 dX9_disqualify_85 rfl ?_
          refine sn_q_getr (v := 217) sn_bc_83 dX9_disqualify_86 sn_oc_83 sn_pf_9_76 (by decide) rfl rfl (by decide) ?_
          refine sn_q_iloadn sn_bc_83 dX9_disqualify_89 rfl ?_
          refine sn_q_invV sn_bc_83 dX9_disqualify_90 sn_oc_83 sn_pv_9_252 (by decide) rfl (by decide) (sn_h1 (by decide)) rfl rfl rfl rfl (sp_wipe h1 (by omega) ?_)
          refine sn_q_aloadn sn_bc_83 dX9_disqualify_93 rfl ?_
          refine sn_q_iconst sn_bc_83 dX9_disqualify_94 rfl ?_
          refine sn_q_puti (P := 2) (J := 15) sn_bc_83 dX9_disqualify_95 sn_oc_83 sn_pf_9_99 (by decide) rfl rfl rfl rfl (sn_fz (by omega)) rfl ?_
          obtain ⟨ω, hω⟩ : ∃ x, x = (sn_s (fun a b => if a = 227 ∧ b = w then 0 else if 219 ≤ a ∧ a < 219 + 8 ∧ b = w then 0 else τ a b) 2 15 0) := ⟨_, rfl⟩
          rw [← hω]
          have t : ∀ a c, ¬ (219 ≤ a ∧ a ≤ 227 ∧ c = w) → ¬ (a = 2 ∧ c = 15) → ω a c = τ a c := fun a c g1 g2 => by
            rw [hω, sn_s_2 g2]; (try dsimp only); rw [if_neg (by omega), if_neg (by omega)]
          have f : ∀ a c, ¬ (a = 11 ∧ c = w) → ¬ (a = 9 ∧ c = 1) → ¬ (20 ≤ a ∧ a ≤ 60) → ¬ (219 ≤ a ∧ a ≤ 227 ∧ c = w) → ¬ (a = 2 ∧ c = 15) → ω a c = σ a c := fun a c g1 g2 g3 g4 g5 => by
            rw [t a c g4 g5, hf a c (by omega) (by omega)]
            unfold sn_s
            rw [if_neg g2, if_neg g1]
          have e11 : ω 11 w = 1 := by rw [t _ _ (by omega) (by omega), hf _ _ (by omega) (by omega), sn_s_p (by omega), sn_s_e]
          have e91 : ω 9 1 = σ 9 1 + 1 := by rw [t _ _ (by omega) (by omega), hf _ _ (by omega) (by omega), sn_s_e]
          have e90 : ω 9 0 = σ 9 0 := f 9 0 (by omega) (by omega) (by omega) (by omega) (by omega)
          have e219 : ∀ l, 0 ≤ l → l < 8 → ω (219 + l) w = 0 := fun l g1 g2 => by
            rw [hω, sn_s_p (by omega)]; (try dsimp only); rw [if_neg (by omega), if_pos ⟨by omega, by omega, rfl⟩]
          have e227 : ω 227 w = 0 := by rw [hω, sn_s_p (by omega)]; (try dsimp only); rw [if_pos ⟨rfl, rfl⟩]
          have ht' : ∀ b, 0 ≤ b → b < 40 → sk_to σ ω w b := fun b g1 g2 => sk_to_t (ht b g1 g2) (by rw [sn_s_p (by omega), sn_s_p (by omega)]) (fun _ => by rw [sn_s_p (by omega), sn_s_p (by omega)]) (t _ _ (by omega) (by omega)) (fun _ => t _ _ (by omega) (by omega))
          have hIv := sk_dis hI h1 (by omega) hn ho f e11 e91 e219 e227 ht' (by rw [hω, sn_s_e])
          refine sn_q_aloadn sn_bc_83 dX9_disqualify_98 rfl ?_
          refine sn_q_getr (v := 9) sn_bc_83 dX9_disqualify_99 sn_oc_83 sn_pf_9_42 (by decide) rfl rfl (by decide) ?_
          refine sn_q_invV sn_bc_83 dX9_disqualify_102 sn_oc_83 sn_pv_9_241 (by decide) rfl (by decide) (sn_h1 (by decide)) rfl rfl rfl rfl (sp_running (by omega) (by omega) (by omega) (by omega) ?_)
          refine sn_q_iret sn_bc_83 dX9_disqualify_105 rfl ?_
          rw [e90, e91]
          exact kk ω hIv f e11 e91 e219 e227
        · exfalso; omega
    · exfalso; omega
/-- the board's places alone are written: what is counted stays -/
theorem sk_brd {τ ω : Int → Int → Int} (hI : sk_Iv τ) (hC : sn_Ct τ) (h2 : τ 2 15 ≠ 0) (f : ∀ a c, a < 217 → ¬ (a = 2 ∧ c = 14) → ω a c = τ a c) (hD : sk_D ω) : sk_Iv ω ∧ sn_Ct ω ∧ ω 2 15 ≠ 0 := by
  obtain ⟨q1, q2, q3, q4, q5, q6⟩ := hI
  have e : ∀ a c, sk_S a → ω a c = τ a c := fun a c g => f a c (by unfold sk_S at g; omega) (by unfold sk_S at g; omega)
  exact ⟨⟨sk_In_t q1 e (f _ _ (by omega) (by omega)) (fun _ => h2), sk_A_t q2 (fun a c g => f a c (by omega) (by omega)), sk_St_t q3 (fun a c g => f a c (by omega) (by omega)), sk_C_t q4 (fun a c g => f a c (by omega) (by omega)), hD, sk_E_t q6 (fun a c g => f a c (by omega) (by omega))⟩, sk_Ct_t hC e q1.1.2, by rw [f 2 15 (by omega) (by omega)]; exact h2⟩
theorem sk_read {n k : Nat} {Y : Nat → Nat × Nat} {X : Nat → Nat → sn_V} {σ : Int → Int → Int} {Q : Option sn_V → sn_H → Prop} {w : Int} (hYX : sn_YX Y X) (hI : sk_Iv σ) (hph : σ 2 10 = 2) (h1 : 0 ≤ w) (h2 : w < σ 3 0) (hr0 : σ 228 w = 0) (kk : ∀ (τ ω : Int → Int → Int) (r : Int), sk_q σ τ → sk_Iv ω → sn_Ct ω → ω 2 15 ≠ 0 → (∀ a c, ¬ (a = 219 + w ∧ 0 ≤ c ∧ c < 8) → ¬ (a = 228 ∧ c = w) → ¬ (a = 217 ∧ c = 7) → a ≠ 229 → ω a c = τ a c) → (∀ s, 0 ≤ s → s < 8 → ω (219 + w) s = τ (83 + w) s) → ω 228 w = 1 → ω 217 7 = τ 217 7 + 1 → (r = -1 ∨ (0 ≤ r ∧ r < 8 ∧ τ (83 + w) r = 12)) → Q (some (sn_i r)) (sn_hh n k Y ω X)) : sn_Wp 102 0 [sn_r 2, sn_i w] [] (sn_hh n k Y σ X) Q := by
  have h38 := hI.1.1.2
  have hr9 := hI.2.2.2.2.1.2.2.2.2.2.2 w h1 (by omega)
  refine sn_q_aloadn sn_bc_102 dX9_read_0 rfl ?_
  refine sn_q_iloadn sn_bc_102 dX9_read_1 rfl ?_
  refine sn_q_invV sn_bc_102 dX9_read_2 sn_oc_102 sn_pv_9_152 (by decide) rfl (by decide) (sn_h1 (by decide)) rfl rfl rfl rfl (sp_needLand h1 h2 hI.1.1.2 ?_)
  refine sn_q_aloadn sn_bc_102 dX9_read_5 rfl ?_
  refine sn_q_iconst sn_bc_102 dX9_read_6 rfl ?_
  refine sn_q_invV sn_bc_102 dX9_read_7 sn_oc_102 sn_pv_9_114 (by decide) rfl (by decide) (sn_h1 (by decide)) rfl rfl rfl rfl (sp_needPhase hph ?_)
  refine sn_q_aloadn sn_bc_102 dX9_read_10 rfl ?_
  refine sn_q_getr (v := 217) sn_bc_102 dX9_read_11 sn_oc_102 sn_pf_9_76 (by decide) rfl rfl (by decide) ?_
  refine sn_q_iloadn sn_bc_102 dX9_read_14 rfl ?_
  refine sn_q_invV sn_bc_102 dX9_read_15 sn_oc_102 sn_pv_9_271 (by decide) rfl (by decide) (sn_h1 (by decide)) rfl rfl rfl rfl (sp_canRead h1 (by omega) (fun w1 w2 => ?_) (fun w => ?_))
  · refine sn_q_ifne (t := 32) sn_bc_102 dX9_read_18 rfl (fun _ => ?_) (fun c => absurd (by decide) c)
    refine sn_q_aloadn sn_bc_102 dX9_read_32 rfl ?_
    refine sn_q_invV sn_bc_102 dX9_read_33 sn_oc_102 sn_pv_9_255 (by decide) rfl (by decide) (sn_h1 (by decide)) rfl rfl rfl rfl (sk_count hYX hI (fun τ hq => ?_))
    have hn7 := hq.2.2.1.2.2.2.2.1.2.2.2.1
    have hn8 := sk_ind_bd τ 228
    have hn9 : 0 ≤ sk_nl τ ∧ sk_nl τ ≤ 8 := hn8
    refine sn_q_aloadn sn_bc_102 dX9_read_36 rfl ?_
    refine sn_q_getr (v := 217) sn_bc_102 dX9_read_37 sn_oc_102 sn_pf_9_76 (by decide) rfl rfl (by decide) ?_
    refine sn_q_iloadn sn_bc_102 dX9_read_40 rfl ?_
    refine sn_q_aloadn sn_bc_102 dX9_read_41 rfl ?_
    refine sn_q_getr (v := 63) sn_bc_102 dX9_read_42 sn_oc_102 sn_pf_9_54 (by decide) rfl rfl (by decide) ?_
    refine sn_q_getr (v := 82) sn_bc_102 dX9_read_45 sn_oc_102 sn_pf_9_277 (by decide) rfl rfl (by decide) ?_
    refine sn_q_iloadn sn_bc_102 dX9_read_48 rfl ?_
    refine sn_q_aald sn_bc_102 dX9_read_49 sn_a82 (by omega) (by omega) ?_
    refine sn_q_invV sn_bc_102 dX9_read_50 sn_oc_102 sn_pv_9_281 (by decide) rfl (by decide) (sn_h1 (by decide)) rfl rfl rfl rfl (sp_takeLand h1 (by omega) (fun s a1 a2 => (hq.2.2.2.1.2.1 w s h1 (by omega) a1 a2).1) (fun s a1 a2 => hq.2.2.1.2.2.2.2.1.1 w s h1 (by omega) a1 a2) (by omega) (by omega) ?_)
    obtain ⟨ω, hω⟩ : ∃ x, x = (fun a b => if a = 219 + w ∧ 0 ≤ b ∧ b < 8 then τ (83 + w) b else if a = 228 ∧ b = w then 1 else if a = 217 ∧ b = 7 then τ 217 7 + 1 else if a = 229 ∧ 0 ≤ b ∧ b < 8 then 0 else τ a b) := ⟨_, rfl⟩
    rw [← hω]
    have f : ∀ a c, ¬ (a = 219 + w ∧ 0 ≤ c ∧ c < 8) → ¬ (a = 228 ∧ c = w) → ¬ (a = 217 ∧ c = 7) → a ≠ 229 → ω a c = τ a c := fun a c g1 g2 g3 g4 => by
      rw [hω]; (try dsimp only); rw [if_neg g1, if_neg g2, if_neg g3, if_neg (by omega)]
    have e219 : ∀ s, 0 ≤ s → s < 8 → ω (219 + w) s = τ (83 + w) s := fun s g1 g2 => by rw [hω]; (try dsimp only); rw [if_pos ⟨rfl, g1, g2⟩]
    have e228 : ω 228 w = 1 := by rw [hω]; (try dsimp only); rw [if_neg (by omega), if_pos ⟨rfl, rfl⟩]
    have e217 : ω 217 7 = τ 217 7 + 1 := by rw [hω]; (try dsimp only); rw [if_neg (by omega), if_neg (by omega), if_pos ⟨rfl, rfl⟩]
    have e229 : ∀ l, 0 ≤ l → l < 8 → ω 229 l = 0 := fun l g1 g2 => by rw [hω]; (try dsimp only); rw [if_neg (by omega), if_neg (by omega), if_neg (by omega), if_pos ⟨rfl, g1, g2⟩]
    have t228 : τ 228 w = 0 := by rw [hq.1 228 w (by omega) (by omega)]; exact hr0
    have t3 : τ 3 0 = σ 3 0 := hq.1 3 0 (by omega) (by omega)
    have hD : sk_D ω := by
      obtain ⟨a1, a2, a3, a4, a5, a6, a7⟩ := hq.2.2.1.2.2.2.2.1
      refine ⟨fun l s b1 b2 b3 b4 => ?_, fun s b1 b2 => ?_, fun l s b1 b2 b3 b4 b5 => ?_, ?_, ?_, fun l b1 b2 => ?_, e229⟩
      · by_cases e : l = w
        · rw [e, e219 s b3 b4]; exact (hq.2.2.2.1.2.1 w s h1 (by omega) b3 b4).1
        · rw [f _ _ (by omega) (by omega) (by omega) (by omega)]; exact a1 l s b1 b2 b3 b4
      · rw [f _ _ (by omega) (by omega) (by omega) (by omega)]; exact a2 s b1 b2
      · by_cases e : l = w
        · rw [e, e228] at b5; exact absurd b5 (by decide)
        · rw [f 228 l (by omega) (by omega) (by omega) (by omega)] at b5
          rw [f _ _ (by omega) (by omega) (by omega) (by omega)]; exact a3 l s b1 b2 b3 b4 b5
      · have := sk_sum_upd (f := fun s => if τ 228 s = 0 then (0 : Int) else 1) (g := fun s => if ω 228 s = 0 then (0 : Int) else 1) (w := w) 8 h1 (by omega) (fun i _ _ b => by rw [f 228 i (by omega) (by omega) (by omega) (by omega)])
        rw [if_neg (show ¬ ω 228 w = 0 by omega), if_pos t228] at this
        have h2 : sk_nl ω = sk_nl τ + (1 - 0) := this
        omega
      · unfold sk_ns at a5 ⊢; rw [f 217 8 (by omega) (by omega) (by omega) (by omega), a5]; exact (sn_sum_c 8 (fun i _ => by rw [f 230 i (by omega) (by omega) (by omega) (by omega)])).symm
      · rw [f 3 0 (by omega) (by omega) (by omega) (by omega)] at b1; rw [f 228 l (by omega) (by omega) (by omega) (by omega)]; exact a6 l b1 b2
    have hb := sk_brd hq.2.2.1 hq.2.2.2.1 hq.2.2.2.2 (fun a c g1 g2 => f a c (by omega) (by omega) (by omega) (by omega)) hD
    refine sn_q_aloadn sn_bc_102 dX9_read_53 rfl ?_
    refine sn_q_getr (v := 63) sn_bc_102 dX9_read_54 sn_oc_102 sn_pf_9_54 (by decide) rfl rfl (by decide) ?_
    refine sn_q_iloadn sn_bc_102 dX9_read_57 rfl ?_
    refine sn_q_invV sn_bc_102 dX9_read_58 sn_oc_102 sn_pv_9_285 (by decide) rfl (by decide) (sn_h1 (by decide)) rfl rfl rfl rfl (sp_topOf h1 (by omega) (fun r hr => ?_))
    refine sn_q_iret sn_bc_102 dX9_read_61 rfl ?_
    exact kk τ ω r hq hb.1 hb.2.1 hb.2.2 f e219 e228 e217 (by rw [f (83 + w) r (by omega) (by omega) (by omega) (by omega)] at hr; exact hr)
  · refine sn_q_ifne (t := 32) sn_bc_102 dX9_read_18 rfl (fun c => absurd c (by decide)) (fun _ => ?_)
    exfalso; omega
theorem sk_correct {n k : Nat} {Y : Nat → Nat × Nat} {X : Nat → Nat → sn_V} {σ : Int → Int → Int} {Q : Option sn_V → sn_H → Prop} {w : Int} (hYX : sn_YX Y X) (hI : sk_Iv σ) (hph : σ 2 10 = 2) (h1 : 0 ≤ w) (h2 : w < σ 3 0) (hr0 : σ 228 w ≠ 0) (kk : ∀ (τ ω : Int → Int → Int) (r : Int), sk_q σ τ → sk_Iv ω → sn_Ct ω → ω 2 15 ≠ 0 → (∀ a c, ¬ (a = 219 + w ∧ 0 ≤ c ∧ c < 8) → ¬ (a = 2 ∧ c = 14) → ω a c = τ a c) → (∀ s, 0 ≤ s → s < 8 → ω (219 + w) s = τ (83 + w) s) → 0 ≤ r → ((∀ s, 0 ≤ s → s < 8 → τ (219 + w) s = τ (83 + w) s) → r = 0) → Q (some (sn_i r)) (sn_hh n k Y ω X)) : sn_Wp 106 0 [sn_r 2, sn_i w] [] (sn_hh n k Y σ X) Q := by
  have h38 := hI.1.1.2
  refine sn_q_aloadn sn_bc_106 dX9_correct_0 rfl ?_
  refine sn_q_iloadn sn_bc_106 dX9_correct_1 rfl ?_
  refine sn_q_invV sn_bc_106 dX9_correct_2 sn_oc_106 sn_pv_9_152 (by decide) rfl (by decide) (sn_h1 (by decide)) rfl rfl rfl rfl (sp_needLand h1 h2 hI.1.1.2 ?_)
  refine sn_q_aloadn sn_bc_106 dX9_correct_5 rfl ?_
  refine sn_q_iconst sn_bc_106 dX9_correct_6 rfl ?_
  refine sn_q_invV sn_bc_106 dX9_correct_7 sn_oc_106 sn_pv_9_114 (by decide) rfl (by decide) (sn_h1 (by decide)) rfl rfl rfl rfl (sp_needPhase hph ?_)
  refine sn_q_aloadn sn_bc_106 dX9_correct_10 rfl ?_
  refine sn_q_getr (v := 217) sn_bc_106 dX9_correct_11 sn_oc_106 sn_pf_9_76 (by decide) rfl rfl (by decide) ?_
  refine sn_q_getr (v := 228) sn_bc_106 dX9_correct_14 sn_oc_106 sn_pf_9_260 (by decide) rfl rfl (by decide) ?_
  refine sn_q_iloadn sn_bc_106 dX9_correct_17 rfl ?_
  refine sn_q_bald (P := 228) sn_bc_106 dX9_correct_18 sn_a228 rfl (by omega) (by omega) ?_
  refine sn_q_ifne (t := 33) sn_bc_106 dX9_correct_19 rfl (fun c_19 => ?_) (fun c_19 => ?_)
  · refine sn_q_aloadn sn_bc_106 dX9_correct_33 rfl ?_
    refine sn_q_invV sn_bc_106 dX9_correct_34 sn_oc_106 sn_pv_9_255 (by decide) rfl (by decide) (sn_h1 (by decide)) rfl rfl rfl rfl (sk_count hYX hI (fun τ hq => ?_))
    refine sn_q_aloadn sn_bc_106 dX9_correct_37 rfl ?_
    refine sn_q_dup sn_bc_106 dX9_correct_38 rfl ?_
    refine sn_q_geti (P := 2) (J := 14) sn_bc_106 dX9_correct_39 sn_oc_106 sn_pf_9_96 (by decide) rfl rfl rfl rfl ?_
    refine sn_q_iconst sn_bc_106 dX9_correct_42 rfl ?_
    refine sn_q_iaddW sn_bc_106 dX9_correct_43 ?_
    refine sn_q_puti (P := 2) (J := 14) sn_bc_106 dX9_correct_44 sn_oc_106 sn_pf_9_96 (by decide) rfl rfl rfl rfl rfl rfl ?_
    refine sn_q_aloadn sn_bc_106 dX9_correct_47 rfl ?_
    refine sn_q_getr (v := 217) sn_bc_106 dX9_correct_48 sn_oc_106 sn_pf_9_76 (by decide) rfl rfl (by decide) ?_
    refine sn_q_iloadn sn_bc_106 dX9_correct_51 rfl ?_
    refine sn_q_aloadn sn_bc_106 dX9_correct_52 rfl ?_
    refine sn_q_getr (v := 63) sn_bc_106 dX9_correct_53 sn_oc_106 sn_pf_9_54 (by decide) rfl rfl (by decide) ?_
    refine sn_q_getr (v := 82) sn_bc_106 dX9_correct_56 sn_oc_106 sn_pf_9_277 (by decide) rfl rfl (by decide) ?_
    refine sn_q_iloadn sn_bc_106 dX9_correct_59 rfl ?_
    refine sn_q_aald sn_bc_106 dX9_correct_60 sn_a82 (by omega) (by omega) ?_
    refine sn_q_invV sn_bc_106 dX9_correct_61 sn_oc_106 sn_pv_9_304 (by decide) rfl (by decide) (sn_h1 (by decide)) rfl rfl rfl rfl (sp_put h1 (by omega) (fun s a1 a2 => by rw [sn_s_p (by omega)]; exact (hq.2.2.2.1.2.1 w s h1 (by omega) a1 a2).1) (fun s a1 a2 => by rw [sn_s_p (by omega)]; exact hq.2.2.1.2.2.2.2.1.1 w s h1 (by omega) a1 a2) ?_)
    refine sn_q_iret sn_bc_106 dX9_correct_64 rfl ?_
    obtain ⟨ω, hω⟩ : ∃ x : Int → Int → Int, x = fun a b => if a = 219 + w ∧ 0 ≤ b ∧ b < 8 then sn_s τ 2 14 (sn_wr (τ 2 14 + 1)) (83 + w) b else sn_s τ 2 14 (sn_wr (τ 2 14 + 1)) a b := ⟨_, rfl⟩
    rw [← hω]
    have f : ∀ a c, ¬ (a = 219 + w ∧ 0 ≤ c ∧ c < 8) → ¬ (a = 2 ∧ c = 14) → ω a c = τ a c := fun a c g1 g2 => by
      rw [hω]; (try dsimp only); rw [if_neg g1]; unfold sn_s; rw [if_neg g2]
    have e219 : ∀ s, 0 ≤ s → s < 8 → ω (219 + w) s = τ (83 + w) s := fun s g1 g2 => by rw [hω]; (try dsimp only); rw [if_pos ⟨rfl, g1, g2⟩, sn_s_p (by omega)]
    have t228 : τ 228 w ≠ 0 := by rw [hq.1 228 w (by omega) (by omega)]; exact hr0
    have hD : sk_D ω := by
      obtain ⟨a1, a2, a3, a4, a5, a6, a7⟩ := hq.2.2.1.2.2.2.2.1
      refine ⟨fun l s b1 b2 b3 b4 => ?_, fun s b1 b2 => ?_, fun l s b1 b2 b3 b4 b5 => ?_, ?_, ?_, fun l b1 b2 => ?_, fun l b1 b2 => ?_⟩
      · by_cases e : l = w
        · rw [e, e219 s b3 b4]; exact (hq.2.2.2.1.2.1 w s h1 (by omega) b3 b4).1
        · rw [f _ _ (by omega) (by omega)]; exact a1 l s b1 b2 b3 b4
      · rw [f _ _ (by omega) (by omega)]; exact a2 s b1 b2
      · rw [f 228 l (by omega) (by omega)] at b5
        by_cases e : l = w
        · rw [e] at b5; exact absurd b5 t228
        · rw [f _ _ (by omega) (by omega)]; exact a3 l s b1 b2 b3 b4 b5
      · unfold sk_nl at a4 ⊢; rw [f 217 7 (by omega) (by omega), a4]; exact (sn_sum_c 8 (fun i _ => by rw [f 228 i (by omega) (by omega)])).symm
      · unfold sk_ns at a5 ⊢; rw [f 217 8 (by omega) (by omega), a5]; exact (sn_sum_c 8 (fun i _ => by rw [f 230 i (by omega) (by omega)])).symm
      · rw [f 3 0 (by omega) (by omega)] at b1; rw [f 228 l (by omega) (by omega)]; exact a6 l b1 b2
      · rw [f 229 l (by omega) (by omega)]; exact a7 l b1 b2
    have hb := sk_brd hq.2.2.1 hq.2.2.2.1 hq.2.2.2.2 (fun a c g1 g2 => f a c (by omega) g2) hD
    refine kk τ ω _ hq hb.1 hb.2.1 hb.2.2 f e219 ?_ (fun z => ?_)
    · exact (sn_sum_b (B := 12) 8 (fun s g => by
        have k1 := (hq.2.2.2.1.2.1 w s h1 (by omega) (by omega) (by omega)).1
        have k2 := hq.2.2.1.2.2.2.2.1.1 w s h1 (by omega) (by omega) (by omega)
        rw [sn_s_p (show (83 + w : Int) ≠ 2 by omega), sn_s_p (show (219 + w : Int) ≠ 2 by omega)]
        split <;> omega)).1
    · refine (sn_sum_c (g := fun _ => 0) 8 (fun s g => ?_)).trans rfl
      rw [sn_s_p (show (83 + w : Int) ≠ 2 by omega), sn_s_p (show (219 + w : Int) ≠ 2 by omega), z s (by omega) (by omega)]
      split <;> omega
  · exfalso; omega
theorem sk_readCalls {n k : Nat} {Y : Nat → Nat × Nat} {X : Nat → Nat → sn_V} {σ : Int → Int → Int} {Q : Option sn_V → sn_H → Prop} (hYX : sn_YX Y X) (hI : sk_Iv σ) (hph : σ 2 10 = 2) (h1 : σ 3 0 ≤ σ 217 7) (hex : ∃ s, 0 ≤ s ∧ s < 8 ∧ sn_run σ s ∧ σ 230 s = 0) (kk : ∀ (τ ω : Int → Int → Int) (r : Int), sk_q σ τ → sk_Iv ω → sn_Ct ω → ω 2 15 ≠ 0 → 0 ≤ r → r < 8 → sn_run σ r → σ 230 r = 0 → (∀ a c, ¬ (a = 227 ∧ c = r) → ¬ (a = 230 ∧ c = r) → ¬ (a = 217 ∧ c = 8) → ω a c = τ a c) → ω 227 r = τ 214 r → ω 230 r = 1 → ω 217 8 = τ 217 8 + 1 → Q (some (sn_i (1000 * r + τ 214 r))) (sn_hh n k Y ω X)) : sn_Wp 107 0 [sn_r 2, sn_u, sn_u] [] (sn_hh n k Y σ X) Q := by
  refine sn_q_aloadn sn_bc_107 dX9_readCalls_0 rfl ?_
  refine sn_q_iconst sn_bc_107 dX9_readCalls_1 rfl ?_
  refine sn_q_invV sn_bc_107 dX9_readCalls_2 sn_oc_107 sn_pv_9_114 (by decide) rfl (by decide) (sn_h1 (by decide)) rfl rfl rfl rfl (sp_needPhase hph ?_)
  refine sn_q_aloadn sn_bc_107 dX9_readCalls_5 rfl ?_
  refine sn_q_getr (v := 217) sn_bc_107 dX9_readCalls_6 sn_oc_107 sn_pf_9_76 (by decide) rfl rfl (by decide) ?_
  refine sn_q_invV sn_bc_107 dX9_readCalls_9 sn_oc_107 sn_pv_9_288 (by decide) rfl (by decide) (sn_h1 (by decide)) rfl rfl rfl rfl (sp_nextSong hI.2.2.2.2.1.1 (fun r hr => ?_))
  have hr2 : 0 ≤ r ∧ r < 8 ∧ sn_run σ r ∧ σ 230 r = 0 := by
    rcases hr with ⟨_, z⟩ | z
    · obtain ⟨s, b1, b2, b3, b4⟩ := hex
      exact absurd b4 (z s b1 b2 b3)
    · exact z
  refine sn_q_istn1 sn_bc_107 dX9_readCalls_12 rfl ?_
  refine sn_q_aloadn sn_bc_107 dX9_readCalls_13 rfl ?_
  refine sn_q_getr (v := 217) sn_bc_107 dX9_readCalls_14 sn_oc_107 sn_pf_9_76 (by decide) rfl rfl (by decide) ?_
  refine sn_q_geti (P := 217) (J := 7) sn_bc_107 dX9_readCalls_17 sn_oc_107 sn_pf_9_291 (by decide) rfl rfl rfl rfl ?_
  refine sn_q_aloadn sn_bc_107 dX9_readCalls_20 rfl ?_
  refine sn_q_getr (v := 3) sn_bc_107 dX9_readCalls_21 sn_oc_107 sn_pf_9_38 (by decide) rfl rfl (by decide) ?_
  refine sn_q_geti (P := 3) (J := 0) sn_bc_107 dX9_readCalls_24 sn_oc_107 sn_pf_9_118 (by decide) rfl rfl rfl rfl ?_
  refine sn_q_iclt (t := 35) sn_bc_107 dX9_readCalls_27 rfl (fun c_27 => ?_) (fun c_27 => ?_)
  · exfalso; omega
  · refine sn_q_iloadn sn_bc_107 dX9_readCalls_30 rfl ?_
    refine sn_q_iconst sn_bc_107 dX9_readCalls_31 rfl ?_
    refine sn_q_icne (t := 46) sn_bc_107 dX9_readCalls_32 rfl (fun c_32 => ?_) (fun c_32 => ?_)
    · refine sn_q_aloadn sn_bc_107 dX9_readCalls_46 rfl ?_
      refine sn_q_invV sn_bc_107 dX9_readCalls_47 sn_oc_107 sn_pv_9_255 (by decide) rfl (by decide) (sn_h1 (by decide)) rfl rfl rfl rfl (sk_count hYX hI (fun τ hq => ?_))
      have ht := sk_tot_bd hq.2.2.2.1 r hr2.1 hr2.2.1
      have hn7 := hq.2.2.1.2.2.2.2.1.2.2.2.2.1
      have hn8 := sk_ind_bd τ 230
      have hn9 : 0 ≤ sk_ns τ ∧ sk_ns τ ≤ 8 := hn8
      refine sn_q_aloadn sn_bc_107 dX9_readCalls_50 rfl ?_
      refine sn_q_getr (v := 212) sn_bc_107 dX9_readCalls_51 sn_oc_107 sn_pf_9_67 (by decide) rfl rfl (by decide) ?_
      refine sn_q_getr (v := 214) sn_bc_107 dX9_readCalls_54 sn_oc_107 sn_pf_9_296 (by decide) rfl rfl (by decide) ?_
      refine sn_q_iloadn sn_bc_107 dX9_readCalls_57 rfl ?_
      refine sn_q_iald (P := 214) sn_bc_107 dX9_readCalls_58 sn_a214 rfl (by omega) (by omega) ?_
      refine sn_q_istn2 sn_bc_107 dX9_readCalls_59 rfl ?_
      refine sn_q_aloadn sn_bc_107 dX9_readCalls_60 rfl ?_
      refine sn_q_getr (v := 217) sn_bc_107 dX9_readCalls_61 sn_oc_107 sn_pf_9_76 (by decide) rfl rfl (by decide) ?_
      refine sn_q_iloadn sn_bc_107 dX9_readCalls_64 rfl ?_
      refine sn_q_iloadn sn_bc_107 dX9_readCalls_65 rfl ?_
      refine sn_q_invV sn_bc_107 dX9_readCalls_66 sn_oc_107 sn_pv_9_299 (by decide) rfl (by decide) (sn_h1 (by decide)) rfl rfl rfl rfl (sp_takeCalls (by omega) (by omega) (by omega) (by omega) ?_)
      refine sn_q_sipush sn_bc_107 dX9_readCalls_69 rfl ?_
      refine sn_q_iloadn sn_bc_107 dX9_readCalls_72 rfl ?_
      refine sn_q_imul sn_bc_107 dX9_readCalls_73 (by omega) (by omega) ?_
      refine sn_q_iloadn sn_bc_107 dX9_readCalls_74 rfl ?_
      refine sn_q_iadd sn_bc_107 dX9_readCalls_75 (by omega) (by omega) ?_
      refine sn_q_iret sn_bc_107 dX9_readCalls_76 rfl ?_
      obtain ⟨ω, hω⟩ : ∃ x, x = sn_s (sn_s (sn_s τ 227 r (τ 214 r)) 230 r 1) 217 8 (τ 217 8 + 1) := ⟨_, rfl⟩
      rw [← hω]
      have f : ∀ a c, ¬ (a = 227 ∧ c = r) → ¬ (a = 230 ∧ c = r) → ¬ (a = 217 ∧ c = 8) → ω a c = τ a c := fun a c g1 g2 g3 => by
        rw [hω]; unfold sn_s; rw [if_neg g3, if_neg g2, if_neg g1]
      have e227 : ω 227 r = τ 214 r := by rw [hω, sn_s_p (by omega), sn_s_p (by omega), sn_s_e]
      have e230 : ω 230 r = 1 := by rw [hω, sn_s_p (by omega), sn_s_e]
      have e217 : ω 217 8 = τ 217 8 + 1 := by rw [hω, sn_s_e]
      have t230 : τ 230 r = 0 := by rw [hq.1 230 r (by omega) (by omega)]; exact hr2.2.2.2
      have hD : sk_D ω := by
        obtain ⟨a1, a2, a3, a4, a5, a6, a7⟩ := hq.2.2.1.2.2.2.2.1
        refine ⟨fun l s b1 b2 b3 b4 => ?_, fun s b1 b2 => ?_, fun l s b1 b2 b3 b4 b5 => ?_, ?_, ?_, fun l b1 b2 => ?_, fun l b1 b2 => ?_⟩
        · rw [f _ _ (by omega) (by omega) (by omega)]; exact a1 l s b1 b2 b3 b4
        · by_cases e : s = r
          · rw [e, e227]; omega
          · rw [f _ _ (by omega) (by omega) (by omega)]; exact a2 s b1 b2
        · rw [f 228 l (by omega) (by omega) (by omega)] at b5
          rw [f _ _ (by omega) (by omega) (by omega)]; exact a3 l s b1 b2 b3 b4 b5
        · unfold sk_nl at a4 ⊢; rw [f 217 7 (by omega) (by omega) (by omega), a4]; exact (sn_sum_c 8 (fun i _ => by rw [f 228 i (by omega) (by omega) (by omega)])).symm
        · have := sk_sum_upd (f := fun s => if τ 230 s = 0 then (0 : Int) else 1) (g := fun s => if ω 230 s = 0 then (0 : Int) else 1) (w := r) 8 hr2.1 (by omega) (fun i _ _ b => by rw [f 230 i (by omega) (by omega) (by omega)])
          rw [if_neg (show ¬ ω 230 r = 0 by omega), if_pos t230] at this
          have h2 : sk_ns ω = sk_ns τ + (1 - 0) := this
          omega
        · rw [f 3 0 (by omega) (by omega) (by omega)] at b1; rw [f 228 l (by omega) (by omega) (by omega)]; exact a6 l b1 b2
        · rw [f 229 l (by omega) (by omega) (by omega)]; exact a7 l b1 b2
      have hb := sk_brd hq.2.2.1 hq.2.2.2.1 hq.2.2.2.2 (fun a c g1 g2 => f a c (by omega) (by omega) (by omega)) hD
      exact kk τ ω r hq hb.1 hb.2.1 hb.2.2 hr2.1 hr2.2.1 hr2.2.2.1 hr2.2.2.2 f e227 e230 e217
    · exfalso; omega
