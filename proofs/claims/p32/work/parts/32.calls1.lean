/-! questions and calls of the contest, first lot -/
theorem sk_gives_j {n k : Nat} {Y : Nat → Nat × Nat} {X : Nat → Nat → sn_V} {σ : Int → Int → Int} {Q : Option sn_V → sn_H → Prop} {l s : Int} (hYX : sn_YX Y X) (hI : sk_Iv σ) (h1 : 0 ≤ l) (h2 : l < σ 3 0) (h3 : 0 ≤ s) (h4 : s < 8) (h5 : σ 10 s ≠ 0) (kk : ∀ τ, sk_q σ τ → Q (some (sn_i (τ (83 + l) s))) (sn_hh n k Y τ X)) : sn_Wp 89 0 [sn_r 2, sn_i l, sn_i s, sn_i 1] [] (sn_hh n k Y σ X) Q := by
  have h38 := hI.1.1.2
  refine sn_q_aloadn sn_bc_89 dX9_gives_0 rfl ?_
  refine sn_q_iloadn sn_bc_89 dX9_gives_1 rfl ?_
  refine sn_q_invV sn_bc_89 dX9_gives_2 sn_oc_89 sn_pv_9_152 (by decide) rfl (by decide) (sn_h1 (by decide)) rfl rfl rfl rfl (sp_needLand h1 h2 hI.1.1.2 ?_)
  refine sn_q_aloadn sn_bc_89 dX9_gives_5 rfl ?_
  refine sn_q_iloadn sn_bc_89 dX9_gives_6 rfl ?_
  refine sn_q_invV sn_bc_89 dX9_gives_7 sn_oc_89 sn_pv_9_222 (by decide) rfl (by decide) (sn_h1 (by decide)) rfl rfl rfl rfl (sp_needSong h3 h4 h5 ?_)
  refine sn_q_aloadn sn_bc_89 dX9_gives_10 rfl ?_
  refine sn_q_invV sn_bc_89 dX9_gives_11 sn_oc_89 sn_pv_9_255 (by decide) rfl (by decide) (sn_h1 (by decide)) rfl rfl rfl rfl (sk_count hYX hI (fun τ hq => ?_))
  refine sn_q_iloadn sn_bc_89 dX9_gives_14 rfl ?_
  refine sn_q_ifeq (t := 32) sn_bc_89 dX9_gives_15 rfl (fun c => absurd c (by decide)) (fun _ => ?_)
  refine sn_q_aloadn sn_bc_89 dX9_gives_18 rfl ?_
  refine sn_q_getr (v := 63) sn_bc_89 dX9_gives_19 sn_oc_89 sn_pf_9_54 (by decide) rfl rfl (by decide) ?_
  refine sn_q_getr (v := 82) sn_bc_89 dX9_gives_22 sn_oc_89 sn_pf_9_277 (by decide) rfl rfl (by decide) ?_
  refine sn_q_iloadn sn_bc_89 dX9_gives_25 rfl ?_
  refine sn_q_aald sn_bc_89 dX9_gives_26 sn_a82 (by omega) (by omega) ?_
  refine sn_q_iloadn sn_bc_89 dX9_gives_27 rfl ?_
  refine sn_q_iald sn_bc_89 dX9_gives_28 (sn_b82 (by omega) (by omega)) (sn_p82 (by omega)) (by omega) (by omega) ?_
  refine sn_q_goto (t := 43) sn_bc_89 dX9_gives_29 rfl ?_
  refine sn_q_iret sn_bc_89 dX9_gives_43 rfl ?_
  exact kk τ hq
theorem sk_gives_p {n k : Nat} {Y : Nat → Nat × Nat} {X : Nat → Nat → sn_V} {σ : Int → Int → Int} {Q : Option sn_V → sn_H → Prop} {l s : Int} (hYX : sn_YX Y X) (hI : sk_Iv σ) (h1 : 0 ≤ l) (h2 : l < σ 3 0) (h3 : 0 ≤ s) (h4 : s < 8) (h5 : σ 10 s ≠ 0) (kk : ∀ τ, sk_q σ τ → Q (some (sn_i (τ (198 + l) s))) (sn_hh n k Y τ X)) : sn_Wp 89 0 [sn_r 2, sn_i l, sn_i s, sn_i 0] [] (sn_hh n k Y σ X) Q := by
  have h38 := hI.1.1.2
  refine sn_q_aloadn sn_bc_89 dX9_gives_0 rfl ?_
  refine sn_q_iloadn sn_bc_89 dX9_gives_1 rfl ?_
  refine sn_q_invV sn_bc_89 dX9_gives_2 sn_oc_89 sn_pv_9_152 (by decide) rfl (by decide) (sn_h1 (by decide)) rfl rfl rfl rfl (sp_needLand h1 h2 hI.1.1.2 ?_)
  refine sn_q_aloadn sn_bc_89 dX9_gives_5 rfl ?_
  refine sn_q_iloadn sn_bc_89 dX9_gives_6 rfl ?_
  refine sn_q_invV sn_bc_89 dX9_gives_7 sn_oc_89 sn_pv_9_222 (by decide) rfl (by decide) (sn_h1 (by decide)) rfl rfl rfl rfl (sp_needSong h3 h4 h5 ?_)
  refine sn_q_aloadn sn_bc_89 dX9_gives_10 rfl ?_
  refine sn_q_invV sn_bc_89 dX9_gives_11 sn_oc_89 sn_pv_9_255 (by decide) rfl (by decide) (sn_h1 (by decide)) rfl rfl rfl rfl (sk_count hYX hI (fun τ hq => ?_))
  refine sn_q_iloadn sn_bc_89 dX9_gives_14 rfl ?_
  refine sn_q_ifeq (t := 32) sn_bc_89 dX9_gives_15 rfl (fun _ => ?_) (fun c => absurd (by decide) c)
  refine sn_q_aloadn sn_bc_89 dX9_gives_32 rfl ?_
  refine sn_q_getr (v := 96) sn_bc_89 dX9_gives_33 sn_oc_89 sn_pf_9_58 (by decide) rfl rfl (by decide) ?_
  refine sn_q_getr (v := 197) sn_bc_89 dX9_gives_36 sn_oc_89 sn_pf_9_341 (by decide) rfl rfl (by decide) ?_
  refine sn_q_iloadn sn_bc_89 dX9_gives_39 rfl ?_
  refine sn_q_aald sn_bc_89 dX9_gives_40 sn_a197 (by omega) (by omega) ?_
  refine sn_q_iloadn sn_bc_89 dX9_gives_41 rfl ?_
  refine sn_q_iald sn_bc_89 dX9_gives_42 (sn_b197 (by omega) (by omega)) (sn_p197 (by omega)) (by omega) (by omega) ?_
  refine sn_q_iret sn_bc_89 dX9_gives_43 rfl ?_
  exact kk τ hq
theorem sk_at {n k : Nat} {Y : Nat → Nat × Nat} {X : Nat → Nat → sn_V} {σ : Int → Int → Int} {Q : Option sn_V → sn_H → Prop} {x : Int} (hI : sk_Iv σ) (h1 : 0 ≤ x) (h2 : x < σ 15 3) (kk : Q (some (sn_i (σ 16 x))) (sn_hh n k Y σ X)) : sn_Wp 69 0 [sn_r 2, sn_i x] [] (sn_hh n k Y σ X) Q := by
  have h15 := hI.1.2.2.2.1
  refine sn_q_iloadn sn_bc_69 dX9_at_0 rfl ?_
  refine sn_q_iconst sn_bc_69 dX9_at_1 rfl ?_
  refine sn_q_aloadn sn_bc_69 dX9_at_2 rfl ?_
  refine sn_q_getr (v := 15) sn_bc_69 dX9_at_3 sn_oc_69 sn_pf_9_46 (by decide) rfl rfl (by decide) ?_
  refine sn_q_geti (P := 15) (J := 3) sn_bc_69 dX9_at_6 sn_oc_69 sn_pf_9_342 (by decide) rfl rfl rfl rfl ?_
  refine sn_q_iconst sn_bc_69 dX9_at_9 rfl ?_
  refine sn_q_isub sn_bc_69 dX9_at_10 (by omega) (by omega) ?_
  refine sn_q_invS sn_bc_69 dX9_at_11 sn_oc_69 sn_px_9_103 sn_ps_9_103 (by decide) rfl rfl rfl (sp_isWithin (fun w1 w2 => ?_) (fun w => ?_))
  · refine sn_q_ifne (t := 27) sn_bc_69 dX9_at_14 rfl (fun _ => ?_) (fun c => absurd (by decide) c)
    refine sn_q_aloadn sn_bc_69 dX9_at_27 rfl ?_
    refine sn_q_getr (v := 15) sn_bc_69 dX9_at_28 sn_oc_69 sn_pf_9_46 (by decide) rfl rfl (by decide) ?_
    refine sn_q_getr (v := 16) sn_bc_69 dX9_at_31 sn_oc_69 sn_pf_9_343 (by decide) rfl rfl (by decide) ?_
    refine sn_q_iloadn sn_bc_69 dX9_at_34 rfl ?_
    refine sn_q_iald (P := 16) sn_bc_69 dX9_at_35 sn_a16 rfl (by omega) (by omega) ?_
    refine sn_q_iret sn_bc_69 dX9_at_36 rfl ?_
    exact kk
  · refine sn_q_ifne (t := 27) sn_bc_69 dX9_at_14 rfl (fun c => absurd c (by decide)) (fun _ => ?_)
    exfalso; omega
theorem sk_ranked {n k : Nat} {Y : Nat → Nat × Nat} {X : Nat → Nat → sn_V} {σ : Int → Int → Int} {Q : Option sn_V → sn_H → Prop} {x : Int} (hYX : sn_YX Y X) (hI : sk_Iv σ) (h1 : 0 ≤ x) (h2 : x < σ 9 0 - σ 9 1) (kk : ∀ τ, sk_q σ τ → x < τ 212 8 → Q (some (sn_i (τ 215 x))) (sn_hh n k Y τ X)) : sn_Wp 92 0 [sn_r 2, sn_i x] [] (sn_hh n k Y σ X) Q := by
  have hA := sk_A_bd hI.2.1
  refine sn_q_iloadn sn_bc_92 dX9_ranked_0 rfl ?_
  refine sn_q_iconst sn_bc_92 dX9_ranked_1 rfl ?_
  refine sn_q_aloadn sn_bc_92 dX9_ranked_2 rfl ?_
  refine sn_q_getr (v := 9) sn_bc_92 dX9_ranked_3 sn_oc_92 sn_pf_9_42 (by decide) rfl rfl (by decide) ?_
  refine sn_q_invV sn_bc_92 dX9_ranked_6 sn_oc_92 sn_pv_9_241 (by decide) rfl (by decide) (sn_h1 (by decide)) rfl rfl rfl rfl (sp_running (by omega) (by omega) (by omega) (by omega) ?_)
  refine sn_q_iconst sn_bc_92 dX9_ranked_9 rfl ?_
  refine sn_q_isub sn_bc_92 dX9_ranked_10 (by omega) (by omega) ?_
  refine sn_q_invS sn_bc_92 dX9_ranked_11 sn_oc_92 sn_px_9_103 sn_ps_9_103 (by decide) rfl rfl rfl (sp_isWithin (fun w1 w2 => ?_) (fun w => ?_))
  · refine sn_q_ifne (t := 28) sn_bc_92 dX9_ranked_14 rfl (fun _ => ?_) (fun c => absurd (by decide) c)
    refine sn_q_aloadn sn_bc_92 dX9_ranked_28 rfl ?_
    refine sn_q_invV sn_bc_92 dX9_ranked_29 sn_oc_92 sn_pv_9_255 (by decide) rfl (by decide) (sn_h1 (by decide)) rfl rfl rfl rfl (sk_count hYX hI (fun τ hq => ?_))
    have hr := hq.2.2.2.1.2.2.1
    have hr2 := hq.2.2.1.2.1.2.2.1
    have e90 := hq.1 9 0 (by omega) (by omega)
    have e91 := hq.1 9 1 (by omega) (by omega)
    have hA2 := sk_A_bd hI.2.1
    refine sn_q_aloadn sn_bc_92 dX9_ranked_32 rfl ?_
    refine sn_q_getr (v := 212) sn_bc_92 dX9_ranked_33 sn_oc_92 sn_pf_9_67 (by decide) rfl rfl (by decide) ?_
    refine sn_q_iloadn sn_bc_92 dX9_ranked_36 rfl ?_
    refine sn_q_invV sn_bc_92 dX9_ranked_37 sn_oc_92 sn_pv_9_310 (by decide) rfl (by decide) (sn_h1 (by decide)) rfl rfl rfl rfl (sp_songAt (by omega) (by omega) (fun w1 w2 => ?_) (fun w => ?_))
    · refine sn_q_iret sn_bc_92 dX9_ranked_40 rfl ?_
      first
        | exact kk τ hq (by omega)
        | (exfalso; omega)
    · refine sn_q_iret sn_bc_92 dX9_ranked_40 rfl ?_
      first
        | exact kk τ hq (by omega)
        | (exfalso; omega)
  · refine sn_q_ifne (t := 28) sn_bc_92 dX9_ranked_14 rfl (fun c => absurd c (by decide)) (fun _ => ?_)
    exfalso; omega
theorem sk_isOpen {n k : Nat} {Y : Nat → Nat × Nat} {X : Nat → Nat → sn_V} {σ : Int → Int → Int} {Q : Option sn_V → sn_H → Prop} (h : σ 2 10 ≠ 2 ∨ σ 3 0 ≤ σ 217 7) (kk : Q (some (sn_i 0)) (sn_hh n k Y σ X)) : sn_Wp 110 0 [sn_r 2] [] (sn_hh n k Y σ X) Q := by
  refine sn_q_aloadn sn_bc_110 dX9_isOpen_0 rfl ?_
  refine sn_q_invV sn_bc_110 dX9_isOpen_1 sn_oc_110 sn_pv_9_356 (by decide) rfl (by decide) (sn_h1 (by decide)) rfl rfl rfl rfl (sp_canStillChange (by omega) ?_)
  refine sn_q_zret sn_bc_110 dX9_isOpen_4 rfl (by omega) ?_
  exact kk
theorem sk_nextRead {n k : Nat} {Y : Nat → Nat × Nat} {X : Nat → Nat → sn_V} {σ : Int → Int → Int} {Q : Option sn_V → sn_H → Prop} (hYX : sn_YX Y X) (hI : sk_Iv σ) (kk : ∀ (τ : Int → Int → Int) (r : Int), sk_q σ τ → ((r = -1 ∧ (τ 2 10 ≠ 2 ∨ ∀ l, 0 ≤ l → l < τ 3 0 → ¬ (τ 228 l = 0 ∧ τ 229 l = 0))) ∨ (0 ≤ r ∧ r < τ 3 0 ∧ τ 228 r = 0 ∧ τ 229 r = 0)) → Q (some (sn_i r)) (sn_hh n k Y τ X)) : sn_Wp 98 0 [sn_r 2] [] (sn_hh n k Y σ X) Q := by
  refine sn_q_aloadn sn_bc_98 dX9_nextRead_0 rfl ?_
  refine sn_q_invV sn_bc_98 dX9_nextRead_1 sn_oc_98 sn_pv_9_255 (by decide) rfl (by decide) (sn_h1 (by decide)) rfl rfl rfl rfl (sk_count hYX hI (fun τ hq => ?_))
  refine sn_q_aloadn sn_bc_98 dX9_nextRead_4 rfl ?_
  refine sn_q_invV sn_bc_98 dX9_nextRead_5 sn_oc_98 sn_pv_9_359 (by decide) rfl (by decide) (sn_h1 (by decide)) rfl rfl rfl rfl (sp_closestLand hq.2.2.1.1.1.1 hq.2.2.1.1.1.2 hq.2.2.1.2.2.2.2.1.1 hq.2.2.1.2.2.2.2.1.2.1 hq.2.2.2.1.2.1 (fun r hr => ?_))
  refine sn_q_iret sn_bc_98 dX9_nextRead_8 rfl ?_
  exact kk τ r hq hr
theorem sk_without {n k : Nat} {Y : Nat → Nat × Nat} {X : Nat → Nat → sn_V} {σ : Int → Int → Int} {Q : Option sn_V → sn_H → Prop} {l : Int} (hYX : sn_YX Y X) (hI : sk_Iv σ) (h1 : 0 ≤ l) (h2 : l < σ 3 0) (kk : ∀ (τ : Int → Int → Int) (r : Int), sk_q σ τ → ((∀ s, 0 ≤ s → s < 8 → ¬ sn_run τ s) → r = -1) → Q (some (sn_i r)) (sn_hh n k Y τ X)) : sn_Wp 128 0 [sn_r 2, sn_i l] [] (sn_hh n k Y σ X) Q := by
  refine sn_q_aloadn sn_bc_128 dX9_without_0 rfl ?_
  refine sn_q_iloadn sn_bc_128 dX9_without_1 rfl ?_
  refine sn_q_invV sn_bc_128 dX9_without_2 sn_oc_128 sn_pv_9_152 (by decide) rfl (by decide) (sn_h1 (by decide)) rfl rfl rfl rfl (sp_needLand h1 h2 hI.1.1.2 ?_)
  refine sn_q_aloadn sn_bc_128 dX9_without_5 rfl ?_
  refine sn_q_invV sn_bc_128 dX9_without_6 sn_oc_128 sn_pv_9_255 (by decide) rfl (by decide) (sn_h1 (by decide)) rfl rfl rfl rfl (sk_count hYX hI (fun τ hq => ?_))
  refine sn_q_aloadn sn_bc_128 dX9_without_9 rfl ?_
  refine sn_q_getr (v := 212) sn_bc_128 dX9_without_10 sn_oc_128 sn_pf_9_67 (by decide) rfl rfl (by decide) ?_
  refine sn_q_iloadn sn_bc_128 dX9_without_13 rfl ?_
  refine sn_q_invV sn_bc_128 dX9_without_14 sn_oc_128 sn_pv_9_362 (by decide) rfl (by decide) (sn_h1 (by decide)) rfl rfl rfl rfl (sp_leaderWithout hq.2.2.2.1.2.1 hq.2.2.1.1.2.2.2.1.1 hq.2.2.1.1.2.2.2.1.2 (fun r hr1 hr2 hr3 => ?_))
  refine sn_q_iret sn_bc_128 dX9_without_17 rfl ?_
  exact kk τ r hq hr3
theorem sk_bestMove {n k : Nat} {Y : Nat → Nat × Nat} {X : Nat → Nat → sn_V} {σ : Int → Int → Int} {Q : Option sn_V → sn_H → Prop} (hI : sk_Iv σ) (hph : σ 2 10 = 0 ∨ σ 2 10 = 1) (kk : ∀ (b l : Int) (τ : Int → Int → Int), sk_Iv τ → (∀ a c, a ≠ 17 → τ a c = σ a c) → sk_bs σ b l → ((∀ s, 0 ≤ s → s < 8 → σ 10 s = 0) → b = -1 ∧ τ = σ) → Q (some (sn_i b)) (sn_hh n k Y τ X)) : sn_Wp 60 0 [sn_r 2] [] (sn_hh n k Y σ X) Q := by
  refine sn_q_aloadn sn_bc_60 dX9_bestMove_0 rfl ?_
  refine sn_q_invV sn_bc_60 dX9_bestMove_1 sn_oc_60 sn_pv_9_181 (by decide) rfl (by decide) (sn_h1 (by decide)) rfl rfl rfl rfl (sp_canMove (fun w1 => ?_) (fun w => ?_))
  · refine sn_q_ifeq (t := 17) sn_bc_60 dX9_bestMove_4 rfl (fun c => absurd c (by decide)) (fun _ => ?_)
    refine sn_q_aloadn sn_bc_60 dX9_bestMove_7 rfl ?_
    refine sn_q_getr (v := 15) sn_bc_60 dX9_bestMove_8 sn_oc_60 sn_pf_9_46 (by decide) rfl rfl (by decide) ?_
    refine sn_q_invV sn_bc_60 dX9_bestMove_11 sn_oc_60 sn_pv_9_368 (by decide) rfl (by decide) (sn_h1 (by decide)) rfl rfl rfl rfl (sp_bestShift hI.1.2.2.2.1.1 hI.1.2.2.2.1.2 (fun i a1 a2 => ⟨(hI.2.2.1.2.2.1 i a1 a2).1, (hI.2.2.1.2.2.1 i a1 a2).2.1⟩) hI.2.2.1.2.2.2.2.2 hI.2.2.1.2.2.2.1 hI.2.2.1.2.2.2.2.1 (fun b l τ hg hb hn => ?_))
    refine sn_q_goto (t := 18) sn_bc_60 dX9_bestMove_14 rfl ?_
    refine sn_q_iret sn_bc_60 dX9_bestMove_18 rfl ?_
    first
      | exact kk b l τ ⟨sk_In_t hI.1 (fun a c g => hg a c (by unfold sk_S at g; omega)) (hg _ _ (by omega)) (fun z => by rw [← hg 2 15 (by omega)]; exact z), sk_A_t hI.2.1 (fun a c g => hg a c (by omega)), sk_St_t hI.2.2.1 (fun a c g => hg a c (by omega)), sk_C_t hI.2.2.2.1 (fun a c g => hg a c (by omega)), sk_D_t hI.2.2.2.2.1 (fun a c g => hg a c (by omega)), sk_E_t hI.2.2.2.2.2 (fun a c g => hg a c (by omega))⟩ hg hb hn
      | (exfalso; omega)
  · refine sn_q_ifeq (t := 17) sn_bc_60 dX9_bestMove_4 rfl (fun _ => ?_) (fun c => absurd (by decide) c)
    refine sn_q_iconst sn_bc_60 dX9_bestMove_17 rfl ?_
    refine sn_q_iret sn_bc_60 dX9_bestMove_18 rfl ?_
    first
      | exact kk b l τ ⟨sk_In_t hI.1 (fun a c g => hg a c (by unfold sk_S at g; omega)) (hg _ _ (by omega)) (fun z => by rw [← hg 2 15 (by omega)]; exact z), sk_A_t hI.2.1 (fun a c g => hg a c (by omega)), sk_St_t hI.2.2.1 (fun a c g => hg a c (by omega)), sk_C_t hI.2.2.2.1 (fun a c g => hg a c (by omega)), sk_D_t hI.2.2.2.2.1 (fun a c g => hg a c (by omega)), sk_E_t hI.2.2.2.2.2 (fun a c g => hg a c (by omega))⟩ hg hb hn
      | (exfalso; omega)
theorem sk_land {n k : Nat} {Y : Nat → Nat × Nat} {X : Nat → Nat → sn_V} {σ : Int → Int → Int} {Q : Option sn_V → sn_H → Prop} {x y : Int} (hI : sk_Iv σ) (hph : σ 2 10 = 0) (h1 : 0 ≤ x) (h2 : x ≤ 3) (h3 : 0 ≤ y) (h4 : y ≤ 999) (h5 : σ 3 0 < 8) (kk : ∀ τ, sk_Iv τ → (∀ a c, a ≠ 4 → a ≠ 5 → a ≠ 6 → ¬ (a = 3 ∧ c = 0) → ¬ (a = 2 ∧ c = 15) → τ a c = σ a c) → τ 3 0 = σ 3 0 + 1 → τ 5 (σ 3 0) = y → (∀ c, c ≠ σ 3 0 → τ 5 c = σ 5 c) → Q (some (sn_i (σ 3 0))) (sn_hh n k Y τ X)) : sn_Wp 12 0 [sn_r 2, sn_i x, sn_i y] [] (sn_hh n k Y σ X) Q := by
  have h30 := hI.1.1.1
  refine sn_q_iloadn sn_bc_12 dX9_land_0 rfl ?_
  refine sn_q_iconst sn_bc_12 dX9_land_1 rfl ?_
  refine sn_q_iconst sn_bc_12 dX9_land_2 rfl ?_
  refine sn_q_invS sn_bc_12 dX9_land_3 sn_oc_12 sn_px_9_103 sn_ps_9_103 (by decide) rfl rfl rfl (sp_isWithin (fun w1 w2 => ?_) (fun w => ?_))
  · refine sn_q_ifeq (t := 20) sn_bc_12 dX9_land_6 rfl (fun c => absurd c (by decide)) (fun _ => ?_)
    refine sn_q_iloadn sn_bc_12 dX9_land_9 rfl ?_
    refine sn_q_iconst sn_bc_12 dX9_land_10 rfl ?_
    refine sn_q_sipush sn_bc_12 dX9_land_11 rfl ?_
    refine sn_q_invS sn_bc_12 dX9_land_14 sn_oc_12 sn_px_9_103 sn_ps_9_103 (by decide) rfl rfl rfl (sp_isWithin (fun w1 w2 => ?_) (fun w => ?_))
    · refine sn_q_ifne (t := 30) sn_bc_12 dX9_land_17 rfl (fun _ => ?_) (fun c => absurd (by decide) c)
      refine sn_q_aloadn sn_bc_12 dX9_land_30 rfl ?_
      refine sn_q_iconst sn_bc_12 dX9_land_31 rfl ?_
      refine sn_q_invV sn_bc_12 dX9_land_32 sn_oc_12 sn_pv_9_114 (by decide) rfl (by decide) (sn_h1 (by decide)) rfl rfl rfl rfl (sp_needPhase hph ?_)
      refine sn_q_aloadn sn_bc_12 dX9_land_35 rfl ?_
      refine sn_q_getr (v := 3) sn_bc_12 dX9_land_36 sn_oc_12 sn_pf_9_38 (by decide) rfl rfl (by decide) ?_
      refine sn_q_geti (P := 3) (J := 0) sn_bc_12 dX9_land_39 sn_oc_12 sn_pf_9_118 (by decide) rfl rfl rfl rfl ?_
      refine sn_q_bipush sn_bc_12 dX9_land_42 rfl ?_
      refine sn_q_iclt (t := 57) sn_bc_12 dX9_land_44 rfl (fun c_44 => ?_) (fun c_44 => ?_)
      · refine sn_q_aloadn sn_bc_12 dX9_land_57 rfl ?_
        refine sn_q_iconst sn_bc_12 dX9_land_58 rfl ?_
        refine sn_q_puti (P := 2) (J := 15) sn_bc_12 dX9_land_59 sn_oc_12 sn_pf_9_99 (by decide) rfl rfl rfl rfl (sn_fz (by omega)) rfl ?_
        refine sn_q_aloadn sn_bc_12 dX9_land_62 rfl ?_
        refine sn_q_getr (v := 3) sn_bc_12 dX9_land_63 sn_oc_12 sn_pf_9_38 (by decide) rfl rfl (by decide) ?_
        refine sn_q_iloadn sn_bc_12 dX9_land_66 rfl ?_
        refine sn_q_iloadn sn_bc_12 dX9_land_67 rfl ?_
        refine sn_q_invV sn_bc_12 dX9_land_68 sn_oc_12 sn_pv_9_126 (by decide) rfl (by decide) (sn_h1 (by decide)) rfl rfl rfl rfl (sp_Lands_add (by rw [sn_s_p (by omega)]; omega) (by rw [sn_s_p (by omega)]; omega) ?_)
        refine sn_q_iret sn_bc_12 dX9_land_71 rfl ?_
        rw [sn_s_p (by omega)]
        have f : ∀ a c, a ≠ 4 → a ≠ 5 → a ≠ 6 → ¬ (a = 3 ∧ c = 0) → ¬ (a = 2 ∧ c = 15) → sn_s (sn_s (sn_s (sn_s (sn_s σ 2 15 0) 4 (σ 3 0) x) 5 (σ 3 0) y) 6 (σ 3 0) 100) 3 0 (σ 3 0 + 1) a c = σ a c := fun a c g1 g2 g3 g4 g5 => by
          unfold sn_s
          rw [if_neg g4, if_neg (by omega), if_neg (by omega), if_neg (by omega), if_neg g5]
        have f9 : ∀ a c, (a = 9 ∨ a = 10 ∨ a = 11) → sn_s (sn_s (sn_s (sn_s (sn_s σ 2 15 0) 4 (σ 3 0) x) 5 (σ 3 0) y) 6 (σ 3 0) 100) 3 0 (σ 3 0 + 1) a c = σ a c := fun a c g => f a c (by omega) (by omega) (by omega) (by omega) (by omega)
        obtain ⟨q1, q2, q3, q4, q5, q6⟩ := hI
        have e30 : sn_s (sn_s (sn_s (sn_s (sn_s σ 2 15 0) 4 (σ 3 0) x) 5 (σ 3 0) y) 6 (σ 3 0) 100) 3 0 (σ 3 0 + 1) 3 0 = σ 3 0 + 1 := sn_s_e
        have hC := sk_C_t q4 (fun a c g => f a c (by omega) (by omega) (by omega) (by omega) (by omega))
        refine kk _ ⟨sk_In_0 q1 (fun a c g => f a c (by omega) (by omega) (by omega) (by omega) (by omega)) (by rw [e30]; omega) (by rw [e30]; omega) hC (by rw [f 15 3 (by omega) (by omega) (by omega) (by omega) (by omega)]; exact q1.2.2.2.1) (by unfold sn_s; rw [if_neg (by omega), if_neg (by omega), if_neg (by omega), if_neg (by omega), if_pos ⟨rfl, rfl⟩]), ?_, sk_St_t q3 (fun a c g => f a c (by omega) (by omega) (by omega) (by omega) (by omega)), hC, ?_, sk_E_t q6 (fun a c g => f a c (by omega) (by omega) (by omega) (by omega) (by omega))⟩ f e30 (by rw [sn_s_p (by omega), sn_s_p (by omega), sn_s_e]) (fun c g => by unfold sn_s; rw [if_neg (by omega), if_neg (by omega), if_neg (by omega), if_neg (by omega), if_neg (by omega)])
        · obtain ⟨a1, a2, a3, a4⟩ := q2
          refine ⟨fun s b1 b2 b3 => ?_, ?_, ?_, fun s b1 b2 b3 => ?_⟩
          · rw [f 10 s (by omega) (by omega) (by omega) (by omega) (by omega)] at b3; rw [e30]; have := a1 s b1 b2 b3; omega
          · unfold sk_si at a2 ⊢; simp only [f9 9 _ (by decide), f9 10 _ (by decide)]; exact a2
          · unfold sn_rn at a3 ⊢; simp only [f9 9 _ (by decide), f9 10 _ (by decide), f9 11 _ (by decide)]; exact a3
          · rw [f _ _ (by omega) (by omega) (by omega) (by omega) (by omega)] at b3 ⊢; exact a4 s b1 b2 b3
        · obtain ⟨a1, a2, a3, a4, a5, a6, a7⟩ := q5
          have g : ∀ a c, 217 ≤ a → sn_s (sn_s (sn_s (sn_s (sn_s σ 2 15 0) 4 (σ 3 0) x) 5 (σ 3 0) y) 6 (σ 3 0) 100) 3 0 (σ 3 0 + 1) a c = σ a c := fun a c z => f a c (by omega) (by omega) (by omega) (by omega) (by omega)
          refine ⟨fun l s b1 b2 b3 b4 => ?_, fun s b1 b2 => ?_, fun l s b1 b2 b3 b4 b5 => ?_, ?_, ?_, fun l b1 b2 => ?_, fun l b1 b2 => ?_⟩
          · rw [g _ _ (by omega)]; exact a1 l s b1 b2 b3 b4
          · rw [g _ _ (by omega)]; exact a2 s b1 b2
          · rw [g _ _ (by omega)] at b5 ⊢; exact a3 l s b1 b2 b3 b4 b5
          · unfold sk_nl at a4 ⊢; simp only [g 217 _ (by decide), g 228 _ (by decide)]; exact a4
          · unfold sk_ns at a5 ⊢; simp only [g 217 _ (by decide), g 230 _ (by decide)]; exact a5
          · rw [e30] at b1; rw [g _ _ (by omega)]; exact a6 l (by omega) b2
          · rw [g _ _ (by omega)]; exact a7 l b1 b2
      · exfalso; omega
    · refine sn_q_ifne (t := 30) sn_bc_12 dX9_land_17 rfl (fun c => absurd c (by decide)) (fun _ => ?_)
      exfalso; omega
  · refine sn_q_ifeq (t := 20) sn_bc_12 dX9_land_6 rfl (fun _ => ?_) (fun c => absurd (by decide) c)
    exfalso; omega
theorem sk_rules {n k : Nat} {Y : Nat → Nat × Nat} {X : Nat → Nat → sn_V} {σ : Int → Int → Int} {Q : Option sn_V → sn_H → Prop} {x y z t u : Int} (hI : sk_Iv σ) (hph : σ 2 10 = 0) (hs : σ 9 0 = 0) (h1 : 60 ≤ x) (h2 : x ≤ 300) (h3 : 1 ≤ y) (h4 : y ≤ 9) (h5 : 1 ≤ z) (h6 : z ≤ 20) (h7 : 0 ≤ t) (h8 : t ≤ 99) (hu01 : u = 0 ∨ u = 1) (hu : ∀ m, 0 ≤ m → m < 80 → σ 178 m = 0) (kk : ∀ τ, sk_Iv τ → (∀ a c, a ≠ 211 → ¬ (a = 2 ∧ c = 15) → τ a c = σ a c) → τ 211 0 = x → τ 211 1 = y → τ 211 2 = z → τ 211 4 = u → Q (some (sn_i (σ 211 0))) (sn_hh n k Y τ X)) : sn_Wp 16 0 [sn_r 2, sn_i x, sn_i y, sn_i z, sn_i t, sn_i u, sn_u] [] (sn_hh n k Y σ X) Q := by
  have hA := sk_A_bd hI.2.1
  refine sn_q_iloadn sn_bc_16 dX9_rules_0 rfl ?_
  refine sn_q_bipush sn_bc_16 dX9_rules_1 rfl ?_
  refine sn_q_sipush sn_bc_16 dX9_rules_3 rfl ?_
  refine sn_q_invS sn_bc_16 dX9_rules_6 sn_oc_16 sn_px_9_103 sn_ps_9_103 (by decide) rfl rfl rfl (sp_isWithin (fun w1 w2 => ?_) (fun w => ?_))
  · refine sn_q_ifeq (t := 22) sn_bc_16 dX9_rules_9 rfl (fun c => absurd c (by decide)) (fun _ => ?_)
    refine sn_q_iloadn sn_bc_16 dX9_rules_12 rfl ?_
    refine sn_q_iconst sn_bc_16 dX9_rules_13 rfl ?_
    refine sn_q_bipush sn_bc_16 dX9_rules_14 rfl ?_
    refine sn_q_invS sn_bc_16 dX9_rules_16 sn_oc_16 sn_px_9_103 sn_ps_9_103 (by decide) rfl rfl rfl (sp_isWithin (fun w1 w2 => ?_) (fun w => ?_))
    · refine sn_q_ifne (t := 32) sn_bc_16 dX9_rules_19 rfl (fun _ => ?_) (fun c => absurd (by decide) c)
      refine sn_q_iloadn sn_bc_16 dX9_rules_32 rfl ?_
      refine sn_q_iconst sn_bc_16 dX9_rules_33 rfl ?_
      refine sn_q_bipush sn_bc_16 dX9_rules_34 rfl ?_
      refine sn_q_invS sn_bc_16 dX9_rules_36 sn_oc_16 sn_px_9_103 sn_ps_9_103 (by decide) rfl rfl rfl (sp_isWithin (fun w1 w2 => ?_) (fun w => ?_))
      · refine sn_q_ifeq (t := 53) sn_bc_16 dX9_rules_39 rfl (fun c => absurd c (by decide)) (fun _ => ?_)
        refine sn_q_iload sn_bc_16 dX9_rules_42 rfl ?_
        refine sn_q_iconst sn_bc_16 dX9_rules_44 rfl ?_
        refine sn_q_bipush sn_bc_16 dX9_rules_45 rfl ?_
        refine sn_q_invS sn_bc_16 dX9_rules_47 sn_oc_16 sn_px_9_103 sn_ps_9_103 (by decide) rfl rfl rfl (sp_isWithin (fun w1 w2 => ?_) (fun w => ?_))
        · refine sn_q_ifne (t := 63) sn_bc_16 dX9_rules_50 rfl (fun _ => ?_) (fun c => absurd (by decide) c)
          refine sn_q_aloadn sn_bc_16 dX9_rules_63 rfl ?_
          refine sn_q_iconst sn_bc_16 dX9_rules_64 rfl ?_
          refine sn_q_invV sn_bc_16 dX9_rules_65 sn_oc_16 sn_pv_9_114 (by decide) rfl (by decide) (sn_h1 (by decide)) rfl rfl rfl rfl (sp_needPhase hph ?_)
          refine sn_q_aloadn sn_bc_16 dX9_rules_68 rfl ?_
          refine sn_q_getr (v := 9) sn_bc_16 dX9_rules_69 sn_oc_16 sn_pf_9_42 (by decide) rfl rfl (by decide) ?_
          refine sn_q_geti (P := 9) (J := 0) sn_bc_16 dX9_rules_72 sn_oc_16 sn_pf_9_134 (by decide) rfl rfl rfl rfl ?_
          refine sn_q_ifle (t := 88) sn_bc_16 dX9_rules_75 rfl (fun c_75 => ?_) (fun c_75 => ?_)
          · refine sn_q_aloadn sn_bc_16 dX9_rules_88 rfl ?_
            refine sn_q_getr (v := 211) sn_bc_16 dX9_rules_89 sn_oc_16 sn_pf_9_32 (by decide) rfl rfl (by decide) ?_
            refine sn_q_geti (P := 211) (J := 0) sn_bc_16 dX9_rules_92 sn_oc_16 sn_pf_9_137 (by decide) rfl rfl rfl rfl ?_
            refine sn_q_ist6 sn_bc_16 dX9_rules_95 rfl ?_
            refine sn_q_aloadn sn_bc_16 dX9_rules_97 rfl ?_
            refine sn_q_getr (v := 211) sn_bc_16 dX9_rules_98 sn_oc_16 sn_pf_9_32 (by decide) rfl rfl (by decide) ?_
            refine sn_q_iloadn sn_bc_16 dX9_rules_101 rfl ?_
            refine sn_q_puti (P := 211) (J := 0) sn_bc_16 dX9_rules_102 sn_oc_16 sn_pf_9_137 (by decide) rfl rfl rfl rfl rfl rfl ?_
            refine sn_q_aloadn sn_bc_16 dX9_rules_105 rfl ?_
            refine sn_q_getr (v := 211) sn_bc_16 dX9_rules_106 sn_oc_16 sn_pf_9_32 (by decide) rfl rfl (by decide) ?_
            refine sn_q_iloadn sn_bc_16 dX9_rules_109 rfl ?_
            refine sn_q_puti (P := 211) (J := 1) sn_bc_16 dX9_rules_110 sn_oc_16 sn_pf_9_140 (by decide) rfl rfl rfl rfl rfl rfl ?_
            refine sn_q_aloadn sn_bc_16 dX9_rules_113 rfl ?_
            refine sn_q_getr (v := 211) sn_bc_16 dX9_rules_114 sn_oc_16 sn_pf_9_32 (by decide) rfl rfl (by decide) ?_
            refine sn_q_iloadn sn_bc_16 dX9_rules_117 rfl ?_
            refine sn_q_puti (P := 211) (J := 2) sn_bc_16 dX9_rules_118 sn_oc_16 sn_pf_9_143 (by decide) rfl rfl rfl rfl rfl rfl ?_
            refine sn_q_aloadn sn_bc_16 dX9_rules_121 rfl ?_
            refine sn_q_getr (v := 211) sn_bc_16 dX9_rules_122 sn_oc_16 sn_pf_9_32 (by decide) rfl rfl (by decide) ?_
            refine sn_q_iload sn_bc_16 dX9_rules_125 rfl ?_
            refine sn_q_puti (P := 211) (J := 3) sn_bc_16 dX9_rules_127 sn_oc_16 sn_pf_9_146 (by decide) rfl rfl rfl rfl rfl rfl ?_
            refine sn_q_aloadn sn_bc_16 dX9_rules_130 rfl ?_
            refine sn_q_getr (v := 211) sn_bc_16 dX9_rules_131 sn_oc_16 sn_pf_9_32 (by decide) rfl rfl (by decide) ?_
            refine sn_q_iload sn_bc_16 dX9_rules_134 rfl ?_
            refine sn_q_puti (P := 211) (J := 4) sn_bc_16 dX9_rules_136 sn_oc_16 sn_pf_9_149 (by decide) rfl rfl rfl rfl (sn_fz hu01) rfl ?_
            refine sn_q_aloadn sn_bc_16 dX9_rules_139 rfl ?_
            refine sn_q_iconst sn_bc_16 dX9_rules_140 rfl ?_
            refine sn_q_puti (P := 2) (J := 15) sn_bc_16 dX9_rules_141 sn_oc_16 sn_pf_9_99 (by decide) rfl rfl rfl rfl (sn_fz (by omega)) rfl ?_
            refine sn_q_iload sn_bc_16 dX9_rules_144 rfl ?_
            refine sn_q_iret sn_bc_16 dX9_rules_146 rfl ?_
            have f : ∀ a c, a ≠ 211 → ¬ (a = 2 ∧ c = 15) → sn_s (sn_s (sn_s (sn_s (sn_s (sn_s σ 211 0 x) 211 1 y) 211 2 z) 211 3 t) 211 4 u) 2 15 0 a c = σ a c := fun a c g1 g2 => by
              unfold sn_s
              rw [if_neg g2, if_neg (by omega), if_neg (by omega), if_neg (by omega), if_neg (by omega), if_neg (by omega)]
            obtain ⟨q1, q2, q3, q4, q5, q6⟩ := hI
            have hC := sk_C_t q4 (fun a c g => f a c (by omega) (by omega))
            have e2 : sn_s (sn_s (sn_s (sn_s (sn_s (sn_s σ 211 0 x) 211 1 y) 211 2 z) 211 3 t) 211 4 u) 2 15 0 211 2 = z := by
              unfold sn_s
              rw [if_neg (by omega), if_neg (by omega), if_neg (by omega), if_pos ⟨rfl, rfl⟩]
            refine kk _ ⟨sk_In_0 q1 (fun a c g => f a c (by omega) (by omega)) (by rw [f 3 0 (by omega) (by omega)]; omega) (by rw [f 3 0 (by omega) (by omega)]; exact q1.1.2) hC (by rw [f 15 3 (by omega) (by omega)]; exact q1.2.2.2.1) sn_s_e, sk_A_t q2 (fun a c g => f a c (by omega) (by omega)), sk_St_t q3 (fun a c g => f a c (by omega) (by omega)), hC, sk_D_t q5 (fun a c g => f a c (by omega) (by omega)), ⟨fun m a1 a2 => by rw [f 178 _ (by omega) (by omega), e2, hu m a1 a2]; omega, by rw [e2]; omega, by rw [e2]; omega⟩⟩ f ?_ ?_ e2 ?_
            · unfold sn_s; rw [if_neg (by omega), if_neg (by omega), if_neg (by omega), if_neg (by omega), if_neg (by omega), if_pos ⟨rfl, rfl⟩]
            · unfold sn_s; rw [if_neg (by omega), if_neg (by omega), if_neg (by omega), if_neg (by omega), if_pos ⟨rfl, rfl⟩]
            · unfold sn_s; rw [if_neg (by omega), if_pos ⟨rfl, rfl⟩]
          · exfalso; omega
        · refine sn_q_ifne (t := 63) sn_bc_16 dX9_rules_50 rfl (fun c => absurd c (by decide)) (fun _ => ?_)
          exfalso; omega
      · refine sn_q_ifeq (t := 53) sn_bc_16 dX9_rules_39 rfl (fun _ => ?_) (fun c => absurd (by decide) c)
        exfalso; omega
    · refine sn_q_ifne (t := 32) sn_bc_16 dX9_rules_19 rfl (fun c => absurd c (by decide)) (fun _ => ?_)
      exfalso; omega
  · refine sn_q_ifeq (t := 22) sn_bc_16 dX9_rules_9 rfl (fun _ => ?_) (fun c => absurd (by decide) c)
    exfalso; omega
theorem sk_Iv_2 {σ τ : Int → Int → Int} (h : sk_Iv σ) (e : ∀ a c, a ≠ 2 → τ a c = σ a c) (e2 : τ 2 15 ≠ 0 → σ 2 15 ≠ 0) : sk_Iv τ := by
  obtain ⟨q1, q2, q3, q4, q5, q6⟩ := h
  exact ⟨sk_In_t q1 (fun a c g => e a c (by unfold sk_S at g; omega)) (e _ _ (by omega)) e2, sk_A_t q2 (fun a c g => e a c (by omega)), sk_St_t q3 (fun a c g => e a c (by omega)), sk_C_t q4 (fun a c g => e a c (by omega)), sk_D_t q5 (fun a c g => e a c (by omega)), sk_E_t q6 (fun a c g => e a c (by omega))⟩
theorem sk_start {n k : Nat} {Y : Nat → Nat × Nat} {X : Nat → Nat → sn_V} {σ : Int → Int → Int} {Q : Option sn_V → sn_H → Prop} (hI : sk_Iv σ) (hph : σ 2 10 = 0) (h1 : 2 ≤ σ 9 0) (kk : sk_Iv (sn_s σ 2 10 1) → Q (some (sn_i (σ 9 0))) (sn_hh n k Y (sn_s σ 2 10 1) X)) : sn_Wp 68 0 [sn_r 2] [] (sn_hh n k Y σ X) Q := by
  refine sn_q_aloadn sn_bc_68 dX9_start_0 rfl ?_
  refine sn_q_iconst sn_bc_68 dX9_start_1 rfl ?_
  refine sn_q_invV sn_bc_68 dX9_start_2 sn_oc_68 sn_pv_9_114 (by decide) rfl (by decide) (sn_h1 (by decide)) rfl rfl rfl rfl (sp_needPhase hph ?_)
  refine sn_q_aloadn sn_bc_68 dX9_start_5 rfl ?_
  refine sn_q_getr (v := 9) sn_bc_68 dX9_start_6 sn_oc_68 sn_pf_9_42 (by decide) rfl rfl (by decide) ?_
  refine sn_q_geti (P := 9) (J := 0) sn_bc_68 dX9_start_9 sn_oc_68 sn_pf_9_134 (by decide) rfl rfl rfl rfl ?_
  refine sn_q_iconst sn_bc_68 dX9_start_12 rfl ?_
  refine sn_q_icge (t := 26) sn_bc_68 dX9_start_13 rfl (fun c_13 => ?_) (fun c_13 => ?_)
  · refine sn_q_aloadn sn_bc_68 dX9_start_26 rfl ?_
    refine sn_q_iconst sn_bc_68 dX9_start_27 rfl ?_
    refine sn_q_puti (P := 2) (J := 10) sn_bc_68 dX9_start_28 sn_oc_68 sn_pf_9_84 (by decide) rfl rfl rfl rfl rfl rfl ?_
    refine sn_q_aloadn sn_bc_68 dX9_start_31 rfl ?_
    refine sn_q_getr (v := 9) sn_bc_68 dX9_start_32 sn_oc_68 sn_pf_9_42 (by decide) rfl rfl (by decide) ?_
    refine sn_q_geti (P := 9) (J := 0) sn_bc_68 dX9_start_35 sn_oc_68 sn_pf_9_134 (by decide) rfl rfl rfl rfl ?_
    rw [sn_s_p (by omega)]
    refine sn_q_iret sn_bc_68 dX9_start_38 rfl ?_
    exact kk (sk_Iv_2 hI (fun a c g => sn_s_p g) (fun z => by rw [sn_s_j (by omega)] at z; exact z))
  · exfalso; omega
theorem sk_close {n k : Nat} {Y : Nat → Nat × Nat} {X : Nat → Nat → sn_V} {σ : Int → Int → Int} {Q : Option sn_V → sn_H → Prop} (hYX : sn_YX Y X) (hI : sk_Iv σ) (hph : σ 2 10 = 1) (kk : ∀ τ, sk_q (sn_s σ 2 10 2) τ → Q (some (sn_i (sk_vj τ (τ 3 0).toNat))) (sn_hh n k Y τ X)) : sn_Wp 96 0 [sn_r 2] [] (sn_hh n k Y σ X) Q := by
  refine sn_q_aloadn sn_bc_96 dX9_close_0 rfl ?_
  refine sn_q_iconst sn_bc_96 dX9_close_1 rfl ?_
  refine sn_q_invV sn_bc_96 dX9_close_2 sn_oc_96 sn_pv_9_114 (by decide) rfl (by decide) (sn_h1 (by decide)) rfl rfl rfl rfl (sp_needPhase hph ?_)
  refine sn_q_aloadn sn_bc_96 dX9_close_5 rfl ?_
  refine sn_q_iconst sn_bc_96 dX9_close_6 rfl ?_
  refine sn_q_puti (P := 2) (J := 10) sn_bc_96 dX9_close_7 sn_oc_96 sn_pf_9_84 (by decide) rfl rfl rfl rfl rfl rfl ?_
  refine sn_q_aloadn sn_bc_96 dX9_close_10 rfl ?_
  refine sn_q_invV sn_bc_96 dX9_close_11 sn_oc_96 sn_pv_9_255 (by decide) rfl (by decide) (sn_h1 (by decide)) rfl rfl rfl rfl (sk_count hYX (sk_Iv_2 hI (fun a c g => sn_s_p g) (fun z => by rw [sn_s_j (by omega)] at z; exact z)) (fun τ hq => ?_))
  refine sn_q_aloadn sn_bc_96 dX9_close_14 rfl ?_
  refine sn_q_invV sn_bc_96 dX9_close_15 sn_oc_96 sn_pv_9_257 (by decide) rfl (by decide) (sn_h1 (by decide)) rfl rfl rfl rfl (sp_voidJuries hq.2.2.1.1.1.1 hq.2.2.1.1.1.2 ?_)
  refine sn_q_iret sn_bc_96 dX9_close_18 rfl ?_
  exact kk τ hq
