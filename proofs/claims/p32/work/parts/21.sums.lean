/-! ballots, juries -/
theorem sn_wv_bd (x : Int) : 0 ≤ sn_wv x ∧ sn_wv x ≤ 12 := by unfold sn_wv; (repeat' split) <;> decide
theorem sn_wv_0 : sn_wv 0 = 12 := rfl
/-- the ballot b: its size and entries within bounds -/
def sn_bw (σ : Int → Int → Int) (b : Int) : Prop := 0 ≤ σ 60 b ∧ σ 60 b ≤ 8 ∧ ∀ i, 0 ≤ i → i < σ 60 b → 0 ≤ σ (20 + b) i ∧ σ (20 + b) i < 8
theorem sn_bw_t {σ τ : Int → Int → Int} {b : Int} (h : sn_bw σ b) (e1 : τ 60 b = σ 60 b) (e2 : ∀ i, τ (20 + b) i = σ (20 + b) i) : sn_bw τ b := by
  unfold sn_bw
  rw [e1]
  exact ⟨h.1, h.2.1, fun i g1 g2 => by rw [e2]; exact h.2.2 i g1 g2⟩
theorem sp_addWeights {n k : Nat} {Y : Nat → Nat × Nat} {X : Nat → Nat → sn_V} {σ : Int → Int → Int} {Q : Option sn_V → sn_H → Prop} {w j : Int} {q : Nat} {P : Int} (hYX : sn_YX Y X) (ha : sn_ai q 8) (hP : (q : Int) = P) (hP1 : 65 ≤ P) (hP2 : P ≤ 72) (h1 : 0 ≤ w) (h2 : w < 8) (h3 : 0 ≤ j) (h4 : j < 5) (hb : sn_bw σ (w * 5 + j)) (h0 : ∀ x, 0 ≤ x → x < 8 → 0 ≤ σ P x ∧ σ P x ≤ 1000) (kk : ∀ τ, (∀ a c, a ≠ P → τ a c = σ a c) → (∀ x, 0 ≤ x → x < 8 → σ P x ≤ τ P x ∧ τ P x ≤ σ P x + 96) → (0 < σ 60 (w * 5 + j) → σ P (σ (20 + (w * 5 + j)) 0) + 12 ≤ τ P (σ (20 + (w * 5 + j)) 0)) → Q none (sn_hh n k Y τ X)) : sn_Wp 30 0 [sn_r 18, sn_i w, sn_i j, sn_r q, sn_u, sn_u] [] (sn_hh n k Y σ X) Q := by
  have hb1 := hb.1
  have hb2 := hb.2.1
  have loop : ∀ (d : Nat) (i : Nat) (τ : Int → Int → Int), i + d = 8 → (i : Int) ≤ σ 60 (w * 5 + j) → (∀ a c, a ≠ P → τ a c = σ a c) → (∀ x, 0 ≤ x → x < 8 → σ P x ≤ τ P x ∧ τ P x ≤ σ P x + 12 * (i : Int)) → (0 < i → σ P (σ (20 + (w * 5 + j)) 0) + 12 ≤ τ P (σ (20 + (w * 5 + j)) 0)) → sn_Wp 30 10 [sn_r 18, sn_i w, sn_i j, sn_r q, sn_i (w * 5 + j), sn_i (i : Int)] [] (sn_hh n k Y τ X) Q := by
    refine sn_ind (fun d ih => ?_)
    intro i τ hi hz hf hv h1st
    refine sn_q_iload sn_bc_30 dX0_addWeights_10 rfl ?_
    refine sn_q_aloadn sn_bc_30 dX0_addWeights_12 rfl ?_
    refine sn_q_getr (v := 60) sn_bc_30 dX0_addWeights_13 sn_oc_30 sn_pf_0_16 (by decide) rfl rfl (by decide) ?_
    refine sn_q_iload sn_bc_30 dX0_addWeights_16 rfl ?_
    refine sn_q_iald (P := 60) sn_bc_30 dX0_addWeights_18 sn_a60 rfl (by omega) (by omega) ?_
    rw [hf 60 _ (by omega)]
    refine sn_q_icge (t := 48) sn_bc_30 dX0_addWeights_19 rfl (fun c_19 => ?_) (fun c_19 => ?_)
    · refine sn_q_vret sn_bc_30 dX0_addWeights_48 rfl ?_
      exact kk τ hf (fun x g1 g2 => ⟨(hv x g1 g2).1, by have := (hv x g1 g2).2; omega⟩) (fun g => h1st (by omega))
    · refine sn_q_aloadn sn_bc_30 dX0_addWeights_22 rfl ?_
      refine sn_q_aloadn sn_bc_30 dX0_addWeights_23 rfl ?_
      refine sn_q_getr (v := 19) sn_bc_30 dX0_addWeights_24 sn_oc_30 sn_pf_0_11 (by decide) rfl rfl (by decide) ?_
      refine sn_q_iload sn_bc_30 dX0_addWeights_27 rfl ?_
      refine sn_q_aald sn_bc_30 dX0_addWeights_29 sn_a19 (by omega) (by omega) ?_
      refine sn_q_iload sn_bc_30 dX0_addWeights_30 rfl ?_
      refine sn_q_iald sn_bc_30 dX0_addWeights_32 (sn_b19 (by omega) (by omega)) (sn_p19 (by omega)) (by omega) (by omega) ?_
      rw [hf (20 + (w * 5 + j)) _ (by omega)]
      obtain ⟨x, ex⟩ : ∃ x, σ (20 + (w * 5 + j)) (i : Int) = x := ⟨_, rfl⟩
      have hx := hb.2.2 (i : Int) (by omega) (by omega)
      rw [ex] at hx
      rw [ex]
      have hx2 := hv x hx.1 hx.2
      have hx3 := h0 x hx.1 hx.2
      have hw := sn_wv_bd (i : Int)
      refine sn_q_dup2 sn_bc_30 dX0_addWeights_33 rfl ?_
      refine sn_q_iald sn_bc_30 dX0_addWeights_34 ha hP (by omega) (by omega) ?_
      refine sn_q_iload sn_bc_30 dX0_addWeights_35 rfl ?_
      refine sn_q_invS sn_bc_30 dX0_addWeights_37 sn_oc_30 sn_px_0_45 sn_ps_0_45 (by decide) rfl rfl rfl (sp_weight hYX ?_)
      rw [if_pos (show (0 : Int) ≤ (i : Int) from by omega)]
      refine sn_q_iadd sn_bc_30 dX0_addWeights_40 (by omega) (by omega) ?_
      refine sn_q_iast sn_bc_30 dX0_addWeights_41 ha hP (by omega) (by omega) ?_
      refine sn_q_inc5 sn_bc_30 dX0_addWeights_42 rfl (by omega) (by omega) ?_
      refine sn_q_goto (t := 10) sn_bc_30 dX0_addWeights_45 rfl ?_
      refine ih (d - 1) (by omega) (i + 1) _ (by omega) (by omega) (fun a c g => (sn_s_p g).trans (hf a c g)) (fun y g1 g2 => ?_) (fun _ => ?_)
      · by_cases e : y = x
        · rw [e, sn_s_e]; omega
        · rw [sn_s_j e]; have := hv y g1 g2; omega
      · by_cases e : i = 0
        · rw [e] at ex hx2 hw ⊢
          have ex' : σ (20 + (w * 5 + j)) 0 = x := ex
          rw [ex', sn_s_e]
          have : sn_wv ((0 : Nat) : Int) = 12 := rfl
          omega
        · have h1 := h1st (by omega)
          by_cases e3 : σ (20 + (w * 5 + j)) 0 = x
          · rw [e3] at h1 ⊢; rw [sn_s_e]; omega
          · rw [sn_s_j e3]; exact h1
  refine sn_q_iloadn sn_bc_30 dX0_addWeights_0 rfl ?_
  refine sn_q_iloadn sn_bc_30 dX0_addWeights_1 rfl ?_
  refine sn_q_invS sn_bc_30 dX0_addWeights_2 sn_oc_30 sn_px_0_31 sn_ps_0_31 (by decide) rfl rfl rfl (sp_numberOf (by omega) (by omega) (by omega) (by omega) ?_)
  refine sn_q_ist4 sn_bc_30 dX0_addWeights_5 rfl ?_
  refine sn_q_iconst sn_bc_30 dX0_addWeights_7 rfl ?_
  refine sn_q_ist5 sn_bc_30 dX0_addWeights_8 rfl ?_
  exact loop 8 0 σ rfl (by omega) (fun _ _ _ => rfl) (fun x _ _ => by omega) (fun g => absurd g (by decide))
theorem sp_distance {n k : Nat} {Y : Nat → Nat × Nat} {X : Nat → Nat → sn_V} {σ : Int → Int → Int} {Q : Option sn_V → sn_H → Prop} {w j : Int} (h1 : 0 ≤ w) (h2 : w < 8) (h3 : 0 ≤ j) (h4 : j < 5) (hb : sn_bw σ (w * 5 + j)) (h0 : ∀ x, 0 ≤ x → x < 8 → 0 ≤ σ 95 x ∧ σ 95 x ≤ 8) (kk : ∀ r : Int, 0 ≤ r → r ≤ 64 → Q (some (sn_i r)) (sn_hh n k Y σ X)) : sn_Wp 37 0 [sn_r 18, sn_i w, sn_i j, sn_r 95, sn_u, sn_u, sn_u] [] (sn_hh n k Y σ X) Q := by
  have hb1 := hb.1
  have hb2 := hb.2.1
  have loop : ∀ (d : Nat) (i : Nat) (s : Int), i + d = 8 → (i : Int) ≤ σ 60 (w * 5 + j) → 0 ≤ s → s ≤ 8 * (i : Int) → sn_Wp 37 13 [sn_r 18, sn_i w, sn_i j, sn_r 95, sn_i (w * 5 + j), sn_i s, sn_i (i : Int)] [] (sn_hh n k Y σ X) Q := by
    refine sn_ind (fun d ih => ?_)
    intro i s hi hz hs1 hs2
    refine sn_q_iload sn_bc_37 dX0_distance_13 rfl ?_
    refine sn_q_aloadn sn_bc_37 dX0_distance_15 rfl ?_
    refine sn_q_getr (v := 60) sn_bc_37 dX0_distance_16 sn_oc_37 sn_pf_0_16 (by decide) rfl rfl (by decide) ?_
    refine sn_q_iload sn_bc_37 dX0_distance_19 rfl ?_
    refine sn_q_iald (P := 60) sn_bc_37 dX0_distance_21 sn_a60 rfl (by omega) (by omega) ?_
    refine sn_q_icge (t := 54) sn_bc_37 dX0_distance_22 rfl (fun c_22 => ?_) (fun c_22 => ?_)
    · refine sn_q_iload sn_bc_37 dX0_distance_54 rfl ?_
      refine sn_q_iret sn_bc_37 dX0_distance_56 rfl ?_
      exact kk s hs1 (by omega)
    · refine sn_q_iload sn_bc_37 dX0_distance_25 rfl ?_
      refine sn_q_iload sn_bc_37 dX0_distance_27 rfl ?_
      refine sn_q_aloadn sn_bc_37 dX0_distance_29 rfl ?_
      refine sn_q_aloadn sn_bc_37 dX0_distance_30 rfl ?_
      refine sn_q_getr (v := 19) sn_bc_37 dX0_distance_31 sn_oc_37 sn_pf_0_11 (by decide) rfl rfl (by decide) ?_
      refine sn_q_iload sn_bc_37 dX0_distance_34 rfl ?_
      refine sn_q_aald sn_bc_37 dX0_distance_36 sn_a19 (by omega) (by omega) ?_
      refine sn_q_iload sn_bc_37 dX0_distance_37 rfl ?_
      refine sn_q_iald sn_bc_37 dX0_distance_39 (sn_b19 (by omega) (by omega)) (sn_p19 (by omega)) (by omega) (by omega) ?_
      have hx := hb.2.2 (i : Int) (by omega) (by omega)
      have hy := h0 _ hx.1 hx.2
      refine sn_q_iald (P := 95) sn_bc_37 dX0_distance_40 sn_a95 rfl (by omega) (by omega) ?_
      refine sn_q_isub sn_bc_37 dX0_distance_41 (by omega) (by omega) ?_
      refine sn_q_abs sn_bc_37 dX0_distance_42 sn_oc_37 sn_px_0_48 rfl (by omega) (by omega) ?_
      refine sn_q_iadd sn_bc_37 dX0_distance_45 (by omega) (by omega) ?_
      refine sn_q_ist5 sn_bc_37 dX0_distance_46 rfl ?_
      refine sn_q_inc6 sn_bc_37 dX0_distance_48 rfl (by omega) (by omega) ?_
      refine sn_q_goto (t := 13) sn_bc_37 dX0_distance_51 rfl ?_
      exact ih (d - 1) (by omega) (i + 1) _ (by omega) (by omega) (by omega) (by omega)
  refine sn_q_iloadn sn_bc_37 dX0_distance_0 rfl ?_
  refine sn_q_iloadn sn_bc_37 dX0_distance_1 rfl ?_
  refine sn_q_invS sn_bc_37 dX0_distance_2 sn_oc_37 sn_px_0_31 sn_ps_0_31 (by decide) rfl rfl rfl (sp_numberOf (by omega) (by omega) (by omega) (by omega) ?_)
  refine sn_q_ist4 sn_bc_37 dX0_distance_5 rfl ?_
  refine sn_q_iconst sn_bc_37 dX0_distance_7 rfl ?_
  refine sn_q_ist5 sn_bc_37 dX0_distance_8 rfl ?_
  refine sn_q_iconst sn_bc_37 dX0_distance_10 rfl ?_
  refine sn_q_ist6 sn_bc_37 dX0_distance_11 rfl ?_
  exact loop 8 0 0 rfl (by omega) (by omega) (by omega)
theorem sp_isCounting {n k : Nat} {Y : Nat → Nat × Nat} {X : Nat → Nat → sn_V} {σ : Int → Int → Int} {Q : Option sn_V → sn_H → Prop} {w j : Int} (h1 : 0 ≤ w) (h2 : w < 8) (h3 : 0 ≤ j) (h4 : j < 5) (k1 : σ 61 (w * 5 + j) ≠ 0 → j ≠ σ 92 w → Q (some (sn_i 1)) (sn_hh n k Y σ X)) (k2 : ¬ (σ 61 (w * 5 + j) ≠ 0 ∧ j ≠ σ 92 w) → Q (some (sn_i 0)) (sn_hh n k Y σ X)) : sn_Wp 29 0 [sn_r 63, sn_i w, sn_i j] [] (sn_hh n k Y σ X) Q := by
  refine sn_q_aloadn sn_bc_29 dX2_isCounting_0 rfl ?_
  refine sn_q_getr (v := 18) sn_bc_29 dX2_isCounting_1 sn_oc_29 sn_pf_2_47 (by decide) rfl rfl (by decide) ?_
  refine sn_q_getr (v := 61) sn_bc_29 dX2_isCounting_4 sn_oc_29 sn_pf_2_88 (by decide) rfl rfl (by decide) ?_
  refine sn_q_iloadn sn_bc_29 dX2_isCounting_7 rfl ?_
  refine sn_q_iloadn sn_bc_29 dX2_isCounting_8 rfl ?_
  refine sn_q_invS sn_bc_29 dX2_isCounting_9 sn_oc_29 sn_px_2_91 sn_ps_2_91 (by decide) rfl rfl rfl (sp_numberOf (by omega) (by omega) (by omega) (by omega) ?_)
  refine sn_q_bald (P := 61) sn_bc_29 dX2_isCounting_12 sn_a61 rfl (by omega) (by omega) ?_
  refine sn_q_ifeq (t := 30) sn_bc_29 dX2_isCounting_13 rfl (fun c_13 => ?_) (fun c_13 => ?_)
  · refine sn_q_iconst sn_bc_29 dX2_isCounting_30 rfl ?_
    refine sn_q_zret sn_bc_29 dX2_isCounting_31 rfl (by omega) ?_
    first | exact k1 (by omega) (by omega) | exact k2 (by omega)
  · refine sn_q_iloadn sn_bc_29 dX2_isCounting_16 rfl ?_
    refine sn_q_aloadn sn_bc_29 dX2_isCounting_17 rfl ?_
    refine sn_q_getr (v := 92) sn_bc_29 dX2_isCounting_18 sn_oc_29 sn_pf_2_26 (by decide) rfl rfl (by decide) ?_
    refine sn_q_iloadn sn_bc_29 dX2_isCounting_21 rfl ?_
    refine sn_q_iald (P := 92) sn_bc_29 dX2_isCounting_22 sn_a92 rfl (by omega) (by omega) ?_
    refine sn_q_iceq (t := 30) sn_bc_29 dX2_isCounting_23 rfl (fun c_23 => ?_) (fun c_23 => ?_)
    · refine sn_q_iconst sn_bc_29 dX2_isCounting_30 rfl ?_
      refine sn_q_zret sn_bc_29 dX2_isCounting_31 rfl (by omega) ?_
      first | exact k1 (by omega) (by omega) | exact k2 (by omega)
    · refine sn_q_iconst sn_bc_29 dX2_isCounting_26 rfl ?_
      refine sn_q_goto (t := 31) sn_bc_29 dX2_isCounting_27 rfl ?_
      refine sn_q_zret sn_bc_29 dX2_isCounting_31 rfl (by omega) ?_
      first | exact k1 (by omega) (by omega) | exact k2 (by omega)
/-- the sums that a land's counting ballots make -/
def sn_sb (σ τ : Int → Int → Int) (w m : Int) : Prop := (∀ a c, a ≠ 65 + w → τ a c = σ a c) ∧ (∀ x, 0 ≤ x → x < 8 → 0 ≤ τ (65 + w) x ∧ τ (65 + w) x ≤ 96 * m) ∧ ∀ j, 0 ≤ j → j < m → σ 61 (w * 5 + j) ≠ 0 → j ≠ σ 92 w → 0 < σ 60 (w * 5 + j) → 12 ≤ τ (65 + w) (σ (20 + (w * 5 + j)) 0)
theorem sp_addBallots {n k : Nat} {Y : Nat → Nat × Nat} {X : Nat → Nat → sn_V} {σ : Int → Int → Int} {Q : Option sn_V → sn_H → Prop} {w : Int} (hYX : sn_YX Y X) (h1 : 0 ≤ w) (h2 : w < 8) (hb : ∀ j, 0 ≤ j → j < 5 → σ 61 (w * 5 + j) ≠ 0 → sn_bw σ (w * 5 + j)) (kk : ∀ τ, sn_sb σ τ w 5 → Q none (sn_hh n k Y τ X)) : sn_Wp 27 0 [sn_r 63, sn_i w, sn_u] [] (sn_hh n k Y σ X) Q := by
  have loop : ∀ (d : Nat) (i : Nat) (τ : Int → Int → Int), i + d = 5 → sn_sb σ τ w i → sn_Wp 27 11 [sn_r 63, sn_i w, sn_i (i : Int)] [] (sn_hh n k Y τ X) Q := by
    refine sn_ind (fun d ih => ?_)
    intro i τ hi hs
    have e61 := hs.1 61 (w * 5 + i) (by omega)
    have e92 := hs.1 92 w (by omega)
    have e60 := hs.1 60 (w * 5 + i) (by omega)
    have e20 := hs.1 (20 + (w * 5 + i)) 0 (by omega)
    refine sn_q_iloadn sn_bc_27 dX2_addBallots_11 rfl ?_
    refine sn_q_iconst sn_bc_27 dX2_addBallots_12 rfl ?_
    refine sn_q_icge (t := 46) sn_bc_27 dX2_addBallots_13 rfl (fun c_13 => ?_) (fun c_13 => ?_)
    · refine sn_q_vret sn_bc_27 dX2_addBallots_46 rfl ?_
      obtain rfl : i = 5 := by omega
      exact kk τ hs
    · refine sn_q_aloadn sn_bc_27 dX2_addBallots_16 rfl ?_
      refine sn_q_iloadn sn_bc_27 dX2_addBallots_17 rfl ?_
      refine sn_q_iloadn sn_bc_27 dX2_addBallots_18 rfl ?_
      refine sn_q_invV sn_bc_27 dX2_addBallots_19 sn_oc_27 sn_pv_2_99 (by decide) rfl (by decide) (sn_h1 (by decide)) rfl rfl rfl rfl (sp_isCounting (by omega) (by omega) (by omega) (by omega) (fun g1_19 g2_19 => ?_) (fun g_19 => ?_))
      · refine sn_q_ifeq (t := 40) sn_bc_27 dX2_addBallots_22 rfl (fun c => absurd c (by decide)) (fun _ => ?_)
        refine sn_q_aloadn sn_bc_27 dX2_addBallots_25 rfl ?_
        refine sn_q_getr (v := 18) sn_bc_27 dX2_addBallots_26 sn_oc_27 sn_pf_2_47 (by decide) rfl rfl (by decide) ?_
        refine sn_q_iloadn sn_bc_27 dX2_addBallots_29 rfl ?_
        refine sn_q_iloadn sn_bc_27 dX2_addBallots_30 rfl ?_
        refine sn_q_aloadn sn_bc_27 dX2_addBallots_31 rfl ?_
        refine sn_q_getr (v := 64) sn_bc_27 dX2_addBallots_32 sn_oc_27 sn_pf_2_11 (by decide) rfl rfl (by decide) ?_
        refine sn_q_iloadn sn_bc_27 dX2_addBallots_35 rfl ?_
        refine sn_q_aald sn_bc_27 dX2_addBallots_36 sn_a64 (by omega) (by omega) ?_
        refine sn_q_invV sn_bc_27 dX2_addBallots_37 sn_oc_27 sn_pv_2_103 (by decide) rfl (by decide) (sn_h1 (by decide)) rfl rfl rfl rfl (sp_addWeights (P := 65 + w) hYX (sn_b64 (by omega) (by omega)) (sn_p64 (by omega)) (by omega) (by omega) (by omega) (by omega) (by omega) (by omega) (sn_bw_t (hb i (by omega) (by omega) (by rw [← e61]; exact g1_19)) (hs.1 60 _ (by omega)) (fun z => hs.1 (20 + (w * 5 + i)) z (by omega))) (fun x a1 a2 => by have := hs.2.1 x a1 a2; omega) (fun ρ f1 f2 f3 => ?_))
        refine sn_q_inc2 sn_bc_27 dX2_addBallots_40 rfl (by omega) (by omega) ?_
        refine sn_q_goto (t := 11) sn_bc_27 dX2_addBallots_43 rfl ?_
        first
          | (refine ih (d - 1) (by omega) (i + 1) τ (by omega) ⟨hs.1, fun x a1 a2 => ⟨(hs.2.1 x a1 a2).1, by have := (hs.2.1 x a1 a2).2; omega⟩, fun j a1 a2 a3 a4 a5 => ?_⟩
             by_cases e : j = (i : Int)
             · rw [e] at a3 a4; rw [e61, e92] at g_19; exact absurd ⟨a3, a4⟩ g_19
             · exact hs.2.2 j a1 (by omega) a3 a4 a5)
          | (refine ih (d - 1) (by omega) (i + 1) ρ (by omega) ⟨fun a c g => (f1 a c g).trans (hs.1 a c g), fun x a1 a2 => ⟨by have := hs.2.1 x a1 a2; have := f2 x a1 a2; omega, by have := (hs.2.1 x a1 a2).2; have := f2 x a1 a2; omega⟩, fun j a1 a2 a3 a4 a5 => ?_⟩
             by_cases e : j = (i : Int)
             · rw [e] at a3 a5 ⊢
               have hb' := (hb i (by omega) (by omega) a3).2.2 0 (by omega) (by omega)
               rw [e60, e20] at f3
               have := f3 a5
               have := hs.2.1 _ hb'.1 hb'.2
               omega
             · have hb' := (hb j a1 (by omega) a3).2.2 0 (by omega) (by omega)
               have := hs.2.2 j a1 (by omega) a3 a4 a5
               have := f2 _ hb'.1 hb'.2
               omega)
      · refine sn_q_ifeq (t := 40) sn_bc_27 dX2_addBallots_22 rfl (fun _ => ?_) (fun c => absurd (by decide) c)
        refine sn_q_inc2 sn_bc_27 dX2_addBallots_40 rfl (by omega) (by omega) ?_
        refine sn_q_goto (t := 11) sn_bc_27 dX2_addBallots_43 rfl ?_
        first
          | (refine ih (d - 1) (by omega) (i + 1) τ (by omega) ⟨hs.1, fun x a1 a2 => ⟨(hs.2.1 x a1 a2).1, by have := (hs.2.1 x a1 a2).2; omega⟩, fun j a1 a2 a3 a4 a5 => ?_⟩
             by_cases e : j = (i : Int)
             · rw [e] at a3 a4; rw [e61, e92] at g_19; exact absurd ⟨a3, a4⟩ g_19
             · exact hs.2.2 j a1 (by omega) a3 a4 a5)
          | (refine ih (d - 1) (by omega) (i + 1) ρ (by omega) ⟨fun a c g => (f1 a c g).trans (hs.1 a c g), fun x a1 a2 => ⟨by have := hs.2.1 x a1 a2; have := f2 x a1 a2; omega, by have := (hs.2.1 x a1 a2).2; have := f2 x a1 a2; omega⟩, fun j a1 a2 a3 a4 a5 => ?_⟩
             by_cases e : j = (i : Int)
             · rw [e] at a3 a5 ⊢
               have hb' := (hb i (by omega) (by omega) a3).2.2 0 (by omega) (by omega)
               rw [e60, e20] at f3
               have := f3 a5
               have := hs.2.1 _ hb'.1 hb'.2
               omega
             · have hb' := (hb j a1 (by omega) a3).2.2 0 (by omega) (by omega)
               have := hs.2.2 j a1 (by omega) a3 a4 a5
               have := f2 _ hb'.1 hb'.2
               omega)
  refine sn_q_aloadn sn_bc_27 dX2_addBallots_0 rfl ?_
  refine sn_q_getr (v := 64) sn_bc_27 dX2_addBallots_1 sn_oc_27 sn_pf_2_11 (by decide) rfl rfl (by decide) ?_
  refine sn_q_iloadn sn_bc_27 dX2_addBallots_4 rfl ?_
  refine sn_q_aald sn_bc_27 dX2_addBallots_5 sn_a64 (by omega) (by omega) ?_
  refine sn_q_invS sn_bc_27 dX2_addBallots_6 sn_oc_27 sn_px_2_95 sn_ps_2_95 (by decide) rfl rfl rfl (sp_clearRow (sn_b64 (by omega) (by omega)) (sn_p64 (by omega)) ?_)
  refine sn_q_iconst sn_bc_27 dX2_addBallots_9 rfl ?_
  refine sn_q_istn2 sn_bc_27 dX2_addBallots_10 rfl ?_
  refine loop 5 0 _ rfl ⟨fun a c g => if_neg (fun z => g z.1), fun x a1 a2 => ?_, fun j a1 a2 => by omega⟩
  dsimp only
  rw [if_pos ⟨rfl, a1, a2⟩]; omega
/-- the row of the candidates of w, sorted by their sums -/
def sn_or (σ : Int → Int → Int) (w : Int) : Prop := 0 ≤ σ 91 w ∧ σ 91 w ≤ 8 ∧ (∀ i, 0 ≤ i → i < σ 91 w → 0 ≤ σ (74 + w) i ∧ σ (74 + w) i < 8 ∧ sn_cd σ w (σ (74 + w) i)) ∧ (∀ x, 0 ≤ x → x < 8 → sn_cd σ w x → ∃ i, 0 ≤ i ∧ i < σ 91 w ∧ σ (74 + w) i = x) ∧ (∀ i j, 0 ≤ i → i < j → j < σ 91 w → σ (74 + w) i ≠ σ (74 + w) j) ∧ ∀ i, 0 ≤ i → i + 1 < σ 91 w → σ (65 + w) (σ (74 + w) (i + 1)) ≤ σ (65 + w) (σ (74 + w) i)
theorem sn_cd_t {σ τ : Int → Int → Int} {a w : Int} (e10 : τ 10 w = σ 10 w) (e11 : τ 11 w = σ 11 w) : sn_cd τ a w ↔ sn_cd σ a w := by unfold sn_cd; rw [e10, e11]
theorem sn_or_of {σ τ ρ : Int → Int → Int} {w r : Int} (h1 : 0 ≤ w) (h2 : w < 8) (h : sn_cds σ τ (74 + w) w 8 r) (g : sn_srt (sn_s τ 91 w r) ρ (74 + w) (65 + w) r) : (∀ a c, a ≠ 74 + w → ¬ (a = 91 ∧ c = w) → ρ a c = σ a c) ∧ sn_or ρ w := by
  obtain ⟨c1, c2, c3, c4, c5, c6⟩ := h
  obtain ⟨⟨g1, g2, g3, g4⟩, g5⟩ := g
  have hf : ∀ a c, a ≠ 74 + w → ¬ (a = 91 ∧ c = w) → ρ a c = σ a c := fun a c k1 k2 => by
    rw [g1 a c (Or.inl k1)]
    unfold sn_s
    rw [if_neg k2]
    exact c3 a c (Or.inl k1)
  have e91 : ρ 91 w = r := by rw [g1 91 w (Or.inl (by omega)), sn_s_e]
  have et : ∀ i, sn_s τ 91 w r (74 + w) i = τ (74 + w) i := fun i => sn_s_p (by omega)
  have es : ∀ x, ρ (65 + w) x = sn_s τ 91 w r (65 + w) x := fun x => g1 _ _ (Or.inl (by omega))
  have hc : ∀ x, sn_cd ρ w x ↔ sn_cd σ w x := fun x => sn_cd_t (hf 10 x (by omega) (by omega)) (hf 11 x (by omega) (by omega))
  refine ⟨hf, ?_⟩
  unfold sn_or
  rw [e91]
  refine ⟨c1, c2, fun i a1 a2 => ?_, fun x a1 a2 a3 => ?_, ?_, fun i a1 a2 => ?_⟩
  · obtain ⟨j, b1, b2, b3⟩ := g2 i a1 a2
    rw [b3, et]
    have := c4 j b1 b2
    exact ⟨this.1, this.2.1, (hc _).mpr this.2.2⟩
  · obtain ⟨j, b1, b2, b3⟩ := c5 x a1 a2 ((hc x).mp a3)
    obtain ⟨i, d1, d2, d3⟩ := g3 j b1 b2
    exact ⟨i, d1, d2, by rw [d3, et, b3]⟩
  · refine g4 (fun i j a1 a2 a3 => ?_)
    rw [et, et]
    have := c6 i j a1 a2 a3
    omega
  · rw [es, es]
    exact g5 i a1 a2
theorem sp_sortCandidates {n k : Nat} {Y : Nat → Nat × Nat} {X : Nat → Nat → sn_V} {σ : Int → Int → Int} {Q : Option sn_V → sn_H → Prop} {w : Int} (h1 : 0 ≤ w) (h2 : w < 8) (kk : ∀ τ, (∀ a c, a ≠ 74 + w → ¬ (a = 91 ∧ c = w) → τ a c = σ a c) → sn_or τ w → Q none (sn_hh n k Y τ X)) : sn_Wp 32 0 [sn_r 63, sn_i w] [] (sn_hh n k Y σ X) Q := by
  refine sn_q_aloadn sn_bc_32 dX2_sortCandidates_0 rfl ?_
  refine sn_q_getr (v := 91) sn_bc_32 dX2_sortCandidates_1 sn_oc_32 sn_pf_2_22 (by decide) rfl rfl (by decide) ?_
  refine sn_q_iloadn sn_bc_32 dX2_sortCandidates_4 rfl ?_
  refine sn_q_aloadn sn_bc_32 dX2_sortCandidates_5 rfl ?_
  refine sn_q_getr (v := 9) sn_bc_32 dX2_sortCandidates_6 sn_oc_32 sn_pf_2_43 (by decide) rfl rfl (by decide) ?_
  refine sn_q_iloadn sn_bc_32 dX2_sortCandidates_9 rfl ?_
  refine sn_q_aloadn sn_bc_32 dX2_sortCandidates_10 rfl ?_
  refine sn_q_getr (v := 73) sn_bc_32 dX2_sortCandidates_11 sn_oc_32 sn_pf_2_16 (by decide) rfl rfl (by decide) ?_
  refine sn_q_iloadn sn_bc_32 dX2_sortCandidates_14 rfl ?_
  refine sn_q_aald sn_bc_32 dX2_sortCandidates_15 sn_a73 (by omega) (by omega) ?_
  refine sn_q_invV sn_bc_32 dX2_sortCandidates_16 sn_oc_32 sn_pv_2_107 (by decide) rfl (by decide) (sn_h1 (by decide)) rfl rfl rfl rfl (sp_writeCandidates (P := 74 + w) (sn_b73 (by omega) (by omega)) (sn_p73 (by omega)) (by omega) (by omega) (fun r τ hc => ?_))
  refine sn_q_iast (P := 91) sn_bc_32 dX2_sortCandidates_19 sn_a91 rfl (by omega) (by omega) ?_
  refine sn_q_aloadn sn_bc_32 dX2_sortCandidates_20 rfl ?_
  refine sn_q_getr (v := 73) sn_bc_32 dX2_sortCandidates_21 sn_oc_32 sn_pf_2_16 (by decide) rfl rfl (by decide) ?_
  refine sn_q_iloadn sn_bc_32 dX2_sortCandidates_24 rfl ?_
  refine sn_q_aald sn_bc_32 dX2_sortCandidates_25 sn_a73 (by omega) (by omega) ?_
  refine sn_q_aloadn sn_bc_32 dX2_sortCandidates_26 rfl ?_
  refine sn_q_getr (v := 91) sn_bc_32 dX2_sortCandidates_27 sn_oc_32 sn_pf_2_22 (by decide) rfl rfl (by decide) ?_
  refine sn_q_iloadn sn_bc_32 dX2_sortCandidates_30 rfl ?_
  refine sn_q_iald (P := 91) sn_bc_32 dX2_sortCandidates_31 sn_a91 rfl (by omega) (by omega) ?_
  rw [sn_s_e]
  refine sn_q_aloadn sn_bc_32 dX2_sortCandidates_32 rfl ?_
  refine sn_q_getr (v := 64) sn_bc_32 dX2_sortCandidates_33 sn_oc_32 sn_pf_2_11 (by decide) rfl rfl (by decide) ?_
  refine sn_q_iloadn sn_bc_32 dX2_sortCandidates_36 rfl ?_
  refine sn_q_aald sn_bc_32 dX2_sortCandidates_37 sn_a64 (by omega) (by omega) ?_
  refine sn_q_invS sn_bc_32 dX2_sortCandidates_38 sn_oc_32 sn_px_2_113 sn_ps_2_113 (by decide) rfl rfl rfl (sp_sortDown (P := 74 + w) (P2 := 65 + w) (m := r) (sn_b73 (by omega) (by omega)) (sn_p73 (by omega)) (sn_b64 (by omega) (by omega)) (sn_p64 (by omega)) (by omega) hc.1 hc.2.1 (fun i a1 a2 => ?_) (fun ρ hs => ?_))
  · rw [sn_s_p (by omega)]; have := hc.2.2.2.1 i a1 a2; omega
  refine sn_q_vret sn_bc_32 dX2_sortCandidates_41 rfl ?_
  exact kk ρ (sn_or_of h1 h2 hc hs).1 (sn_or_of h1 h2 hc hs).2
