theorem sp_isWithin {h : sn_H} {Q : Option sn_V → sn_H → Prop} {v lo hi : Int} (k1 : lo ≤ v → v ≤ hi → Q (some (sn_i 1)) h) (k2 : ¬ (lo ≤ v ∧ v ≤ hi) → Q (some (sn_i 0)) h) : sn_Wp 13 0 [sn_i v, sn_i lo, sn_i hi] [] h Q := by
  refine sn_q_iloadn sn_bc_13 dX9_isWithin_0 rfl ?_
  refine sn_q_iloadn sn_bc_13 dX9_isWithin_1 rfl ?_
  refine sn_q_iclt (t := 14) sn_bc_13 dX9_isWithin_2 rfl (fun c_2 => ?_) (fun c_2 => ?_)
  · refine sn_q_iconst sn_bc_13 dX9_isWithin_14 rfl ?_
    refine sn_q_zret sn_bc_13 dX9_isWithin_15 rfl (by omega) ?_
    first | exact k1 (by omega) (by omega) | exact k2 (by omega)
  · refine sn_q_iloadn sn_bc_13 dX9_isWithin_5 rfl ?_
    refine sn_q_iloadn sn_bc_13 dX9_isWithin_6 rfl ?_
    refine sn_q_icgt (t := 14) sn_bc_13 dX9_isWithin_7 rfl (fun c_7 => ?_) (fun c_7 => ?_)
    · refine sn_q_iconst sn_bc_13 dX9_isWithin_14 rfl ?_
      refine sn_q_zret sn_bc_13 dX9_isWithin_15 rfl (by omega) ?_
      first | exact k1 (by omega) (by omega) | exact k2 (by omega)
    · refine sn_q_iconst sn_bc_13 dX9_isWithin_10 rfl ?_
      refine sn_q_goto (t := 15) sn_bc_13 dX9_isWithin_11 rfl ?_
      refine sn_q_zret sn_bc_13 dX9_isWithin_15 rfl (by omega) ?_
      first | exact k1 (by omega) (by omega) | exact k2 (by omega)
theorem sp_needPhase {n k : Nat} {Y : Nat → Nat × Nat} {X : Nat → Nat → sn_V} {σ : Int → Int → Int} {Q : Option sn_V → sn_H → Prop} {w : Int} (h1 : σ 2 10 = w) (kk : Q none (sn_hh n k Y σ X)) : sn_Wp 14 0 [sn_r 2, sn_i w] [] (sn_hh n k Y σ X) Q := by
  refine sn_q_aloadn sn_bc_14 dX9_needPhase_0 rfl ?_
  refine sn_q_geti (P := 2) (J := 10) sn_bc_14 dX9_needPhase_1 sn_oc_14 sn_pf_9_84 (by decide) rfl rfl rfl rfl ?_
  refine sn_q_iloadn sn_bc_14 dX9_needPhase_4 rfl ?_
  refine sn_q_iceq (t := 19) sn_bc_14 dX9_needPhase_5 rfl (fun c_5 => ?_) (fun c_5 => ?_)
  · refine sn_q_vret sn_bc_14 dX9_needPhase_19 rfl ?_
    exact kk
  · exfalso; omega
theorem sp_needLand {n k : Nat} {Y : Nat → Nat × Nat} {X : Nat → Nat → sn_V} {σ : Int → Int → Int} {Q : Option sn_V → sn_H → Prop} {w : Int} (h1 : 0 ≤ w) (h2 : w < σ 3 0) (h3 : σ 3 0 ≤ 8) (kk : Q none (sn_hh n k Y σ X)) : sn_Wp 18 0 [sn_r 2, sn_i w] [] (sn_hh n k Y σ X) Q := by
  refine sn_q_iloadn sn_bc_18 dX9_needLand_0 rfl ?_
  refine sn_q_iconst sn_bc_18 dX9_needLand_1 rfl ?_
  refine sn_q_aloadn sn_bc_18 dX9_needLand_2 rfl ?_
  refine sn_q_getr (v := 3) sn_bc_18 dX9_needLand_3 sn_oc_18 sn_pf_9_38 (by decide) rfl rfl (by decide) ?_
  refine sn_q_geti (P := 3) (J := 0) sn_bc_18 dX9_needLand_6 sn_oc_18 sn_pf_9_118 (by decide) rfl rfl rfl rfl ?_
  refine sn_q_iconst sn_bc_18 dX9_needLand_9 rfl ?_
  refine sn_q_isub sn_bc_18 dX9_needLand_10 (by omega) (by omega) ?_
  refine sn_q_invS sn_bc_18 dX9_needLand_11 sn_oc_18 sn_px_9_103 sn_ps_9_103 (by decide) rfl rfl rfl (sp_isWithin (fun w1 w2 => ?_) (fun w => ?_))
  · refine sn_q_ifne (t := 28) sn_bc_18 dX9_needLand_14 rfl (fun _ => ?_) (fun c => absurd (by decide) c)
    refine sn_q_vret sn_bc_18 dX9_needLand_28 rfl ?_
    exact kk
  · refine sn_q_ifne (t := 28) sn_bc_18 dX9_needLand_14 rfl (fun c => absurd c (by decide)) (fun _ => ?_)
    exfalso; omega
theorem sp_needSong {n k : Nat} {Y : Nat → Nat × Nat} {X : Nat → Nat → sn_V} {σ : Int → Int → Int} {Q : Option sn_V → sn_H → Prop} {w : Int} (h1 : 0 ≤ w) (h2 : w < 8) (h3 : σ 10 w ≠ 0) (kk : Q none (sn_hh n k Y σ X)) : sn_Wp 76 0 [sn_r 2, sn_i w] [] (sn_hh n k Y σ X) Q := by
  refine sn_q_iloadn sn_bc_76 dX9_needSong_0 rfl ?_
  refine sn_q_iconst sn_bc_76 dX9_needSong_1 rfl ?_
  refine sn_q_bipush sn_bc_76 dX9_needSong_2 rfl ?_
  refine sn_q_invS sn_bc_76 dX9_needSong_4 sn_oc_76 sn_px_9_103 sn_ps_9_103 (by decide) rfl rfl rfl (sp_isWithin (fun w1 w2 => ?_) (fun w => ?_))
  · refine sn_q_ifeq (t := 22) sn_bc_76 dX9_needSong_7 rfl (fun c => absurd c (by decide)) (fun _ => ?_)
    refine sn_q_aloadn sn_bc_76 dX9_needSong_10 rfl ?_
    refine sn_q_getr (v := 9) sn_bc_76 dX9_needSong_11 sn_oc_76 sn_pf_9_42 (by decide) rfl rfl (by decide) ?_
    refine sn_q_getr (v := 10) sn_bc_76 dX9_needSong_14 sn_oc_76 sn_pf_9_157 (by decide) rfl rfl (by decide) ?_
    refine sn_q_iloadn sn_bc_76 dX9_needSong_17 rfl ?_
    refine sn_q_bald (P := 10) sn_bc_76 dX9_needSong_18 sn_a10 rfl (by omega) (by omega) ?_
    refine sn_q_ifne (t := 33) sn_bc_76 dX9_needSong_19 rfl (fun c_19 => ?_) (fun c_19 => ?_)
    · refine sn_q_vret sn_bc_76 dX9_needSong_33 rfl ?_
      exact kk
    · exfalso; omega
  · refine sn_q_ifeq (t := 22) sn_bc_76 dX9_needSong_7 rfl (fun _ => ?_) (fun c => absurd (by decide) c)
    exfalso; omega
theorem sp_numberOf {h : sn_H} {Q : Option sn_V → sn_H → Prop} {a b : Int} (h1 : 0 ≤ a) (h2 : a < 8) (h3 : 0 ≤ b) (h4 : b < 5) (kk : Q (some (sn_i (a * 5 + b))) h) : sn_Wp 26 0 [sn_i a, sn_i b] [] h Q := by
  refine sn_q_iloadn sn_bc_26 dX0_numberOf_0 rfl ?_
  refine sn_q_iconst sn_bc_26 dX0_numberOf_1 rfl ?_
  refine sn_q_imul sn_bc_26 dX0_numberOf_2 (by omega) (by omega) ?_
  refine sn_q_iloadn sn_bc_26 dX0_numberOf_3 rfl ?_
  refine sn_q_iadd sn_bc_26 dX0_numberOf_4 (by omega) (by omega) ?_
  refine sn_q_iret sn_bc_26 dX0_numberOf_5 rfl ?_
  exact kk
theorem sp_lineOf {h : sn_H} {Q : Option sn_V → sn_H → Prop} {a b : Int} (h1 : 0 ≤ a) (h2 : a < 8) (h3 : 0 ≤ b) (h4 : b < 10) (kk : Q (some (sn_i (a * 10 + b))) h) : sn_Wp 48 0 [sn_i a, sn_i b] [] h Q := by
  refine sn_q_iloadn sn_bc_48 dX4_lineOf_0 rfl ?_
  refine sn_q_bipush sn_bc_48 dX4_lineOf_1 rfl ?_
  refine sn_q_imul sn_bc_48 dX4_lineOf_3 (by omega) (by omega) ?_
  refine sn_q_iloadn sn_bc_48 dX4_lineOf_4 rfl ?_
  refine sn_q_iadd sn_bc_48 dX4_lineOf_5 (by omega) (by omega) ?_
  refine sn_q_iret sn_bc_48 dX4_lineOf_6 rfl ?_
  exact kk
theorem sp_running {n k : Nat} {Y : Nat → Nat × Nat} {X : Nat → Nat → sn_V} {σ : Int → Int → Int} {Q : Option sn_V → sn_H → Prop} (h1 : 0 ≤ σ 9 0) (h2 : σ 9 0 ≤ 8) (h3 : 0 ≤ σ 9 1) (h4 : σ 9 1 ≤ 8) (kk : Q (some (sn_i (σ 9 0 - σ 9 1))) (sn_hh n k Y σ X)) : sn_Wp 72 0 [sn_r 9] [] (sn_hh n k Y σ X) Q := by
  refine sn_q_aloadn sn_bc_72 dX7_running_0 rfl ?_
  refine sn_q_geti (P := 9) (J := 0) sn_bc_72 dX7_running_1 sn_oc_72 sn_pf_7_9 (by decide) rfl rfl rfl rfl ?_
  refine sn_q_aloadn sn_bc_72 dX7_running_4 rfl ?_
  refine sn_q_geti (P := 9) (J := 1) sn_bc_72 dX7_running_5 sn_oc_72 sn_pf_7_15 (by decide) rfl rfl rfl rfl ?_
  refine sn_q_isub sn_bc_72 dX7_running_8 (by omega) (by omega) ?_
  refine sn_q_iret sn_bc_72 dX7_running_9 rfl ?_
  exact kk
theorem sp_isRunning {n k : Nat} {Y : Nat → Nat × Nat} {X : Nat → Nat → sn_V} {σ : Int → Int → Int} {Q : Option sn_V → sn_H → Prop} {w : Int} (h1 : 0 ≤ w) (h2 : w < 8) (k1 : σ 10 w ≠ 0 → σ 11 w = 0 → Q (some (sn_i 1)) (sn_hh n k Y σ X)) (k2 : ¬ (σ 10 w ≠ 0 ∧ σ 11 w = 0) → Q (some (sn_i 0)) (sn_hh n k Y σ X)) : sn_Wp 51 0 [sn_r 9, sn_i w] [] (sn_hh n k Y σ X) Q := by
  refine sn_q_aloadn sn_bc_51 dX7_isRunning_0 rfl ?_
  refine sn_q_getr (v := 10) sn_bc_51 dX7_isRunning_1 sn_oc_51 sn_pf_7_18 (by decide) rfl rfl (by decide) ?_
  refine sn_q_iloadn sn_bc_51 dX7_isRunning_4 rfl ?_
  refine sn_q_bald (P := 10) sn_bc_51 dX7_isRunning_5 sn_a10 rfl (by omega) (by omega) ?_
  refine sn_q_ifeq (t := 22) sn_bc_51 dX7_isRunning_6 rfl (fun c_6 => ?_) (fun c_6 => ?_)
  · refine sn_q_iconst sn_bc_51 dX7_isRunning_22 rfl ?_
    refine sn_q_zret sn_bc_51 dX7_isRunning_23 rfl (by omega) ?_
    first | exact k1 (by omega) (by omega) | exact k2 (by omega)
  · refine sn_q_aloadn sn_bc_51 dX7_isRunning_9 rfl ?_
    refine sn_q_getr (v := 11) sn_bc_51 dX7_isRunning_10 sn_oc_51 sn_pf_7_22 (by decide) rfl rfl (by decide) ?_
    refine sn_q_iloadn sn_bc_51 dX7_isRunning_13 rfl ?_
    refine sn_q_bald (P := 11) sn_bc_51 dX7_isRunning_14 sn_a11 rfl (by omega) (by omega) ?_
    refine sn_q_ifne (t := 22) sn_bc_51 dX7_isRunning_15 rfl (fun c_15 => ?_) (fun c_15 => ?_)
    · refine sn_q_iconst sn_bc_51 dX7_isRunning_22 rfl ?_
      refine sn_q_zret sn_bc_51 dX7_isRunning_23 rfl (by omega) ?_
      first | exact k1 (by omega) (by omega) | exact k2 (by omega)
    · refine sn_q_iconst sn_bc_51 dX7_isRunning_18 rfl ?_
      refine sn_q_goto (t := 23) sn_bc_51 dX7_isRunning_19 rfl ?_
      refine sn_q_zret sn_bc_51 dX7_isRunning_23 rfl (by omega) ?_
      first | exact k1 (by omega) (by omega) | exact k2 (by omega)
theorem sp_isCandidate {n k : Nat} {Y : Nat → Nat × Nat} {X : Nat → Nat → sn_V} {σ : Int → Int → Int} {Q : Option sn_V → sn_H → Prop} {a w : Int} (h1 : 0 ≤ w) (h2 : w < 8) (k1 : w ≠ a → σ 10 w ≠ 0 → σ 11 w = 0 → Q (some (sn_i 1)) (sn_hh n k Y σ X)) (k2 : ¬ (w ≠ a ∧ σ 10 w ≠ 0 ∧ σ 11 w = 0) → Q (some (sn_i 0)) (sn_hh n k Y σ X)) : sn_Wp 34 0 [sn_r 9, sn_i a, sn_i w] [] (sn_hh n k Y σ X) Q := by
  refine sn_q_iloadn sn_bc_34 dX7_isCandidate_0 rfl ?_
  refine sn_q_iloadn sn_bc_34 dX7_isCandidate_1 rfl ?_
  refine sn_q_iceq (t := 27) sn_bc_34 dX7_isCandidate_2 rfl (fun c_2 => ?_) (fun c_2 => ?_)
  · refine sn_q_iconst sn_bc_34 dX7_isCandidate_27 rfl ?_
    refine sn_q_zret sn_bc_34 dX7_isCandidate_28 rfl (by omega) ?_
    first | exact k1 (by omega) (by omega) (by omega) | exact k2 (by omega)
  · refine sn_q_aloadn sn_bc_34 dX7_isCandidate_5 rfl ?_
    refine sn_q_getr (v := 10) sn_bc_34 dX7_isCandidate_6 sn_oc_34 sn_pf_7_18 (by decide) rfl rfl (by decide) ?_
    refine sn_q_iloadn sn_bc_34 dX7_isCandidate_9 rfl ?_
    refine sn_q_bald (P := 10) sn_bc_34 dX7_isCandidate_10 sn_a10 rfl (by omega) (by omega) ?_
    refine sn_q_ifeq (t := 27) sn_bc_34 dX7_isCandidate_11 rfl (fun c_11 => ?_) (fun c_11 => ?_)
    · refine sn_q_iconst sn_bc_34 dX7_isCandidate_27 rfl ?_
      refine sn_q_zret sn_bc_34 dX7_isCandidate_28 rfl (by omega) ?_
      first | exact k1 (by omega) (by omega) (by omega) | exact k2 (by omega)
    · refine sn_q_aloadn sn_bc_34 dX7_isCandidate_14 rfl ?_
      refine sn_q_getr (v := 11) sn_bc_34 dX7_isCandidate_15 sn_oc_34 sn_pf_7_22 (by decide) rfl rfl (by decide) ?_
      refine sn_q_iloadn sn_bc_34 dX7_isCandidate_18 rfl ?_
      refine sn_q_bald (P := 11) sn_bc_34 dX7_isCandidate_19 sn_a11 rfl (by omega) (by omega) ?_
      refine sn_q_ifne (t := 27) sn_bc_34 dX7_isCandidate_20 rfl (fun c_20 => ?_) (fun c_20 => ?_)
      · refine sn_q_iconst sn_bc_34 dX7_isCandidate_27 rfl ?_
        refine sn_q_zret sn_bc_34 dX7_isCandidate_28 rfl (by omega) ?_
        first | exact k1 (by omega) (by omega) (by omega) | exact k2 (by omega)
      · refine sn_q_iconst sn_bc_34 dX7_isCandidate_23 rfl ?_
        refine sn_q_goto (t := 28) sn_bc_34 dX7_isCandidate_24 rfl ?_
        refine sn_q_zret sn_bc_34 dX7_isCandidate_28 rfl (by omega) ?_
        first | exact k1 (by omega) (by omega) (by omega) | exact k2 (by omega)
theorem sp_canRead {n k : Nat} {Y : Nat → Nat × Nat} {X : Nat → Nat → sn_V} {σ : Int → Int → Int} {Q : Option sn_V → sn_H → Prop} {w : Int} (h1 : 0 ≤ w) (h2 : w < 8) (k1 : σ 228 w = 0 → σ 229 w = 0 → Q (some (sn_i 1)) (sn_hh n k Y σ X)) (k2 : ¬ (σ 228 w = 0 ∧ σ 229 w = 0) → Q (some (sn_i 0)) (sn_hh n k Y σ X)) : sn_Wp 100 0 [sn_r 217, sn_i w] [] (sn_hh n k Y σ X) Q := by
  refine sn_q_aloadn sn_bc_100 dX1_canRead_0 rfl ?_
  refine sn_q_getr (v := 228) sn_bc_100 dX1_canRead_1 sn_oc_100 sn_pf_1_20 (by decide) rfl rfl (by decide) ?_
  refine sn_q_iloadn sn_bc_100 dX1_canRead_4 rfl ?_
  refine sn_q_bald (P := 228) sn_bc_100 dX1_canRead_5 sn_a228 rfl (by omega) (by omega) ?_
  refine sn_q_ifne (t := 22) sn_bc_100 dX1_canRead_6 rfl (fun c_6 => ?_) (fun c_6 => ?_)
  · refine sn_q_iconst sn_bc_100 dX1_canRead_22 rfl ?_
    refine sn_q_zret sn_bc_100 dX1_canRead_23 rfl (by omega) ?_
    first | exact k1 (by omega) (by omega) | exact k2 (by omega)
  · refine sn_q_aloadn sn_bc_100 dX1_canRead_9 rfl ?_
    refine sn_q_getr (v := 229) sn_bc_100 dX1_canRead_10 sn_oc_100 sn_pf_1_24 (by decide) rfl rfl (by decide) ?_
    refine sn_q_iloadn sn_bc_100 dX1_canRead_13 rfl ?_
    refine sn_q_bald (P := 229) sn_bc_100 dX1_canRead_14 sn_a229 rfl (by omega) (by omega) ?_
    refine sn_q_ifne (t := 22) sn_bc_100 dX1_canRead_15 rfl (fun c_15 => ?_) (fun c_15 => ?_)
    · refine sn_q_iconst sn_bc_100 dX1_canRead_22 rfl ?_
      refine sn_q_zret sn_bc_100 dX1_canRead_23 rfl (by omega) ?_
      first | exact k1 (by omega) (by omega) | exact k2 (by omega)
    · refine sn_q_iconst sn_bc_100 dX1_canRead_18 rfl ?_
      refine sn_q_goto (t := 23) sn_bc_100 dX1_canRead_19 rfl ?_
      refine sn_q_zret sn_bc_100 dX1_canRead_23 rfl (by omega) ?_
      first | exact k1 (by omega) (by omega) | exact k2 (by omega)
theorem sn_ind {P : Nat → Prop} (h : ∀ n, (∀ m, m < n → P m) → P n) : ∀ n, P n := fun n => Nat.strongRecOn n h
def sn_sum (f : Int → Int) : Nat → Int
  | 0 => 0
  | m + 1 => sn_sum f m + f m
theorem sn_sum_bd {f : Int → Int} {B : Int} (hB : 0 ≤ B) (hf : ∀ i, -B ≤ f i ∧ f i ≤ B) : ∀ m : Nat, -(m * B) ≤ sn_sum f m ∧ sn_sum f m ≤ m * B
  | 0 => by simp [sn_sum]
  | m + 1 => by
    have h := sn_sum_bd hB hf m
    have h2 := hf m
    have e : ((m + 1 : Nat) : Int) * B = m * B + B := by rw [Int.natCast_add, Int.add_mul]; simp
    rw [e]
    show -(_) ≤ sn_sum f m + f m ∧ sn_sum f m + f m ≤ _
    omega
theorem sn_sum_b {f : Int → Int} {B : Int} : ∀ m : Nat, (∀ i : Nat, i < m → 0 ≤ f i ∧ f i ≤ B) → 0 ≤ sn_sum f m ∧ sn_sum f m ≤ m * B
  | 0, _ => by simp [sn_sum]
  | m + 1, hf => by
    have h := sn_sum_b m (fun i g => hf i (by omega))
    have h2 := hf m (by omega)
    have e : ((m + 1 : Nat) : Int) * B = m * B + B := by rw [Int.natCast_add, Int.add_mul]; simp
    rw [e]
    show 0 ≤ sn_sum f m + f m ∧ sn_sum f m + f m ≤ _
    omega
theorem sn_sum_c {f g : Int → Int} : ∀ m : Nat, (∀ i : Nat, i < m → f i = g i) → sn_sum f m = sn_sum g m
  | 0, _ => rfl
  | m + 1, h => by
    show sn_sum f m + f m = sn_sum g m + g m
    rw [sn_sum_c m (fun i q => h i (by omega)), h m (by omega)]
theorem sp_juryOf {n k : Nat} {Y : Nat → Nat × Nat} {X : Nat → Nat → sn_V} {σ : Int → Int → Int} {Q : Option sn_V → sn_H → Prop} {w : Int} (h1 : 0 ≤ w) (h2 : w < 8) (hq : ∀ l, 0 ≤ l → l < 8 → 0 ≤ σ (219 + l) w ∧ σ (219 + l) w ≤ 12) (kk : Q (some (sn_i (sn_sum (fun l => σ (219 + l) w) 8))) (sn_hh n k Y σ X)) : sn_Wp 79 0 [sn_r 217, sn_i w, sn_u, sn_u] [] (sn_hh n k Y σ X) Q := by
  have loop : ∀ (d : Nat) (i : Nat), i + d = 8 → sn_Wp 79 4 [sn_r 217, sn_i w, sn_i (sn_sum (fun l => σ (219 + l) w) i), sn_i (i : Int)] [] (sn_hh n k Y σ X) Q := by
    refine sn_ind (fun d ih => ?_)
    intro i hi
    have hb2 : (i : Int) < 8 → _ := fun g => hq i (by omega) g
    have hb := fun g : (i : Int) ≤ 8 => sn_sum_b (f := fun l => σ (219 + l) w) (B := 12) i (fun j g2 => hq j (by omega) (by omega))
    refine sn_q_iloadn sn_bc_79 dX1_juryOf_4 rfl ?_
    refine sn_q_bipush sn_bc_79 dX1_juryOf_5 rfl ?_
    refine sn_q_icge (t := 27) sn_bc_79 dX1_juryOf_7 rfl (fun c_7 => ?_) (fun c_7 => ?_)
    · refine sn_q_iloadn sn_bc_79 dX1_juryOf_27 rfl ?_
      refine sn_q_iret sn_bc_79 dX1_juryOf_28 rfl ?_
      obtain rfl : i = 8 := by omega
      exact kk
    · have hb2 := hb2 (by omega)
      have hb := hb (by omega)
      refine sn_q_iloadn sn_bc_79 dX1_juryOf_10 rfl ?_
      refine sn_q_aloadn sn_bc_79 dX1_juryOf_11 rfl ?_
      refine sn_q_getr (v := 218) sn_bc_79 dX1_juryOf_12 sn_oc_79 sn_pf_1_11 (by decide) rfl rfl (by decide) ?_
      refine sn_q_iloadn sn_bc_79 dX1_juryOf_15 rfl ?_
      refine sn_q_aald sn_bc_79 dX1_juryOf_16 sn_a218 (by omega) (by omega) ?_
      refine sn_q_iloadn sn_bc_79 dX1_juryOf_17 rfl ?_
      refine sn_q_iald sn_bc_79 dX1_juryOf_18 (sn_b218 (by omega) (by omega)) (sn_p218 (by omega)) (by omega) (by omega) ?_
      refine sn_q_iadd sn_bc_79 dX1_juryOf_19 (by omega) (by omega) ?_
      refine sn_q_istn2 sn_bc_79 dX1_juryOf_20 rfl ?_
      refine sn_q_inc3 sn_bc_79 dX1_juryOf_21 rfl (by omega) (by omega) ?_
      refine sn_q_goto (t := 4) sn_bc_79 dX1_juryOf_24 rfl ?_
      exact ih (d - 1) (by omega) (i + 1) (by omega)
  refine sn_q_iconst sn_bc_79 dX1_juryOf_0 rfl ?_
  refine sn_q_istn2 sn_bc_79 dX1_juryOf_1 rfl ?_
  refine sn_q_iconst sn_bc_79 dX1_juryOf_2 rfl ?_
  refine sn_q_istn3 sn_bc_79 dX1_juryOf_3 rfl ?_
  exact loop 8 0 rfl
