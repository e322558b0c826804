theorem sn_s_p {σ : Int → Int → Int} {P J z a b : Int} (h : a ≠ P) : sn_s σ P J z a b = σ a b := if_neg (fun q => h q.1)
theorem sn_s_j {σ : Int → Int → Int} {P J z a b : Int} (h : b ≠ J) : sn_s σ P J z a b = σ a b := if_neg (fun q => h q.2)
theorem sn_sg {M pc n k : Nat} {lv st : List sn_V} {Y : Nat → Nat × Nat} {X : Nat → Nat → sn_V} {σ σ' : Int → Int → Int} {Q : Option sn_V → sn_H → Prop} (e : σ = σ') (kk : sn_Wp M pc lv st (sn_hh n k Y σ' X) Q) : sn_Wp M pc lv st (sn_hh n k Y σ X) Q := by rw [e]; exact kk
theorem sn_qs {n k : Nat} {r : Option sn_V} {Y : Nat → Nat × Nat} {X : Nat → Nat → sn_V} {σ σ' : Int → Int → Int} {Q : Option sn_V → sn_H → Prop} (e : σ = σ') (kk : Q r (sn_hh n k Y σ' X)) : Q r (sn_hh n k Y σ X) := by rw [e]; exact kk
theorem sn_s_e {σ : Int → Int → Int} {P J z : Int} : sn_s σ P J z P J = z := if_pos ⟨rfl, rfl⟩
theorem sp_Lands_add {n k : Nat} {Y : Nat → Nat × Nat} {X : Nat → Nat → sn_V} {σ : Int → Int → Int} {Q : Option sn_V → sn_H → Prop} {a b : Int} (h1 : 0 ≤ σ 3 0) (h2 : σ 3 0 < 8) (kk : Q (some (sn_i (σ 3 0))) (sn_hh n k Y (sn_s (sn_s (sn_s (sn_s σ (4) (σ 3 0) (a)) (5) (σ 3 0) (b)) (6) (σ 3 0) (100)) (3) (0) (σ 3 0 + 1)) X)) : sn_Wp 15 0 [sn_r 3, sn_i a, sn_i b] [] (sn_hh n k Y σ X) Q := by
  refine sn_q_aloadn sn_bc_15 dX3_add_0 rfl ?_
  refine sn_q_geti (P := 3) (J := 0) sn_bc_15 dX3_add_1 sn_oc_15 sn_pf_3_9 (by decide) rfl rfl rfl rfl ?_
  refine sn_q_bipush sn_bc_15 dX3_add_4 rfl ?_
  refine sn_q_iclt (t := 11) sn_bc_15 dX3_add_6 rfl (fun c_6 => ?_) (fun c_6 => ?_)
  · refine sn_q_aloadn sn_bc_15 dX3_add_11 rfl ?_
    refine sn_q_getr (v := 4) sn_bc_15 dX3_add_12 sn_oc_15 sn_pf_3_15 (by decide) rfl rfl (by decide) ?_
    refine sn_q_aloadn sn_bc_15 dX3_add_15 rfl ?_
    refine sn_q_geti (P := 3) (J := 0) sn_bc_15 dX3_add_16 sn_oc_15 sn_pf_3_9 (by decide) rfl rfl rfl rfl ?_
    refine sn_q_iloadn sn_bc_15 dX3_add_19 rfl ?_
    refine sn_q_iast (P := 4) sn_bc_15 dX3_add_20 sn_a4 rfl (by omega) (by omega) ?_
    refine sn_q_aloadn sn_bc_15 dX3_add_21 rfl ?_
    refine sn_q_getr (v := 5) sn_bc_15 dX3_add_22 sn_oc_15 sn_pf_3_19 (by decide) rfl rfl (by decide) ?_
    refine sn_q_aloadn sn_bc_15 dX3_add_25 rfl ?_
    refine sn_q_geti (P := 3) (J := 0) sn_bc_15 dX3_add_26 sn_oc_15 sn_pf_3_9 (by decide) rfl rfl rfl rfl ?_
    rw [sn_s_p (by omega)]
    refine sn_q_iloadn sn_bc_15 dX3_add_29 rfl ?_
    refine sn_q_iast (P := 5) sn_bc_15 dX3_add_30 sn_a5 rfl (by omega) (by omega) ?_
    refine sn_q_aloadn sn_bc_15 dX3_add_31 rfl ?_
    refine sn_q_getr (v := 6) sn_bc_15 dX3_add_32 sn_oc_15 sn_pf_3_22 (by decide) rfl rfl (by decide) ?_
    refine sn_q_aloadn sn_bc_15 dX3_add_35 rfl ?_
    refine sn_q_geti (P := 3) (J := 0) sn_bc_15 dX3_add_36 sn_oc_15 sn_pf_3_9 (by decide) rfl rfl rfl rfl ?_
    rw [sn_s_p (by omega), sn_s_p (by omega)]
    refine sn_q_bipush sn_bc_15 dX3_add_39 rfl ?_
    refine sn_q_iast (P := 6) sn_bc_15 dX3_add_41 sn_a6 rfl (by omega) (by omega) ?_
    refine sn_q_aloadn sn_bc_15 dX3_add_42 rfl ?_
    refine sn_q_dup sn_bc_15 dX3_add_43 rfl ?_
    refine sn_q_geti (P := 3) (J := 0) sn_bc_15 dX3_add_44 sn_oc_15 sn_pf_3_9 (by decide) rfl rfl rfl rfl ?_
    rw [sn_s_p (by omega), sn_s_p (by omega), sn_s_p (by omega)]
    refine sn_q_iconst sn_bc_15 dX3_add_47 rfl ?_
    refine sn_q_iadd sn_bc_15 dX3_add_48 (by omega) (by omega) ?_
    refine sn_q_puti (P := 3) (J := 0) sn_bc_15 dX3_add_49 sn_oc_15 sn_pf_3_9 (by decide) rfl rfl rfl rfl rfl rfl ?_
    refine sn_q_aloadn sn_bc_15 dX3_add_52 rfl ?_
    refine sn_q_geti (P := 3) (J := 0) sn_bc_15 dX3_add_53 sn_oc_15 sn_pf_3_9 (by decide) rfl rfl rfl rfl ?_
    rw [sn_s_e]
    refine sn_q_iconst sn_bc_15 dX3_add_56 rfl ?_
    refine sn_q_isub sn_bc_15 dX3_add_57 (by omega) (by omega) ?_
    refine sn_q_iret sn_bc_15 dX3_add_58 rfl ?_
    first
      | exfalso; omega
      | (have e : σ 3 0 + 1 - 1 = σ 3 0 := by omega
         first | (rw [e]; exact kk) | exact kk)
  · refine sn_q_iconst sn_bc_15 dX3_add_9 rfl ?_
    refine sn_q_iret sn_bc_15 dX3_add_10 rfl ?_
    first
      | exfalso; omega
      | (have e : σ 3 0 + 1 - 1 = σ 3 0 := by omega
         first | (rw [e]; exact kk) | exact kk)
/-- a row of the class: its length -/
theorem sn_q_alenC {M pc n k q len : Nat} {cc : ByteArray} {lv st : List sn_V} {Y : Nat → Nat × Nat} {X : Nat → Nat → sn_V} {σ : Int → Int → Int} {Q : Option sn_V → sn_H → Prop} {L : Int} (hb : sn_bc M = cc) (hd : decode cc pc = .ok (.arraylength, 1)) (ha : sn_ai q len) (hL : (len : Int) = L) (kk : sn_Wp M (pc + 1) lv (sn_i L :: st) (sn_hh n k Y σ X) Q) : sn_Wp M pc lv (sn_r q :: st) (sn_hh n k Y σ X) Q := by
  subst hL
  refine sn_q_alen hb hd (sn_h1 ha.1) (by rw [sn_hT ha.1, ha.2.1]) ?_
  rw [sn_hT ha.1, ha.2.1]
  exact kk
theorem sp_Songs_add {n k : Nat} {Y : Nat → Nat × Nat} {X : Nat → Nat → sn_V} {σ : Int → Int → Int} {Q : Option sn_V → sn_H → Prop} {w x y z : Int} (h1 : 0 ≤ w) (h2 : w < 8) (h3 : 0 ≤ σ 9 0) (h4 : σ 9 0 ≤ 8) (kk : Q none (sn_hh n k Y (sn_s (sn_s (sn_s (sn_s (sn_s σ (10) (w) (1)) (12) (w) (x)) (13) (w) (y)) (14) (w) (z)) (9) (0) (σ 9 0 + 1)) X)) : sn_Wp 19 0 [sn_r 9, sn_i w, sn_i x, sn_i y, sn_i z] [] (sn_hh n k Y σ X) Q := by
  refine sn_q_aloadn sn_bc_19 dX7_add_0 rfl ?_
  refine sn_q_getr (v := 10) sn_bc_19 dX7_add_1 sn_oc_19 sn_pf_7_18 (by decide) rfl rfl (by decide) ?_
  refine sn_q_iloadn sn_bc_19 dX7_add_4 rfl ?_
  refine sn_q_iconst sn_bc_19 dX7_add_5 rfl ?_
  refine sn_q_bast (P := 10) sn_bc_19 dX7_add_6 sn_a10 rfl (by omega) (by omega) (by omega) ?_
  refine sn_q_aloadn sn_bc_19 dX7_add_7 rfl ?_
  refine sn_q_getr (v := 12) sn_bc_19 dX7_add_8 sn_oc_19 sn_pf_7_25 (by decide) rfl rfl (by decide) ?_
  refine sn_q_iloadn sn_bc_19 dX7_add_11 rfl ?_
  refine sn_q_iloadn sn_bc_19 dX7_add_12 rfl ?_
  refine sn_q_iast (P := 12) sn_bc_19 dX7_add_13 sn_a12 rfl (by omega) (by omega) ?_
  refine sn_q_aloadn sn_bc_19 dX7_add_14 rfl ?_
  refine sn_q_getr (v := 13) sn_bc_19 dX7_add_15 sn_oc_19 sn_pf_7_29 (by decide) rfl rfl (by decide) ?_
  refine sn_q_iloadn sn_bc_19 dX7_add_18 rfl ?_
  refine sn_q_iloadn sn_bc_19 dX7_add_19 rfl ?_
  refine sn_q_iast (P := 13) sn_bc_19 dX7_add_20 sn_a13 rfl (by omega) (by omega) ?_
  refine sn_q_aloadn sn_bc_19 dX7_add_21 rfl ?_
  refine sn_q_getr (v := 14) sn_bc_19 dX7_add_22 sn_oc_19 sn_pf_7_32 (by decide) rfl rfl (by decide) ?_
  refine sn_q_iloadn sn_bc_19 dX7_add_25 rfl ?_
  refine sn_q_iload sn_bc_19 dX7_add_26 rfl ?_
  refine sn_q_iast (P := 14) sn_bc_19 dX7_add_28 sn_a14 rfl (by omega) (by omega) ?_
  refine sn_q_aloadn sn_bc_19 dX7_add_29 rfl ?_
  refine sn_q_dup sn_bc_19 dX7_add_30 rfl ?_
  refine sn_q_geti (P := 9) (J := 0) sn_bc_19 dX7_add_31 sn_oc_19 sn_pf_7_9 (by decide) rfl rfl rfl rfl ?_
  rw [sn_s_p (by omega), sn_s_p (by omega), sn_s_p (by omega), sn_s_p (by omega)]
  refine sn_q_iconst sn_bc_19 dX7_add_34 rfl ?_
  refine sn_q_iadd sn_bc_19 dX7_add_35 (by omega) (by omega) ?_
  refine sn_q_puti (P := 9) (J := 0) sn_bc_19 dX7_add_36 sn_oc_19 sn_pf_7_9 (by decide) rfl rfl rfl rfl rfl rfl ?_
  refine sn_q_vret sn_bc_19 dX7_add_39 rfl ?_
  exact kk
theorem sp_putOut {n k : Nat} {Y : Nat → Nat × Nat} {X : Nat → Nat → sn_V} {σ : Int → Int → Int} {Q : Option sn_V → sn_H → Prop} {w : Int} (h1 : 0 ≤ w) (h2 : w < 8) (h3 : 0 ≤ σ 9 1) (h4 : σ 9 1 ≤ 8) (kk : Q none (sn_hh n k Y (sn_s (sn_s σ (11) (w) (1)) (9) (1) (σ 9 1 + 1)) X)) : sn_Wp 84 0 [sn_r 9, sn_i w] [] (sn_hh n k Y σ X) Q := by
  refine sn_q_aloadn sn_bc_84 dX7_putOut_0 rfl ?_
  refine sn_q_getr (v := 11) sn_bc_84 dX7_putOut_1 sn_oc_84 sn_pf_7_22 (by decide) rfl rfl (by decide) ?_
  refine sn_q_iloadn sn_bc_84 dX7_putOut_4 rfl ?_
  refine sn_q_iconst sn_bc_84 dX7_putOut_5 rfl ?_
  refine sn_q_bast (P := 11) sn_bc_84 dX7_putOut_6 sn_a11 rfl (by omega) (by omega) (by omega) ?_
  refine sn_q_aloadn sn_bc_84 dX7_putOut_7 rfl ?_
  refine sn_q_dup sn_bc_84 dX7_putOut_8 rfl ?_
  refine sn_q_geti (P := 9) (J := 1) sn_bc_84 dX7_putOut_9 sn_oc_84 sn_pf_7_15 (by decide) rfl rfl rfl rfl ?_
  rw [sn_s_p (by omega)]
  refine sn_q_iconst sn_bc_84 dX7_putOut_12 rfl ?_
  refine sn_q_iadd sn_bc_84 dX7_putOut_13 (by omega) (by omega) ?_
  refine sn_q_puti (P := 9) (J := 1) sn_bc_84 dX7_putOut_14 sn_oc_84 sn_pf_7_15 (by decide) rfl rfl rfl rfl rfl rfl ?_
  refine sn_q_vret sn_bc_84 dX7_putOut_17 rfl ?_
  exact kk
theorem sp_Songs_clear {n k : Nat} {Y : Nat → Nat × Nat} {X : Nat → Nat → sn_V} {σ : Int → Int → Int} {Q : Option sn_V → sn_H → Prop} (kk : Q none (sn_hh n k Y (fun a b => if (a = 10 ∨ a = 11) ∧ 0 ≤ b ∧ b < 8 then 0 else if a = 9 ∧ (b = 0 ∨ b = 1) then 0 else σ a b) X)) : sn_Wp 118 0 [sn_r 9, sn_u] [] (sn_hh n k Y σ X) Q := by
  have loop : ∀ (d : Nat) (i : Nat), i + d = 8 → sn_Wp 118 2 [sn_r 9, sn_i (i : Int)] [] (sn_hh n k Y (fun a b => if (a = 10 ∨ a = 11) ∧ 0 ≤ b ∧ b < (i : Int) then 0 else σ a b) X) Q := by
    refine sn_ind (fun d ih => ?_)
    intro i hi
    refine sn_q_iloadn sn_bc_118 dX7_clear_2 rfl ?_
    refine sn_q_bipush sn_bc_118 dX7_clear_3 rfl ?_
    refine sn_q_icge (t := 28) sn_bc_118 dX7_clear_5 rfl (fun c_5 => ?_) (fun c_5 => ?_)
    · refine sn_q_aloadn sn_bc_118 dX7_clear_28 rfl ?_
      refine sn_q_iconst sn_bc_118 dX7_clear_29 rfl ?_
      refine sn_q_puti (P := 9) (J := 0) sn_bc_118 dX7_clear_30 sn_oc_118 sn_pf_7_9 (by decide) rfl rfl rfl rfl rfl rfl ?_
      refine sn_q_aloadn sn_bc_118 dX7_clear_33 rfl ?_
      refine sn_q_iconst sn_bc_118 dX7_clear_34 rfl ?_
      refine sn_q_puti (P := 9) (J := 1) sn_bc_118 dX7_clear_35 sn_oc_118 sn_pf_7_15 (by decide) rfl rfl rfl rfl rfl rfl ?_
      refine sn_q_vret sn_bc_118 dX7_clear_38 rfl ?_
      obtain rfl : i = 8 := by omega
      exact sn_qs (by funext a b; (try simp only [sn_s]); (repeat' split) <;> first | rfl | omega | (congr 1 <;> omega)) kk
    · refine sn_q_aloadn sn_bc_118 dX7_clear_8 rfl ?_
      refine sn_q_getr (v := 10) sn_bc_118 dX7_clear_9 sn_oc_118 sn_pf_7_18 (by decide) rfl rfl (by decide) ?_
      refine sn_q_iloadn sn_bc_118 dX7_clear_12 rfl ?_
      refine sn_q_iconst sn_bc_118 dX7_clear_13 rfl ?_
      refine sn_q_bast (P := 10) sn_bc_118 dX7_clear_14 sn_a10 rfl (by omega) (by omega) (by omega) ?_
      refine sn_q_aloadn sn_bc_118 dX7_clear_15 rfl ?_
      refine sn_q_getr (v := 11) sn_bc_118 dX7_clear_16 sn_oc_118 sn_pf_7_22 (by decide) rfl rfl (by decide) ?_
      refine sn_q_iloadn sn_bc_118 dX7_clear_19 rfl ?_
      refine sn_q_iconst sn_bc_118 dX7_clear_20 rfl ?_
      refine sn_q_bast (P := 11) sn_bc_118 dX7_clear_21 sn_a11 rfl (by omega) (by omega) (by omega) ?_
      refine sn_q_inc1 sn_bc_118 dX7_clear_22 rfl (by omega) (by omega) ?_
      refine sn_q_goto (t := 2) sn_bc_118 dX7_clear_25 rfl ?_
      refine sn_sg (σ' := fun a b => if (a = 10 ∨ a = 11) ∧ 0 ≤ b ∧ b < ((i + 1 : Nat) : Int) then 0 else σ a b) (by funext a b; (try simp only [sn_s]); (repeat' split) <;> first | rfl | omega | (congr 1 <;> omega)) ?_
      exact ih (d - 1) (by omega) (i + 1) (by omega)
  refine sn_q_iconst sn_bc_118 dX7_clear_0 rfl ?_
  refine sn_q_istn1 sn_bc_118 dX7_clear_1 rfl ?_
  refine sn_sg (σ' := fun a b => if (a = 10 ∨ a = 11) ∧ 0 ≤ b ∧ b < ((0 : Nat) : Int) then 0 else σ a b) (by funext a b; (try simp only [sn_s]); (repeat' split) <;> first | rfl | omega | (congr 1 <;> omega)) ?_
  exact loop 8 0 rfl
theorem sp_Stage_clear {n k : Nat} {Y : Nat → Nat × Nat} {X : Nat → Nat → sn_V} {σ : Int → Int → Int} {Q : Option sn_V → sn_H → Prop} (kk : Q none (sn_hh n k Y (sn_s (sn_s σ (15) (3) (0)) (15) (4) (0)) X)) : sn_Wp 119 0 [sn_r 15] [] (sn_hh n k Y σ X) Q := by
  refine sn_q_aloadn sn_bc_119 dX8_clear_0 rfl ?_
  refine sn_q_iconst sn_bc_119 dX8_clear_1 rfl ?_
  refine sn_q_puti (P := 15) (J := 3) sn_bc_119 dX8_clear_2 sn_oc_119 sn_pf_8_18 (by decide) rfl rfl rfl rfl rfl rfl ?_
  refine sn_q_aloadn sn_bc_119 dX8_clear_5 rfl ?_
  refine sn_q_iconst sn_bc_119 dX8_clear_6 rfl ?_
  refine sn_q_puti (P := 15) (J := 4) sn_bc_119 dX8_clear_7 sn_oc_119 sn_pf_8_22 (by decide) rfl rfl rfl rfl rfl rfl ?_
  refine sn_q_vret sn_bc_119 dX8_clear_10 rfl ?_
  exact kk
theorem sp_Ballots_clear {n k : Nat} {Y : Nat → Nat × Nat} {X : Nat → Nat → sn_V} {σ : Int → Int → Int} {Q : Option sn_V → sn_H → Prop} (kk : Q none (sn_hh n k Y (fun a b => if (a = 60 ∨ a = 61) ∧ 0 ≤ b ∧ b < 40 then 0 else σ a b) X)) : sn_Wp 120 0 [sn_r 18, sn_u] [] (sn_hh n k Y σ X) Q := by
  have loop : ∀ (d : Nat) (i : Nat), i + d = 40 → sn_Wp 120 2 [sn_r 18, sn_i (i : Int)] [] (sn_hh n k Y (fun a b => if (a = 60 ∨ a = 61) ∧ 0 ≤ b ∧ b < (i : Int) then 0 else σ a b) X) Q := by
    refine sn_ind (fun d ih => ?_)
    intro i hi
    refine sn_q_iloadn sn_bc_120 dX0_clear_2 rfl ?_
    refine sn_q_bipush sn_bc_120 dX0_clear_3 rfl ?_
    refine sn_q_icge (t := 28) sn_bc_120 dX0_clear_5 rfl (fun c_5 => ?_) (fun c_5 => ?_)
    · refine sn_q_vret sn_bc_120 dX0_clear_28 rfl ?_
      obtain rfl : i = 40 := by omega
      exact sn_qs (by funext a b; (try simp only [sn_s]); (repeat' split) <;> first | rfl | omega | (congr 1 <;> omega)) kk
    · refine sn_q_aloadn sn_bc_120 dX0_clear_8 rfl ?_
      refine sn_q_getr (v := 61) sn_bc_120 dX0_clear_9 sn_oc_120 sn_pf_0_20 (by decide) rfl rfl (by decide) ?_
      refine sn_q_iloadn sn_bc_120 dX0_clear_12 rfl ?_
      refine sn_q_iconst sn_bc_120 dX0_clear_13 rfl ?_
      refine sn_q_bast (P := 61) sn_bc_120 dX0_clear_14 sn_a61 rfl (by omega) (by omega) (by omega) ?_
      refine sn_q_aloadn sn_bc_120 dX0_clear_15 rfl ?_
      refine sn_q_getr (v := 60) sn_bc_120 dX0_clear_16 sn_oc_120 sn_pf_0_16 (by decide) rfl rfl (by decide) ?_
      refine sn_q_iloadn sn_bc_120 dX0_clear_19 rfl ?_
      refine sn_q_iconst sn_bc_120 dX0_clear_20 rfl ?_
      refine sn_q_iast (P := 60) sn_bc_120 dX0_clear_21 sn_a60 rfl (by omega) (by omega) ?_
      refine sn_q_inc1 sn_bc_120 dX0_clear_22 rfl (by omega) (by omega) ?_
      refine sn_q_goto (t := 2) sn_bc_120 dX0_clear_25 rfl ?_
      refine sn_sg (σ' := fun a b => if (a = 60 ∨ a = 61) ∧ 0 ≤ b ∧ b < ((i + 1 : Nat) : Int) then 0 else σ a b) (by funext a b; (try simp only [sn_s]); (repeat' split) <;> first | rfl | omega | (congr 1 <;> omega)) ?_
      exact ih (d - 1) (by omega) (i + 1) (by omega)
  refine sn_q_iconst sn_bc_120 dX0_clear_0 rfl ?_
  refine sn_q_istn1 sn_bc_120 dX0_clear_1 rfl ?_
  refine sn_sg (σ' := fun a b => if (a = 60 ∨ a = 61) ∧ 0 ≤ b ∧ b < ((0 : Nat) : Int) then 0 else σ a b) (by funext a b; (try simp only [sn_s]); (repeat' split) <;> first | rfl | omega | (congr 1 <;> omega)) ?_
  exact loop 40 0 (by omega)
theorem sp_placeOf {n k : Nat} {Y : Nat → Nat × Nat} {X : Nat → Nat → sn_V} {σ : Int → Int → Int} {Q : Option sn_V → sn_H → Prop} {w : Int} (h1 : 0 ≤ σ 15 3) (h2 : σ 15 3 ≤ 8) (kk : ∀ r : Int, ((r = -1 ∧ ∀ i, 0 ≤ i → i < σ 15 3 → σ 16 i ≠ w) ∨ (0 ≤ r ∧ r < σ 15 3 ∧ σ 16 r = w)) → Q (some (sn_i r)) (sn_hh n k Y σ X)) : sn_Wp 54 0 [sn_r 15, sn_i w, sn_u] [] (sn_hh n k Y σ X) Q := by
  have loop : ∀ (d : Nat) (i : Nat), i + d = 8 → (i : Int) ≤ σ 15 3 → (∀ j : Int, 0 ≤ j → j < i → σ 16 j ≠ w) → sn_Wp 54 2 [sn_r 15, sn_i w, sn_i (i : Int)] [] (sn_hh n k Y σ X) Q := by
    refine sn_ind (fun d ih => ?_)
    intro i hi hc hn
    refine sn_q_iloadn sn_bc_54 dX8_placeOf_2 rfl ?_
    refine sn_q_aloadn sn_bc_54 dX8_placeOf_3 rfl ?_
    refine sn_q_geti (P := 15) (J := 3) sn_bc_54 dX8_placeOf_4 sn_oc_54 sn_pf_8_18 (by decide) rfl rfl rfl rfl ?_
    refine sn_q_icge (t := 28) sn_bc_54 dX8_placeOf_7 rfl (fun c_7 => ?_) (fun c_7 => ?_)
    · refine sn_q_iconst sn_bc_54 dX8_placeOf_28 rfl ?_
      refine sn_q_iret sn_bc_54 dX8_placeOf_29 rfl ?_
      first
        | exact kk _ (Or.inr ⟨by omega, by omega, by omega⟩)
        | exact kk _ (Or.inl ⟨rfl, fun j h1 h2 => hn j h1 (by omega)⟩)
    · refine sn_q_aloadn sn_bc_54 dX8_placeOf_10 rfl ?_
      refine sn_q_getr (v := 16) sn_bc_54 dX8_placeOf_11 sn_oc_54 sn_pf_8_9 (by decide) rfl rfl (by decide) ?_
      refine sn_q_iloadn sn_bc_54 dX8_placeOf_14 rfl ?_
      refine sn_q_iald (P := 16) sn_bc_54 dX8_placeOf_15 sn_a16 rfl (by omega) (by omega) ?_
      refine sn_q_iloadn sn_bc_54 dX8_placeOf_16 rfl ?_
      refine sn_q_icne (t := 22) sn_bc_54 dX8_placeOf_17 rfl (fun c_17 => ?_) (fun c_17 => ?_)
      · refine sn_q_inc2 sn_bc_54 dX8_placeOf_22 rfl (by omega) (by omega) ?_
        refine sn_q_goto (t := 2) sn_bc_54 dX8_placeOf_25 rfl ?_
        refine ih (d - 1) (by omega) (i + 1) (by omega) (by omega) (fun j hj0 hj1 => ?_)
        by_cases e : j = i
        · rw [e]; assumption
        · exact hn j hj0 (by omega)
      · refine sn_q_iloadn sn_bc_54 dX8_placeOf_20 rfl ?_
        refine sn_q_iret sn_bc_54 dX8_placeOf_21 rfl ?_
        first
          | exact kk _ (Or.inr ⟨by omega, by omega, by omega⟩)
          | exact kk _ (Or.inl ⟨rfl, fun j h1 h2 => hn j h1 (by omega)⟩)
  refine sn_q_iconst sn_bc_54 dX8_placeOf_0 rfl ?_
  refine sn_q_istn2 sn_bc_54 dX8_placeOf_1 rfl ?_
  exact loop 8 0 rfl (by omega) (fun j _ _ => by omega)
theorem sp_isOfHalf {n k : Nat} {Y : Nat → Nat × Nat} {X : Nat → Nat → sn_V} {σ : Int → Int → Int} {Q : Option sn_V → sn_H → Prop} {w pl : Int} (h1 : 0 ≤ w) (h2 : w < 8) (k1 : ((σ 14 w = 0 ∧ pl < σ 15 4) ∨ (σ 14 w ≠ 0 ∧ σ 15 4 ≤ pl)) → Q (some (sn_i 1)) (sn_hh n k Y σ X)) (k2 : ¬ ((σ 14 w = 0 ∧ pl < σ 15 4) ∨ (σ 14 w ≠ 0 ∧ σ 15 4 ≤ pl)) → Q (some (sn_i 0)) (sn_hh n k Y σ X)) : sn_Wp 63 0 [sn_r 15, sn_i w, sn_i pl] [] (sn_hh n k Y σ X) Q := by
  refine sn_q_aloadn sn_bc_63 dX8_isOfHalf_0 rfl ?_
  refine sn_q_getr (v := 9) sn_bc_63 dX8_isOfHalf_1 sn_oc_63 sn_pf_8_25 (by decide) rfl rfl (by decide) ?_
  refine sn_q_getr (v := 14) sn_bc_63 dX8_isOfHalf_4 sn_oc_63 sn_pf_8_29 (by decide) rfl rfl (by decide) ?_
  refine sn_q_iloadn sn_bc_63 dX8_isOfHalf_7 rfl ?_
  refine sn_q_iald (P := 14) sn_bc_63 dX8_isOfHalf_8 sn_a14 rfl (by omega) (by omega) ?_
  refine sn_q_ifne (t := 28) sn_bc_63 dX8_isOfHalf_9 rfl (fun c_9 => ?_) (fun c_9 => ?_)
  · refine sn_q_iloadn sn_bc_63 dX8_isOfHalf_28 rfl ?_
    refine sn_q_aloadn sn_bc_63 dX8_isOfHalf_29 rfl ?_
    refine sn_q_geti (P := 15) (J := 4) sn_bc_63 dX8_isOfHalf_30 sn_oc_63 sn_pf_8_22 (by decide) rfl rfl rfl rfl ?_
    refine sn_q_iclt (t := 40) sn_bc_63 dX8_isOfHalf_33 rfl (fun c_33 => ?_) (fun c_33 => ?_)
    · refine sn_q_iconst sn_bc_63 dX8_isOfHalf_40 rfl ?_
      refine sn_q_zret sn_bc_63 dX8_isOfHalf_41 rfl (by omega) ?_
      first | exact k1 (by omega) | exact k2 (by omega)
    · refine sn_q_iconst sn_bc_63 dX8_isOfHalf_36 rfl ?_
      refine sn_q_goto (t := 41) sn_bc_63 dX8_isOfHalf_37 rfl ?_
      refine sn_q_zret sn_bc_63 dX8_isOfHalf_41 rfl (by omega) ?_
      first | exact k1 (by omega) | exact k2 (by omega)
  · refine sn_q_iloadn sn_bc_63 dX8_isOfHalf_12 rfl ?_
    refine sn_q_aloadn sn_bc_63 dX8_isOfHalf_13 rfl ?_
    refine sn_q_geti (P := 15) (J := 4) sn_bc_63 dX8_isOfHalf_14 sn_oc_63 sn_pf_8_22 (by decide) rfl rfl rfl rfl ?_
    refine sn_q_icge (t := 24) sn_bc_63 dX8_isOfHalf_17 rfl (fun c_17 => ?_) (fun c_17 => ?_)
    · refine sn_q_iconst sn_bc_63 dX8_isOfHalf_24 rfl ?_
      refine sn_q_goto (t := 41) sn_bc_63 dX8_isOfHalf_25 rfl ?_
      refine sn_q_zret sn_bc_63 dX8_isOfHalf_41 rfl (by omega) ?_
      first | exact k1 (by omega) | exact k2 (by omega)
    · refine sn_q_iconst sn_bc_63 dX8_isOfHalf_20 rfl ?_
      refine sn_q_goto (t := 41) sn_bc_63 dX8_isOfHalf_21 rfl ?_
      refine sn_q_zret sn_bc_63 dX8_isOfHalf_41 rfl (by omega) ?_
      first | exact k1 (by omega) | exact k2 (by omega)
theorem sp_given {n k : Nat} {Y : Nat → Nat × Nat} {X : Nat → Nat → sn_V} {σ : Int → Int → Int} {Q : Option sn_V → sn_H → Prop} {w : Int} (h1 : 0 ≤ w) (h2 : w < 8) (kk : Q (some (sn_i (sn_sum (fun j => if σ 61 (w * 5 + j) = 0 then 0 else 1) 5))) (sn_hh n k Y σ X)) : sn_Wp 25 0 [sn_r 18, sn_i w, sn_u, sn_u] [] (sn_hh n k Y σ X) Q := by
  have loop : ∀ (d : Nat) (i : Nat), i + d = 5 → sn_Wp 25 4 [sn_r 18, sn_i w, sn_i (sn_sum (fun j => if σ 61 (w * 5 + j) = 0 then 0 else 1) i), sn_i (i : Int)] [] (sn_hh n k Y σ X) Q := by
    refine sn_ind (fun d ih => ?_)
    intro i hi
    have hb := sn_sum_bd (f := (fun j => if σ 61 (w * 5 + j) = 0 then 0 else 1)) (B := 1) (by decide) (fun j => by (try dsimp only); split <;> decide) i
    refine sn_q_iloadn sn_bc_25 dX0_given_4 rfl ?_
    refine sn_q_iconst sn_bc_25 dX0_given_5 rfl ?_
    refine sn_q_icge (t := 36) sn_bc_25 dX0_given_6 rfl (fun c_6 => ?_) (fun c_6 => ?_)
    · refine sn_q_iloadn sn_bc_25 dX0_given_36 rfl ?_
      refine sn_q_iret sn_bc_25 dX0_given_37 rfl ?_
      obtain rfl : i = 5 := by omega
      exact kk
    · refine sn_q_iloadn sn_bc_25 dX0_given_9 rfl ?_
      refine sn_q_aloadn sn_bc_25 dX0_given_10 rfl ?_
      refine sn_q_getr (v := 61) sn_bc_25 dX0_given_11 sn_oc_25 sn_pf_0_20 (by decide) rfl rfl (by decide) ?_
      refine sn_q_iloadn sn_bc_25 dX0_given_14 rfl ?_
      refine sn_q_iloadn sn_bc_25 dX0_given_15 rfl ?_
      refine sn_q_invS sn_bc_25 dX0_given_16 sn_oc_25 sn_px_0_31 sn_ps_0_31 (by decide) rfl rfl rfl (sp_numberOf (by omega) (by omega) (by omega) (by omega) ?_)
      refine sn_q_bald (P := 61) sn_bc_25 dX0_given_19 sn_a61 rfl (by omega) (by omega) ?_
      refine sn_q_ifeq (t := 27) sn_bc_25 dX0_given_20 rfl (fun c_20 => ?_) (fun c_20 => ?_)
      · refine sn_q_iconst sn_bc_25 dX0_given_27 rfl ?_
        refine sn_q_iadd sn_bc_25 dX0_given_28 (by omega) (by omega) ?_
        refine sn_q_istn2 sn_bc_25 dX0_given_29 rfl ?_
        refine sn_q_inc3 sn_bc_25 dX0_given_30 rfl (by omega) (by omega) ?_
        refine sn_q_goto (t := 4) sn_bc_25 dX0_given_33 rfl ?_
        have k := ih (d - 1) (by omega) (i + 1) (by omega)
        first
          | (rw [show sn_sum (fun j => if σ 61 (w * 5 + j) = 0 then 0 else 1) (i + 1) = sn_sum (fun j => if σ 61 (w * 5 + j) = 0 then 0 else 1) i + 0 from congrArg (fun z => _ + z) (if_pos (by assumption))] at k; exact k)
          | (rw [show sn_sum (fun j => if σ 61 (w * 5 + j) = 0 then 0 else 1) (i + 1) = sn_sum (fun j => if σ 61 (w * 5 + j) = 0 then 0 else 1) i + 1 from congrArg (fun z => _ + z) (if_neg (by assumption))] at k; exact k)
      · refine sn_q_iconst sn_bc_25 dX0_given_23 rfl ?_
        refine sn_q_goto (t := 28) sn_bc_25 dX0_given_24 rfl ?_
        refine sn_q_iadd sn_bc_25 dX0_given_28 (by omega) (by omega) ?_
        refine sn_q_istn2 sn_bc_25 dX0_given_29 rfl ?_
        refine sn_q_inc3 sn_bc_25 dX0_given_30 rfl (by omega) (by omega) ?_
        refine sn_q_goto (t := 4) sn_bc_25 dX0_given_33 rfl ?_
        have k := ih (d - 1) (by omega) (i + 1) (by omega)
        first
          | (rw [show sn_sum (fun j => if σ 61 (w * 5 + j) = 0 then 0 else 1) (i + 1) = sn_sum (fun j => if σ 61 (w * 5 + j) = 0 then 0 else 1) i + 0 from congrArg (fun z => _ + z) (if_pos (by assumption))] at k; exact k)
          | (rw [show sn_sum (fun j => if σ 61 (w * 5 + j) = 0 then 0 else 1) (i + 1) = sn_sum (fun j => if σ 61 (w * 5 + j) = 0 then 0 else 1) i + 1 from congrArg (fun z => _ + z) (if_neg (by assumption))] at k; exact k)
  refine sn_q_iconst sn_bc_25 dX0_given_0 rfl ?_
  refine sn_q_istn2 sn_bc_25 dX0_given_1 rfl ?_
  refine sn_q_iconst sn_bc_25 dX0_given_2 rfl ?_
  refine sn_q_istn3 sn_bc_25 dX0_given_3 rfl ?_
  exact loop 5 0 rfl
theorem sp_firstOn {n k : Nat} {Y : Nat → Nat × Nat} {X : Nat → Nat → sn_V} {σ : Int → Int → Int} {Q : Option sn_V → sn_H → Prop} {w j : Int} (h1 : 0 ≤ w) (h2 : w < 8) (h3 : 0 ≤ j) (h4 : j < 5) (kk : Q (some (sn_i (if 0 < σ 60 (w * 5 + j) then σ (20 + (w * 5 + j)) 0 else -1))) (sn_hh n k Y σ X)) : sn_Wp 40 0 [sn_r 18, sn_i w, sn_i j, sn_u] [] (sn_hh n k Y σ X) Q := by
  refine sn_q_iloadn sn_bc_40 dX0_firstOn_0 rfl ?_
  refine sn_q_iloadn sn_bc_40 dX0_firstOn_1 rfl ?_
  refine sn_q_invS sn_bc_40 dX0_firstOn_2 sn_oc_40 sn_px_0_31 sn_ps_0_31 (by decide) rfl rfl rfl (sp_numberOf (by omega) (by omega) (by omega) (by omega) ?_)
  refine sn_q_istn3 sn_bc_40 dX0_firstOn_5 rfl ?_
  refine sn_q_aloadn sn_bc_40 dX0_firstOn_6 rfl ?_
  refine sn_q_getr (v := 60) sn_bc_40 dX0_firstOn_7 sn_oc_40 sn_pf_0_16 (by decide) rfl rfl (by decide) ?_
  refine sn_q_iloadn sn_bc_40 dX0_firstOn_10 rfl ?_
  refine sn_q_iald (P := 60) sn_bc_40 dX0_firstOn_11 sn_a60 rfl (by omega) (by omega) ?_
  refine sn_q_ifle (t := 26) sn_bc_40 dX0_firstOn_12 rfl (fun c_12 => ?_) (fun c_12 => ?_)
  · refine sn_q_iconst sn_bc_40 dX0_firstOn_26 rfl ?_
    refine sn_q_iret sn_bc_40 dX0_firstOn_27 rfl ?_
    first
      | (rw [if_pos (by omega)] at kk; exact kk)
      | (rw [if_neg (by omega)] at kk; exact kk)
  · refine sn_q_aloadn sn_bc_40 dX0_firstOn_15 rfl ?_
    refine sn_q_getr (v := 19) sn_bc_40 dX0_firstOn_16 sn_oc_40 sn_pf_0_11 (by decide) rfl rfl (by decide) ?_
    refine sn_q_iloadn sn_bc_40 dX0_firstOn_19 rfl ?_
    refine sn_q_aald sn_bc_40 dX0_firstOn_20 sn_a19 (by omega) (by omega) ?_
    refine sn_q_iconst sn_bc_40 dX0_firstOn_21 rfl ?_
    refine sn_q_iald sn_bc_40 dX0_firstOn_22 (sn_b19 (by omega) (by omega)) (sn_p19 (by omega)) (by omega) (by omega) ?_
    refine sn_q_goto (t := 27) sn_bc_40 dX0_firstOn_23 rfl ?_
    refine sn_q_iret sn_bc_40 dX0_firstOn_27 rfl ?_
    first
      | (rw [if_pos (by omega)] at kk; exact kk)
      | (rw [if_neg (by omega)] at kk; exact kk)
theorem sp_wipe {n k : Nat} {Y : Nat → Nat × Nat} {X : Nat → Nat → sn_V} {σ : Int → Int → Int} {Q : Option sn_V → sn_H → Prop} {w : Int} (h1 : 0 ≤ w) (h2 : w < 8) (kk : Q none (sn_hh n k Y (fun a b => if a = 227 ∧ b = w then 0 else if 219 ≤ a ∧ a < 219 + 8 ∧ b = w then 0 else σ a b) X)) : sn_Wp 86 0 [sn_r 217, sn_i w, sn_u] [] (sn_hh n k Y σ X) Q := by
  have loop : ∀ (d : Nat) (i : Nat), i + d = 8 → sn_Wp 86 9 [sn_r 217, sn_i w, sn_i (i : Int)] [] (sn_hh n k Y (fun a b => if a = 227 ∧ b = w then 0 else if 219 ≤ a ∧ a < 219 + (i : Int) ∧ b = w then 0 else σ a b) X) Q := by
    refine sn_ind (fun d ih => ?_)
    intro i hi
    refine sn_q_iloadn sn_bc_86 dX1_wipe_9 rfl ?_
    refine sn_q_bipush sn_bc_86 dX1_wipe_10 rfl ?_
    refine sn_q_icge (t := 30) sn_bc_86 dX1_wipe_12 rfl (fun c_12 => ?_) (fun c_12 => ?_)
    · refine sn_q_vret sn_bc_86 dX1_wipe_30 rfl ?_
      obtain rfl : i = 8 := by omega
      exact sn_qs (by funext a b; (try simp only [sn_s]); (repeat' split) <;> first | rfl | omega | (congr 1 <;> omega)) kk
    · refine sn_q_aloadn sn_bc_86 dX1_wipe_15 rfl ?_
      refine sn_q_getr (v := 218) sn_bc_86 dX1_wipe_16 sn_oc_86 sn_pf_1_11 (by decide) rfl rfl (by decide) ?_
      refine sn_q_iloadn sn_bc_86 dX1_wipe_19 rfl ?_
      refine sn_q_aald sn_bc_86 dX1_wipe_20 sn_a218 (by omega) (by omega) ?_
      refine sn_q_iloadn sn_bc_86 dX1_wipe_21 rfl ?_
      refine sn_q_iconst sn_bc_86 dX1_wipe_22 rfl ?_
      refine sn_q_iast sn_bc_86 dX1_wipe_23 (sn_b218 (by omega) (by omega)) (sn_p218 (by omega)) (by omega) (by omega) ?_
      refine sn_q_inc2 sn_bc_86 dX1_wipe_24 rfl (by omega) (by omega) ?_
      refine sn_q_goto (t := 9) sn_bc_86 dX1_wipe_27 rfl ?_
      refine sn_sg (σ' := fun a b => if a = 227 ∧ b = w then 0 else if 219 ≤ a ∧ a < 219 + ((i + 1 : Nat) : Int) ∧ b = w then 0 else σ a b) (by funext a b; (try simp only [sn_s]); (repeat' split) <;> first | rfl | omega | (congr 1 <;> omega)) ?_
      exact ih (d - 1) (by omega) (i + 1) (by omega)
  refine sn_q_aloadn sn_bc_86 dX1_wipe_0 rfl ?_
  refine sn_q_getr (v := 227) sn_bc_86 dX1_wipe_1 sn_oc_86 sn_pf_1_16 (by decide) rfl rfl (by decide) ?_
  refine sn_q_iloadn sn_bc_86 dX1_wipe_4 rfl ?_
  refine sn_q_iconst sn_bc_86 dX1_wipe_5 rfl ?_
  refine sn_q_iast (P := 227) sn_bc_86 dX1_wipe_6 sn_a227 rfl (by omega) (by omega) ?_
  refine sn_q_iconst sn_bc_86 dX1_wipe_7 rfl ?_
  refine sn_q_istn2 sn_bc_86 dX1_wipe_8 rfl ?_
  refine sn_sg (σ' := fun a b => if a = 227 ∧ b = w then 0 else if 219 ≤ a ∧ a < 219 + ((0 : Nat) : Int) ∧ b = w then 0 else σ a b) (by funext a b; (try simp only [sn_s]); (repeat' split) <;> first | rfl | omega | (congr 1 <;> omega)) ?_
  exact loop 8 0 (by omega)
theorem sp_put {n k : Nat} {Y : Nat → Nat × Nat} {X : Nat → Nat → sn_V} {σ : Int → Int → Int} {Q : Option sn_V → sn_H → Prop} {w : Int} (h1 : 0 ≤ w) (h2 : w < 8) (hp : ∀ s, 0 ≤ s → s < 8 → 0 ≤ σ (83 + w) s ∧ σ (83 + w) s ≤ 12) (hq : ∀ s, 0 ≤ s → s < 8 → 0 ≤ σ (219 + w) s ∧ σ (219 + w) s ≤ 12) (kk : Q (some (sn_i (sn_sum (fun s => if 0 ≤ σ (83 + w) s - σ (219 + w) s then σ (83 + w) s - σ (219 + w) s else 0 - (σ (83 + w) s - σ (219 + w) s)) 8))) (sn_hh n k Y (fun a b => if a = 219 + w ∧ 0 ≤ b ∧ b < 8 then σ (83 + w) b else σ a b) X)) : sn_Wp 104 0 [sn_r 217, sn_i w, sn_r (83 + w.toNat), sn_u, sn_u] [] (sn_hh n k Y σ X) Q := by
  have loop : ∀ (d : Nat) (i : Nat), i + d = 8 → sn_Wp 104 5 [sn_r 217, sn_i w, sn_r (83 + w.toNat), sn_i (sn_sum (fun s => if 0 ≤ σ (83 + w) s - σ (219 + w) s then σ (83 + w) s - σ (219 + w) s else 0 - (σ (83 + w) s - σ (219 + w) s)) i), sn_i (i : Int)] [] (sn_hh n k Y (fun a b => if a = 219 + w ∧ 0 ≤ b ∧ b < (i : Int) then σ (83 + w) b else σ a b) X) Q := by
    refine sn_ind (fun d ih => ?_)
    intro i hi
    have hb := fun g : (i : Int) ≤ 8 => sn_sum_b (f := (fun s => if 0 ≤ σ (83 + w) s - σ (219 + w) s then σ (83 + w) s - σ (219 + w) s else 0 - (σ (83 + w) s - σ (219 + w) s))) (B := 12) i (fun s g2 => by have := hp s (by omega) (by omega); have := hq s (by omega) (by omega); (try dsimp only); split <;> omega)
    refine sn_q_iload sn_bc_104 dX1_put_5 rfl ?_
    refine sn_q_bipush sn_bc_104 dX1_put_7 rfl ?_
    refine sn_q_icge (t := 51) sn_bc_104 dX1_put_9 rfl (fun c_9 => ?_) (fun c_9 => ?_)
    · refine sn_q_iloadn sn_bc_104 dX1_put_51 rfl ?_
      refine sn_q_iret sn_bc_104 dX1_put_52 rfl ?_
      obtain rfl : i = 8 := by omega
      exact kk
    · have hp1 := hp (i : Int) (by omega) (by omega)
      have hq1 := hq (i : Int) (by omega) (by omega)
      have hb := hb (by omega)
      refine sn_q_iloadn sn_bc_104 dX1_put_12 rfl ?_
      refine sn_q_aloadn sn_bc_104 dX1_put_13 rfl ?_
      refine sn_q_iload sn_bc_104 dX1_put_14 rfl ?_
      refine sn_q_iald sn_bc_104 dX1_put_16 (sn_b82 (by omega) (by omega)) (sn_p82 (by omega)) (by omega) (by omega) ?_
      rw [if_neg (by omega)]
      refine sn_q_aloadn sn_bc_104 dX1_put_17 rfl ?_
      refine sn_q_getr (v := 218) sn_bc_104 dX1_put_18 sn_oc_104 sn_pf_1_11 (by decide) rfl rfl (by decide) ?_
      refine sn_q_iloadn sn_bc_104 dX1_put_21 rfl ?_
      refine sn_q_aald sn_bc_104 dX1_put_22 sn_a218 (by omega) (by omega) ?_
      refine sn_q_iload sn_bc_104 dX1_put_23 rfl ?_
      refine sn_q_iald sn_bc_104 dX1_put_25 (sn_b218 (by omega) (by omega)) (sn_p218 (by omega)) (by omega) (by omega) ?_
      rw [if_neg (by omega)]
      refine sn_q_isub sn_bc_104 dX1_put_26 (by omega) (by omega) ?_
      refine sn_q_abs sn_bc_104 dX1_put_27 sn_oc_104 sn_px_1_62 rfl (by omega) (by omega) ?_
      refine sn_q_iadd sn_bc_104 dX1_put_30 (by omega) (by omega) ?_
      refine sn_q_istn3 sn_bc_104 dX1_put_31 rfl ?_
      refine sn_q_aloadn sn_bc_104 dX1_put_32 rfl ?_
      refine sn_q_getr (v := 218) sn_bc_104 dX1_put_33 sn_oc_104 sn_pf_1_11 (by decide) rfl rfl (by decide) ?_
      refine sn_q_iloadn sn_bc_104 dX1_put_36 rfl ?_
      refine sn_q_aald sn_bc_104 dX1_put_37 sn_a218 (by omega) (by omega) ?_
      refine sn_q_iload sn_bc_104 dX1_put_38 rfl ?_
      refine sn_q_aloadn sn_bc_104 dX1_put_40 rfl ?_
      refine sn_q_iload sn_bc_104 dX1_put_41 rfl ?_
      refine sn_q_iald sn_bc_104 dX1_put_43 (sn_b82 (by omega) (by omega)) (sn_p82 (by omega)) (by omega) (by omega) ?_
      rw [if_neg (show ¬ ((83 : Int) + w = 219 + w ∧ 0 ≤ (i : Int) ∧ (i : Int) < (i : Int)) from by omega)]
      refine sn_q_iast sn_bc_104 dX1_put_44 (sn_b218 (by omega) (by omega)) (sn_p218 (by omega)) (by omega) (by omega) ?_
      refine sn_q_inc4 sn_bc_104 dX1_put_45 rfl (by omega) (by omega) ?_
      refine sn_q_goto (t := 5) sn_bc_104 dX1_put_48 rfl ?_
      refine sn_sg (σ' := fun a b => if a = 219 + w ∧ 0 ≤ b ∧ b < ((i + 1 : Nat) : Int) then σ (83 + w) b else σ a b) (by funext a b; (try simp only [sn_s]); (repeat' split) <;> first | rfl | omega | (congr 1 <;> omega)) ?_
      exact ih (d - 1) (by omega) (i + 1) (by omega)
  refine sn_q_iconst sn_bc_104 dX1_put_0 rfl ?_
  refine sn_q_istn3 sn_bc_104 dX1_put_1 rfl ?_
  refine sn_q_iconst sn_bc_104 dX1_put_2 rfl ?_
  refine sn_q_ist4 sn_bc_104 dX1_put_3 rfl ?_
  refine sn_sg (σ' := fun a b => if a = 219 + w ∧ 0 ≤ b ∧ b < ((0 : Nat) : Int) then σ (83 + w) b else σ a b) (by funext a b; (try simp only [sn_s]); (repeat' split) <;> first | rfl | omega | (congr 1 <;> omega)) ?_
  exact loop 8 0 rfl
