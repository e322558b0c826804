/-! the law: its small methods -/
def sk_xi : sn_V → Int
  | .inl x => x
  | _ => 0
/-- the script lies at place 0 -/
def sk_sc (Y : Nat → Nat × Nat) (X : Nat → Nat → sn_V) : Prop := (Y 0).1 = 100 ∧ ∀ j, j < (Y 0).2 → X 0 j = sn_i (sk_xi (X 0 j))
/-- the script's cell x, and what is drawn behind its end -/
def sk_cl (Y : Nat → Nat × Nat) (X : Nat → Nat → sn_V) (x : Int) : Int := if x < ((Y 0).2 : Int) then sk_xi (X 0 x.toNat) else sn_wr (790386105 * (x + 3))
def sk_bl2 (v n : Int) : Int := sn_rm (sn_an v 2147483647) n
theorem sk_an_bd (v : Int) : 0 ≤ sn_an v 2147483647 ∧ sn_an v 2147483647 ≤ 2147483647 := by
  unfold sn_an
  have e : (Int32.ofInt v &&& Int32.ofInt 2147483647).toBitVec.msb = false := by
    rw [Int32.toBitVec_and, BitVec.msb_and, show (Int32.ofInt 2147483647).toBitVec.msb = false from by decide, Bool.and_false]
  have h1 := Int32.toInt_le (Int32.ofInt v &&& Int32.ofInt 2147483647)
  have h2 : (Int32.ofInt v &&& Int32.ofInt 2147483647).toInt = ((Int32.ofInt v &&& Int32.ofInt 2147483647).toBitVec.toNat : Int) := BitVec.toInt_eq_toNat_of_msb e
  constructor
  · omega
  · exact h1
theorem sk_bl2_bd {v n : Int} (h0 : 0 < n) (h9 : n ≤ 2147483647) : 0 ≤ sk_bl2 v n ∧ sk_bl2 v n < n := by
  have h := sk_an_bd v
  unfold sk_bl2
  rw [sn_rm_nn h.1 h.2 h0 h9]
  exact ⟨Int.emod_nonneg _ (by omega), Int.emod_lt_of_pos _ h0⟩
theorem sk_below {h : sn_H} {Q : Option sn_V → sn_H → Prop} {x n : Int} (h0 : 0 < n) (kk : Q (some (sn_i (sk_bl2 x n))) h) : sn_Wp 11 0 [sn_i x, sn_i n] [] h Q := by
  refine sn_q_iloadn sn_bc_11 dL_below_0 rfl ?_
  refine sn_q_ldc (x := 2147483647) sn_bc_11 dL_below_1 sn_oc_11 rfl rfl ?_
  refine sn_q_iand sn_bc_11 dL_below_3 ?_
  refine sn_q_iloadn sn_bc_11 dL_below_4 rfl ?_
  refine sn_q_iremW sn_bc_11 dL_below_5 (by omega) ?_
  refine sn_q_iret sn_bc_11 dL_below_6 rfl ?_
  exact kk
theorem sk_alen0 {M pc n k : Nat} {cc : ByteArray} {lv st : List sn_V} {Y : Nat → Nat × Nat} {X : Nat → Nat → sn_V} {σ : Int → Int → Int} {Q : Option sn_V → sn_H → Prop} (hsc : sk_sc Y X) (hb : sn_bc M = cc) (hd : decode cc pc = .ok (.arraylength, 1)) (kk : sn_Wp M (pc + 1) lv (sn_i ((Y 0).2 : Int) :: st) (sn_hh n k Y σ X) Q) : sn_Wp M pc lv (sn_r 0 :: st) (sn_hh n k Y σ X) Q :=
  sn_q_alen hb hd (show 0 < 231 + n by omega) (show (Y 0).1 = 100 from hsc.1) kk
theorem sk_iald0 {M pc n k : Nat} {cc : ByteArray} {lv st : List sn_V} {Y : Nat → Nat × Nat} {X : Nat → Nat → sn_V} {σ : Int → Int → Int} {Q : Option sn_V → sn_H → Prop} {x : Int} (hsc : sk_sc Y X) (hb : sn_bc M = cc) (hd : decode cc pc = .ok (.iaload, 1)) (h0 : 0 ≤ x) (h1 : x < ((Y 0).2 : Int)) (kk : sn_Wp M (pc + 1) lv (sn_i (sk_xi (X 0 x.toNat)) :: st) (sn_hh n k Y σ X) Q) : sn_Wp M pc lv (sn_i x :: sn_r 0 :: st) (sn_hh n k Y σ X) Q := by
  refine sn_q_go (d := (pc + 1, lv, X 0 x.toNat :: st, sn_hh n k Y σ X)) hb hd rfl (if_pos ?_) ?_
  · have e : (sn_hh n k Y σ X).2.2.1 0 = Y 0 := rfl
    unfold sn_idx
    rw [e, decide_eq_true (show 0 < (sn_hh n k Y σ X).1 from by show 0 < 231 + n; omega), decide_eq_true h0, decide_eq_true h1, decide_eq_true hsc.1]
    rfl
  · dsimp only
    rw [hsc.2 _ (by omega)]
    exact kk
theorem sk_cell {n k : Nat} {Y : Nat → Nat × Nat} {X : Nat → Nat → sn_V} {σ : Int → Int → Int} {Q : Option sn_V → sn_H → Prop} {x : Int} (hsc : sk_sc Y X) (h0 : 0 ≤ x) (h9 : x ≤ 1000000) (kk : Q (some (sn_i (sk_cl Y X x))) (sn_hh n k Y σ X)) : sn_Wp 10 0 [sn_r 0, sn_i x] [] (sn_hh n k Y σ X) Q := by
  unfold sk_cl at kk
  refine sn_q_iloadn sn_bc_10 dL_cell_0 rfl ?_
  refine sn_q_aloadn sn_bc_10 dL_cell_1 rfl ?_
  refine sk_alen0 hsc sn_bc_10 dL_cell_2 ?_
  refine sn_q_icge (t := 12) sn_bc_10 dL_cell_3 rfl (fun c1 => ?_) (fun c1 => ?_)
  · rw [if_neg (by omega)] at kk
    refine sn_q_ldc (x := 790386105) sn_bc_10 dL_cell_12 sn_oc_10 rfl rfl ?_
    refine sn_q_iloadn sn_bc_10 dL_cell_14 rfl ?_
    refine sn_q_iconst sn_bc_10 dL_cell_15 rfl ?_
    refine sn_q_iadd sn_bc_10 dL_cell_16 (by omega) (by omega) ?_
    refine sn_q_imulW sn_bc_10 dL_cell_17 ?_
    refine sn_q_iret sn_bc_10 dL_cell_18 rfl ?_
    exact kk
  · rw [if_pos (by omega)] at kk
    refine sn_q_aloadn sn_bc_10 dL_cell_6 rfl ?_
    refine sn_q_iloadn sn_bc_10 dL_cell_7 rfl ?_
    refine sk_iald0 hsc sn_bc_10 dL_cell_8 h0 (by omega) ?_
    refine sn_q_goto (t := 18) sn_bc_10 dL_cell_9 rfl ?_
    refine sn_q_iret sn_bc_10 dL_cell_18 rfl ?_
    exact kk
theorem sk_has {n k : Nat} {Y : Nat → Nat × Nat} {X : Nat → Nat → sn_V} {σ : Int → Int → Int} {Q : Option sn_V → sn_H → Prop} {s : Int} (hYX : sn_YX Y X) (hI : sk_Iv σ) (h1 : 0 ≤ s) (h2 : s < 8) (h3 : σ 10 s ≠ 0) (kk : ∀ τ, sk_q σ τ → Q (some (sn_i 1)) (sn_hh n k Y τ X)) : sn_Wp 88 0 [sn_r 2, sn_i s, sn_u] [] (sn_hh n k Y σ X) Q := by
  refine sn_q_aloadn sn_bc_88 dL_has_0 rfl ?_
  refine sn_q_iloadn sn_bc_88 dL_has_1 rfl ?_
  refine sn_q_iconst sn_bc_88 dL_has_2 rfl ?_
  refine sn_q_invV sn_bc_88 dL_has_3 sn_oc_88 sn_pv_10_54 (by decide) rfl (by decide) (sn_h1 (by decide)) rfl rfl rfl rfl (sk_ofSong3 hYX hI h1 h2 h3 (fun τ hq r hr => ?_))
  refine sn_q_iflt (t := 13) sn_bc_88 dL_has_6 rfl (fun c_6 => ?_) (fun c_6 => ?_)
  · refine sn_q_iconst sn_bc_88 dL_has_13 rfl ?_
    refine sn_q_zret sn_bc_88 dL_has_14 rfl (by omega) ?_
    first
      | exact kk τ hq
      | (exfalso; omega)
  · refine sn_q_iconst sn_bc_88 dL_has_9 rfl ?_
    refine sn_q_goto (t := 14) sn_bc_88 dL_has_10 rfl ?_
    refine sn_q_zret sn_bc_88 dL_has_14 rfl (by omega) ?_
    first
      | exact kk τ hq
      | (exfalso; omega)
