/-! weights, orders, candidates, sorting -/
def sn_wv (x : Int) : Int := if x = 0 then 12 else if x = 1 then 10 else if x = 2 then 8 else if x = 3 then 7 else if x = 4 then 6 else if x = 5 then 5 else if x = 6 then 4 else 0
/-- WEIGHTS lies at place 1 -/
def sn_YX (Y : Nat → Nat × Nat) (X : Nat → Nat → sn_V) : Prop := Y 1 = (100, 7) ∧ ∀ j, j < 7 → X 1 j = sn_i (sn_wt j)
section SNWT
variable {M pc n k i : Nat} {cc : ByteArray} {lv st : List sn_V} {Y : Nat → Nat × Nat} {X : Nat → Nat → sn_V} {σ : Int → Int → Int} {Q : Option sn_V → sn_H → Prop} {x : Int}
theorem sn_q_gets {h : sn_H} (hb : sn_bc M = cc) (hd : decode cc pc = .ok (.getstatic 458, 3)) (ho : sn_oc M = 9) (kk : sn_Wp M (pc + 3) lv (sn_r 1 :: st) h Q) : sn_Wp M pc lv st h Q := sn_q_go (d := (pc + 3, lv, sn_r 1 :: st, h)) hb hd rfl (if_pos (by rw [decide_eq_true ho]; rfl)) kk
theorem sn_hY1 (hYX : sn_YX Y X) : (sn_hh n k Y σ X).2.2.1 1 = (100, 7) := hYX.1
theorem sn_q_alen1 (hYX : sn_YX Y X) (hb : sn_bc M = cc) (hd : decode cc pc = .ok (.arraylength, 1)) (kk : sn_Wp M (pc + 1) lv (sn_i 7 :: st) (sn_hh n k Y σ X) Q) : sn_Wp M pc lv (sn_r 1 :: st) (sn_hh n k Y σ X) Q := by
  refine sn_q_alen hb hd (show 1 < 231 + n by omega) (by rw [sn_hY1 hYX]) ?_
  rw [sn_hY1 hYX]
  exact kk
theorem sn_wt_wv (j : Nat) (hj : j < 7) : sn_wt j = sn_wv j := by
  rcases (show j = 0 ∨ j = 1 ∨ j = 2 ∨ j = 3 ∨ j = 4 ∨ j = 5 ∨ j = 6 by omega) with rfl | rfl | rfl | rfl | rfl | rfl | rfl <;> rfl
theorem sn_q_iald1 (hYX : sn_YX Y X) (hb : sn_bc M = cc) (hd : decode cc pc = .ok (.iaload, 1)) (h0 : 0 ≤ x) (h1 : x < 7) (kk : sn_Wp M (pc + 1) lv (sn_i (sn_wv x) :: st) (sn_hh n k Y σ X) Q) : sn_Wp M pc lv (sn_i x :: sn_r 1 :: st) (sn_hh n k Y σ X) Q := by
  have hx : x.toNat < 7 := by omega
  refine sn_q_go (d := (pc + 1, lv, (sn_hh n k Y σ X).2.2.2 1 x.toNat :: st, sn_hh n k Y σ X)) hb hd rfl (if_pos ?_) ?_
  · unfold sn_idx
    rw [sn_hY1 hYX, decide_eq_true (show 1 < (sn_hh n k Y σ X).1 from by show 1 < 231 + n; omega), decide_eq_true h0, decide_eq_true (show x < (((100, 7) : Nat × Nat).2 : Int) from h1)]
    rfl
  · have e : (sn_hh n k Y σ X).2.2.2 1 x.toNat = sn_i (sn_wv x) := by
      show X 1 x.toNat = _
      rw [hYX.2 _ hx, sn_wt_wv _ hx, Int.toNat_of_nonneg h0]
    dsimp only
    rw [e]
    exact kk
end SNWT
theorem sp_weight {n k : Nat} {Y : Nat → Nat × Nat} {X : Nat → Nat → sn_V} {σ : Int → Int → Int} {Q : Option sn_V → sn_H → Prop} {x : Int} (hYX : sn_YX Y X) (kk : Q (some (sn_i (if 0 ≤ x then sn_wv x else 0))) (sn_hh n k Y σ X)) : sn_Wp 31 0 [sn_i x] [] (sn_hh n k Y σ X) Q := by
  refine sn_q_iloadn sn_bc_31 dX9_weight_0 rfl ?_
  refine sn_q_iflt (t := 20) sn_bc_31 dX9_weight_1 rfl (fun c1 => ?_) (fun c1 => ?_)
  · refine sn_q_iconst sn_bc_31 dX9_weight_20 rfl ?_
    refine sn_q_iret sn_bc_31 dX9_weight_21 rfl ?_
    rw [if_neg (by omega)] at kk
    exact kk
  · rw [if_pos (by omega)] at kk
    refine sn_q_iloadn sn_bc_31 dX9_weight_4 rfl ?_
    refine sn_q_gets sn_bc_31 dX9_weight_5 sn_oc_31 ?_
    refine sn_q_alen1 hYX sn_bc_31 dX9_weight_8 ?_
    refine sn_q_icge (t := 20) sn_bc_31 dX9_weight_9 rfl (fun c2 => ?_) (fun c2 => ?_)
    · refine sn_q_iconst sn_bc_31 dX9_weight_20 rfl ?_
      refine sn_q_iret sn_bc_31 dX9_weight_21 rfl ?_
      have e : sn_wv x = 0 := by unfold sn_wv; (repeat' split) <;> omega
      rw [e] at kk
      exact kk
    · refine sn_q_gets sn_bc_31 dX9_weight_12 sn_oc_31 ?_
      refine sn_q_iloadn sn_bc_31 dX9_weight_15 rfl ?_
      refine sn_q_iald1 hYX sn_bc_31 dX9_weight_16 (by omega) (by omega) ?_
      refine sn_q_goto (t := 21) sn_bc_31 dX9_weight_17 rfl ?_
      refine sn_q_iret sn_bc_31 dX9_weight_21 rfl ?_
      exact kk
def sn_fc : Nat → Int
  | 0 => 1
  | m + 1 => sn_fc m * (m + 1)
theorem sn_fc_bd : ∀ m, m < 9 → 1 ≤ sn_fc m ∧ sn_fc m ≤ 40320 ∧ (2 ≤ m → 2 ≤ sn_fc m) := by decide
theorem sp_ordersOf {h : sn_H} {Q : Option sn_V → sn_H → Prop} {x : Int} (h0 : 0 ≤ x) (h1 : x ≤ 8) (kk : ∀ r : Int, 1 ≤ r → r ≤ 40320 → (2 ≤ x → 2 ≤ r) → Q (some (sn_i r)) h) : sn_Wp 73 0 [sn_i x, sn_u, sn_u] [] h Q := by
  have loop : ∀ (d : Nat) (i : Nat), i + d = 9 → 1 ≤ i → (i : Int) ≤ x ∨ i = 1 → sn_Wp 73 4 [sn_i x, sn_i (sn_fc i), sn_i ((i : Int) + 1)] [] h Q := by
    refine sn_ind (fun d ih => ?_)
    intro i hi h1i hx
    have hb := fun hh => sn_fc_bd i hh
    have hb2 := fun hh => sn_fc_bd (i + 1) hh
    have e2 : sn_fc (i + 1) = sn_fc i * ((i : Int) + 1) := rfl
    refine sn_q_iloadn sn_bc_73 dX9_ordersOf_4 rfl ?_
    refine sn_q_iloadn sn_bc_73 dX9_ordersOf_5 rfl ?_
    refine sn_q_icgt (t := 19) sn_bc_73 dX9_ordersOf_6 rfl (fun c_6 => ?_) (fun c_6 => ?_)
    · refine sn_q_iloadn sn_bc_73 dX9_ordersOf_19 rfl ?_
      refine sn_q_iret sn_bc_73 dX9_ordersOf_20 rfl ?_
      have hb := hb (by omega)
      refine kk _ hb.1 hb.2.1 (fun h2 => hb.2.2 (by omega))
    · have hb2 := hb2 (by omega)
      refine sn_q_iloadn sn_bc_73 dX9_ordersOf_9 rfl ?_
      refine sn_q_iloadn sn_bc_73 dX9_ordersOf_10 rfl ?_
      refine sn_q_imul sn_bc_73 dX9_ordersOf_11 (by rw [← e2]; omega) (by rw [← e2]; omega) ?_
      refine sn_q_istn1 sn_bc_73 dX9_ordersOf_12 rfl ?_
      refine sn_q_inc2 sn_bc_73 dX9_ordersOf_13 rfl (by omega) (by omega) ?_
      refine sn_q_goto (t := 4) sn_bc_73 dX9_ordersOf_16 rfl ?_
      have k := ih (d - 1) (by omega) (i + 1) (by omega) (by omega) (by omega)
      rw [e2] at k
      exact k
  refine sn_q_iconst sn_bc_73 dX9_ordersOf_0 rfl ?_
  refine sn_q_istn1 sn_bc_73 dX9_ordersOf_1 rfl ?_
  refine sn_q_iconst sn_bc_73 dX9_ordersOf_2 rfl ?_
  refine sn_q_istn2 sn_bc_73 dX9_ordersOf_3 rfl ?_
  exact loop 8 1 rfl (by omega) (by omega)
theorem sp_clearRow {n k : Nat} {Y : Nat → Nat × Nat} {X : Nat → Nat → sn_V} {σ : Int → Int → Int} {Q : Option sn_V → sn_H → Prop} {q : Nat} {P : Int} (ha : sn_ai q 8) (hP : (q : Int) = P) (kk : Q none (sn_hh n k Y (fun a b => if a = P ∧ 0 ≤ b ∧ b < 8 then 0 else σ a b) X)) : sn_Wp 28 0 [sn_r q, sn_u] [] (sn_hh n k Y σ X) Q := by
  have loop : ∀ (d : Nat) (i : Nat), i + d = 8 → sn_Wp 28 2 [sn_r q, sn_i (i : Int)] [] (sn_hh n k Y (fun a b => if a = P ∧ 0 ≤ b ∧ b < (i : Int) then 0 else σ a b) X) Q := by
    refine sn_ind (fun d ih => ?_)
    intro i hi
    refine sn_q_iloadn sn_bc_28 dX2_clearRow_2 rfl ?_
    refine sn_q_aloadn sn_bc_28 dX2_clearRow_3 rfl ?_
    refine sn_q_alenC (L := 8) sn_bc_28 dX2_clearRow_4 ha rfl ?_
    refine sn_q_icge (t := 18) sn_bc_28 dX2_clearRow_5 rfl (fun c_5 => ?_) (fun c_5 => ?_)
    · refine sn_q_vret sn_bc_28 dX2_clearRow_18 rfl ?_
      obtain rfl : i = 8 := by omega
      exact sn_qs (by funext a b; (try simp only [sn_s]); (repeat' split) <;> first | rfl | omega | (congr 1 <;> omega)) kk
    · refine sn_q_aloadn sn_bc_28 dX2_clearRow_8 rfl ?_
      refine sn_q_iloadn sn_bc_28 dX2_clearRow_9 rfl ?_
      refine sn_q_iconst sn_bc_28 dX2_clearRow_10 rfl ?_
      refine sn_q_iast sn_bc_28 dX2_clearRow_11 ha hP (by omega) (by omega) ?_
      refine sn_q_inc1 sn_bc_28 dX2_clearRow_12 rfl (by omega) (by omega) ?_
      refine sn_q_goto (t := 2) sn_bc_28 dX2_clearRow_15 rfl ?_
      refine sn_sg (σ' := fun a b => if a = P ∧ 0 ≤ b ∧ b < ((i + 1 : Nat) : Int) then 0 else σ a b) (by funext a b; (try simp only [sn_s]); (repeat' split) <;> first | rfl | omega | (congr 1 <;> omega)) ?_
      exact ih (d - 1) (by omega) (i + 1) (by omega)
  refine sn_q_iconst sn_bc_28 dX2_clearRow_0 rfl ?_
  refine sn_q_istn1 sn_bc_28 dX2_clearRow_1 rfl ?_
  refine sn_sg (σ' := fun a b => if a = P ∧ 0 ≤ b ∧ b < ((0 : Nat) : Int) then 0 else σ a b) (by funext a b; (try simp only [sn_s]); (repeat' split) <;> first | rfl | omega | (congr 1 <;> omega)) ?_
  exact loop 8 0 (by omega)
theorem sp_Phones_clear {n k : Nat} {Y : Nat → Nat × Nat} {X : Nat → Nat → sn_V} {σ : Int → Int → Int} {Q : Option sn_V → sn_H → Prop} (kk : Q none (sn_hh n k Y (fun a b => if a = 178 ∧ 0 ≤ b ∧ b < 80 then 0 else if 98 ≤ a ∧ a < 98 + 80 ∧ 0 ≤ b ∧ b < 8 then 0 else σ a b) X)) : sn_Wp 121 0 [sn_r 96, sn_u, sn_u] [] (sn_hh n k Y σ X) Q := by
  have loop : ∀ (d : Nat) (i : Nat) (w : sn_V), i + d = 80 → sn_Wp 121 2 [sn_r 96, sn_i (i : Int), w] [] (sn_hh n k Y (fun a b => if a = 178 ∧ 0 ≤ b ∧ b < (i : Int) then 0 else if 98 ≤ a ∧ a < 98 + (i : Int) ∧ 0 ≤ b ∧ b < 8 then 0 else σ a b) X) Q := by
    refine sn_ind (fun d ih => ?_)
    intro i w hi
    have inner : (i : Int) < 80 → ∀ (e : Nat) (j : Nat), j + e = 8 → sn_Wp 121 17 [sn_r 96, sn_i (i : Int), sn_i (j : Int)] [] (sn_hh n k Y (fun a b => if a = 178 ∧ 0 ≤ b ∧ b < (i : Int) + 1 then 0 else if (98 ≤ a ∧ a < 98 + (i : Int) ∧ 0 ≤ b ∧ b < 8) ∨ (a = 98 + (i : Int) ∧ 0 ≤ b ∧ b < (j : Int)) then 0 else σ a b) X) Q := by
      intro hi80
      refine sn_ind (fun e ihe => ?_)
      intro j hj
      refine sn_q_iloadn sn_bc_121 dX4_clear_17 rfl ?_
      refine sn_q_bipush sn_bc_121 dX4_clear_18 rfl ?_
      refine sn_q_icge (t := 38) sn_bc_121 dX4_clear_20 rfl (fun c_20 => ?_) (fun c_20 => ?_)
      · refine sn_q_inc1 sn_bc_121 dX4_clear_38 rfl (by omega) (by omega) ?_
        refine sn_q_goto (t := 2) sn_bc_121 dX4_clear_41 rfl ?_
        refine sn_sg (σ' := fun a b => if a = 178 ∧ 0 ≤ b ∧ b < ((i + 1 : Nat) : Int) then 0 else if 98 ≤ a ∧ a < 98 + ((i + 1 : Nat) : Int) ∧ 0 ≤ b ∧ b < 8 then 0 else σ a b) (by funext a b; (try simp only [sn_s]); (repeat' split) <;> first | rfl | omega | (congr 1 <;> omega)) ?_
        exact ih (d - 1) (by omega) (i + 1) _ (by omega)
      · refine sn_q_aloadn sn_bc_121 dX4_clear_23 rfl ?_
        refine sn_q_getr (v := 97) sn_bc_121 dX4_clear_24 sn_oc_121 sn_pf_4_11 (by decide) rfl rfl (by decide) ?_
        refine sn_q_iloadn sn_bc_121 dX4_clear_27 rfl ?_
        refine sn_q_aald sn_bc_121 dX4_clear_28 sn_a97 (by omega) (by omega) ?_
        refine sn_q_iloadn sn_bc_121 dX4_clear_29 rfl ?_
        refine sn_q_iconst sn_bc_121 dX4_clear_30 rfl ?_
        refine sn_q_iast sn_bc_121 dX4_clear_31 (sn_b97 (by omega) (by omega)) (sn_p97 (by omega)) (by omega) (by omega) ?_
        refine sn_q_inc2 sn_bc_121 dX4_clear_32 rfl (by omega) (by omega) ?_
        refine sn_q_goto (t := 17) sn_bc_121 dX4_clear_35 rfl ?_
        refine sn_sg (σ' := fun a b => if a = 178 ∧ 0 ≤ b ∧ b < (i : Int) + 1 then 0 else if (98 ≤ a ∧ a < 98 + (i : Int) ∧ 0 ≤ b ∧ b < 8) ∨ (a = 98 + (i : Int) ∧ 0 ≤ b ∧ b < ((j + 1 : Nat) : Int)) then 0 else σ a b) (by funext a b; (try simp only [sn_s]); (repeat' split) <;> first | rfl | omega | (congr 1 <;> omega)) ?_
        exact ihe (e - 1) (by omega) (j + 1) (by omega)
    refine sn_q_iloadn sn_bc_121 dX4_clear_2 rfl ?_
    refine sn_q_bipush sn_bc_121 dX4_clear_3 rfl ?_
    refine sn_q_icge (t := 44) sn_bc_121 dX4_clear_5 rfl (fun c_5 => ?_) (fun c_5 => ?_)
    · refine sn_q_vret sn_bc_121 dX4_clear_44 rfl ?_
      obtain rfl : i = 80 := by omega
      exact sn_qs (by funext a b; (try simp only [sn_s]); (repeat' split) <;> first | rfl | omega | (congr 1 <;> omega)) kk
    · refine sn_q_aloadn sn_bc_121 dX4_clear_8 rfl ?_
      refine sn_q_getr (v := 178) sn_bc_121 dX4_clear_9 sn_oc_121 sn_pf_4_16 (by decide) rfl rfl (by decide) ?_
      refine sn_q_iloadn sn_bc_121 dX4_clear_12 rfl ?_
      refine sn_q_iconst sn_bc_121 dX4_clear_13 rfl ?_
      refine sn_q_iast (P := 178) sn_bc_121 dX4_clear_14 sn_a178 rfl (by omega) (by omega) ?_
      refine sn_q_iconst sn_bc_121 dX4_clear_15 rfl ?_
      refine sn_q_istn2 sn_bc_121 dX4_clear_16 rfl ?_
      refine sn_sg (σ' := fun a b => if a = 178 ∧ 0 ≤ b ∧ b < (i : Int) + 1 then 0 else if (98 ≤ a ∧ a < 98 + (i : Int) ∧ 0 ≤ b ∧ b < 8) ∨ (a = 98 + (i : Int) ∧ 0 ≤ b ∧ b < ((0 : Nat) : Int)) then 0 else σ a b) (by funext a b; (try simp only [sn_s]); (repeat' split) <;> first | rfl | omega | (congr 1 <;> omega)) ?_
      exact inner (by omega) 8 0 rfl
  refine sn_q_iconst sn_bc_121 dX4_clear_0 rfl ?_
  refine sn_q_istn1 sn_bc_121 dX4_clear_1 rfl ?_
  refine sn_sg (σ' := fun a b => if a = 178 ∧ 0 ≤ b ∧ b < ((0 : Nat) : Int) then 0 else if 98 ≤ a ∧ a < 98 + ((0 : Nat) : Int) ∧ 0 ≤ b ∧ b < 8 then 0 else σ a b) (by funext a b; (try simp only [sn_s]); (repeat' split) <;> first | rfl | omega | (congr 1 <;> omega)) ?_
  exact loop 80 0 _ rfl
/-- the song w is a candidate of the land a -/
def sn_cd (σ : Int → Int → Int) (a w : Int) : Prop := w ≠ a ∧ σ 10 w ≠ 0 ∧ σ 11 w = 0
/-- the row P holds the candidates of a below m, r of them, by numbers -/
def sn_cds (σ τ : Int → Int → Int) (P a m r : Int) : Prop := 0 ≤ r ∧ r ≤ m ∧ (∀ x y, (x ≠ P ∨ ¬ (0 ≤ y ∧ y < 8)) → τ x y = σ x y) ∧ (∀ i, 0 ≤ i → i < r → 0 ≤ τ P i ∧ τ P i < m ∧ sn_cd σ a (τ P i)) ∧ (∀ w, 0 ≤ w → w < m → sn_cd σ a w → ∃ i, 0 ≤ i ∧ i < r ∧ τ P i = w) ∧ (∀ i j, 0 ≤ i → i < j → j < r → τ P i < τ P j)
theorem sn_cds_0 {σ : Int → Int → Int} {P a : Int} : sn_cds σ σ P a 0 0 := ⟨by omega, by omega, fun _ _ _ => rfl, fun i _ _ => by omega, fun w _ _ => by omega, fun i j _ _ _ => by omega⟩
theorem sn_cds_no {σ τ : Int → Int → Int} {P a m r : Int} (h : sn_cds σ τ P a m r) (hm : 0 ≤ m) (hc : ¬ sn_cd σ a m) : sn_cds σ τ P a (m + 1) r := by
  obtain ⟨h1, h2, h3, h4, h5, h6⟩ := h
  refine ⟨h1, by omega, h3, fun i a1 a2 => ⟨(h4 i a1 a2).1, by have := (h4 i a1 a2).2.1; omega, (h4 i a1 a2).2.2⟩, fun w a1 a2 a3 => ?_, h6⟩
  by_cases e : w = m
  · rw [e] at a3; exact absurd a3 hc
  · exact h5 w a1 (by omega) a3
theorem sn_cds_yes {σ τ : Int → Int → Int} {P a m r : Int} (h : sn_cds σ τ P a m r) (hm : 0 ≤ m) (hm8 : m < 8) (hc : sn_cd σ a m) : sn_cds σ (sn_s τ P r m) P a (m + 1) (r + 1) := by
  obtain ⟨h1, h2, h3, h4, h5, h6⟩ := h
  have hne : ∀ i, i < r → sn_s τ P r m P i = τ P i := fun i hi => sn_s_j (by omega)
  refine ⟨by omega, by omega, fun x y hxy => ?_, fun i a1 a2 => ?_, fun w a1 a2 a3 => ?_, fun i j a1 a2 a3 => ?_⟩
  · rcases hxy with hx | hy
    · rw [sn_s_p hx]; exact h3 x y (Or.inl hx)
    · rw [sn_s_j (by omega)]; exact h3 x y (Or.inr hy)
  · by_cases e : i = r
    · rw [e, sn_s_e]; exact ⟨hm, by omega, hc⟩
    · rw [hne i (by omega)]
      have := h4 i a1 (by omega)
      exact ⟨this.1, by omega, this.2.2⟩
  · by_cases e : w = m
    · exact ⟨r, h1, by omega, by rw [sn_s_e, e]⟩
    · obtain ⟨i, b1, b2, b3⟩ := h5 w a1 (by omega) a3
      exact ⟨i, b1, by omega, by rw [hne i b2]; exact b3⟩
  · by_cases e : j = r
    · rw [hne i (by omega), e, sn_s_e]
      have := h4 i a1 (by omega)
      omega
    · rw [hne i (by omega), hne j (by omega)]
      exact h6 i j a1 a2 (by omega)
theorem sp_writeCandidates {n k : Nat} {Y : Nat → Nat × Nat} {X : Nat → Nat → sn_V} {σ : Int → Int → Int} {Q : Option sn_V → sn_H → Prop} {q : Nat} {P a : Int} (ha : sn_ai q 8) (hP : (q : Int) = P) (h10 : P ≠ 10) (h11 : P ≠ 11) (kk : ∀ (r : Int) (τ : Int → Int → Int), sn_cds σ τ P a 8 r → Q (some (sn_i r)) (sn_hh n k Y τ X)) : sn_Wp 33 0 [sn_r 9, sn_i a, sn_r q, sn_u, sn_u] [] (sn_hh n k Y σ X) Q := by
  have loop : ∀ (d : Nat) (i : Nat) (r : Int) (τ : Int → Int → Int), i + d = 8 → sn_cds σ τ P a i r → sn_Wp 33 5 [sn_r 9, sn_i a, sn_r q, sn_i r, sn_i (i : Int)] [] (sn_hh n k Y τ X) Q := by
    refine sn_ind (fun d ih => ?_)
    intro i r τ hi hc
    have hc0 := hc
    obtain ⟨g1, g2, g3, -⟩ := hc0
    have e10 : ∀ w, τ 10 w = σ 10 w := fun w => g3 10 w (Or.inl (by omega))
    have e11 : ∀ w, τ 11 w = σ 11 w := fun w => g3 11 w (Or.inl (by omega))
    refine sn_q_iload sn_bc_33 dX7_writeCandidates_5 rfl ?_
    refine sn_q_bipush sn_bc_33 dX7_writeCandidates_7 rfl ?_
    refine sn_q_icge (t := 36) sn_bc_33 dX7_writeCandidates_9 rfl (fun c_9 => ?_) (fun c_9 => ?_)
    · refine sn_q_iloadn sn_bc_33 dX7_writeCandidates_36 rfl ?_
      refine sn_q_iret sn_bc_33 dX7_writeCandidates_37 rfl ?_
      obtain rfl : i = 8 := by omega
      exact kk _ _ hc
    · refine sn_q_aloadn sn_bc_33 dX7_writeCandidates_12 rfl ?_
      refine sn_q_iloadn sn_bc_33 dX7_writeCandidates_13 rfl ?_
      refine sn_q_iload sn_bc_33 dX7_writeCandidates_14 rfl ?_
      refine sn_q_invV sn_bc_33 dX7_writeCandidates_16 sn_oc_33 sn_pv_7_43 (by decide) rfl (by decide) (sn_h1 (by decide)) rfl rfl rfl rfl (sp_isCandidate (by omega) (by omega) (fun w1 w2 w3 => ?_) (fun w => ?_))
      · refine sn_q_ifeq (t := 30) sn_bc_33 dX7_writeCandidates_19 rfl (fun c => absurd c (by decide)) (fun _ => ?_)
        refine sn_q_aloadn sn_bc_33 dX7_writeCandidates_22 rfl ?_
        refine sn_q_iloadn sn_bc_33 dX7_writeCandidates_23 rfl ?_
        refine sn_q_iload sn_bc_33 dX7_writeCandidates_24 rfl ?_
        refine sn_q_iast sn_bc_33 dX7_writeCandidates_26 ha hP (by omega) (by omega) ?_
        refine sn_q_inc3 sn_bc_33 dX7_writeCandidates_27 rfl (by omega) (by omega) ?_
        refine sn_q_inc4 sn_bc_33 dX7_writeCandidates_30 rfl (by omega) (by omega) ?_
        refine sn_q_goto (t := 5) sn_bc_33 dX7_writeCandidates_33 rfl ?_
        first
          | exact ih (d - 1) (by omega) (i + 1) _ _ (by omega) (sn_cds_yes hc (by omega) (by omega) ⟨w1, by rw [← e10]; exact w2, by rw [← e11]; exact w3⟩)
          | exact ih (d - 1) (by omega) (i + 1) _ _ (by omega) (sn_cds_no hc (by omega) (fun z => w ⟨z.1, by rw [e10]; exact z.2.1, by rw [e11]; exact z.2.2⟩))
      · refine sn_q_ifeq (t := 30) sn_bc_33 dX7_writeCandidates_19 rfl (fun _ => ?_) (fun c => absurd (by decide) c)
        refine sn_q_inc4 sn_bc_33 dX7_writeCandidates_30 rfl (by omega) (by omega) ?_
        refine sn_q_goto (t := 5) sn_bc_33 dX7_writeCandidates_33 rfl ?_
        first
          | exact ih (d - 1) (by omega) (i + 1) _ _ (by omega) (sn_cds_yes hc (by omega) (by omega) ⟨w1, by rw [← e10]; exact w2, by rw [← e11]; exact w3⟩)
          | exact ih (d - 1) (by omega) (i + 1) _ _ (by omega) (sn_cds_no hc (by omega) (fun z => w ⟨z.1, by rw [e10]; exact z.2.1, by rw [e11]; exact z.2.2⟩))
  refine sn_q_iconst sn_bc_33 dX7_writeCandidates_0 rfl ?_
  refine sn_q_istn3 sn_bc_33 dX7_writeCandidates_1 rfl ?_
  refine sn_q_iconst sn_bc_33 dX7_writeCandidates_2 rfl ?_
  refine sn_q_ist4 sn_bc_33 dX7_writeCandidates_3 rfl ?_
  exact loop 8 0 0 σ rfl sn_cds_0
