/-! what is there at the law's entry -/
theorem sk_cls_at {s : State} {args : Array Value} (hts : ∀ w ∈ lw_tbl, w.before args s = true) : ∀ c : Nat, ∃ d : ClassId × (Nat → Nat), ∀ q, sn_cls[c]? = some q → u_Kn s q.1 q.2.1 q.2.2 d.1 d.2 := by
  have K : ∀ {C : String} {T : u_T} {N : Nat}, (∃ (cC : ClassId) (iS : Nat → Nat), u_Kn s C T N cC iS) → ∃ d : ClassId × (Nat → Nat), ∀ q : vw_C, some (C, T, N) = some q → u_Kn s q.1 q.2.1 q.2.2 d.1 d.2 := fun ⟨cC, iS, h⟩ => ⟨(cC, iS), fun q hq => by cases hq; exact h⟩
  intro c
  match c with
  | 0 => exact K (u_known hts sk_X00 (hts (Cond.instantiable RX0 5) (by decide +kernel)))
  | 1 => exact K (u_known hts sk_X10 (hts (Cond.instantiable RX1 9) (by decide +kernel)))
  | 2 => exact K (u_known hts sk_X20 (hts (Cond.instantiable RX2 11) (by decide +kernel)))
  | 3 => exact K (u_known hts sk_X30 (hts (Cond.instantiable RX3 6) (by decide +kernel)))
  | 4 => exact K (u_known hts sk_X40 (hts (Cond.instantiable RX4 11) (by decide +kernel)))
  | 5 => exact K (u_known hts sk_X50 (hts (Cond.instantiable RX5 9) (by decide +kernel)))
  | 6 => exact K (u_known hts sk_X60 (hts (Cond.instantiable RX6 5) (by decide +kernel)))
  | 7 => exact K (u_known hts sk_X70 (hts (Cond.instantiable RX7 7) (by decide +kernel)))
  | 8 => exact K (u_known hts sk_X80 (hts (Cond.instantiable RX8 5) (by decide +kernel)))
  | 9 => exact K (u_known hts sk_X90 (hts (Cond.instantiable RX9 16) (by decide +kernel)))
  | _ + 10 => exact ⟨(0, fun _ => 0), fun q hq => by cases hq⟩
theorem sk_arr_at {s : State} {args : Array Value} (hts : ∀ w ∈ lw_tbl, w.before args s = true) : ∃ a b c : ClassId, ∀ (k : Nat) (q : ClassId × FieldType), [(a, FieldType.int), (b, FieldType.boolean), (c, FieldType.array .int)][k]? = some q → ArrOfT s q.1 q.2 ∧ va_RA s q.1 q.2 := by
  obtain ⟨a, ka, ca, a1, a2, a3⟩ := Cond.arrayClass_spec (hts (Cond.arrayClass .int) (by decide +kernel))
  obtain ⟨b, kb, cb, b1, b2, b3⟩ := Cond.arrayClass_spec (hts (Cond.arrayClass .boolean) (by decide +kernel))
  obtain ⟨cc, c, kc, c1, c2, c3, c4⟩ := Cond.arrayOver_specA (hts (Cond.arrayOver (.array .int)) (by decide +kernel))
  refine ⟨a, b, c, fun k q hq => ?_⟩
  match k, hq with
  | 0, hq => cases hq; exact ⟨fun N z => ⟨(fun k h => by cases h), ka, a2, ca, a3⟩, a1⟩
  | 1, hq => cases hq; exact ⟨fun N z => ⟨(fun k h => by cases h), kb, b2, cb, b3⟩, b1⟩
  | 2, hq => cases hq; exact ⟨fun N z => ⟨(fun k h => by cases h), kc, c2, cc, c3⟩, c4⟩
  | _ + 3, hq => cases hq
def sk_Y0 (L : Nat) : Nat → Nat × Nat := fun q => if q = 0 then (100, L) else if q = 1 then (100, 7) else (0, 0)
def sk_c0 (xs : Nat → Int32) : Nat → Nat → sn_V := fun q j => if q = 0 then sn_i (xs j).toInt else if q = 1 then sn_i (sn_wt j) else sn_n
theorem sk_wt_bd (j : Nat) : 0 ≤ sn_wt j ∧ sn_wt j ≤ 12 := by
  unfold sn_wt
  match j with
  | 0 => decide
  | 1 => decide
  | 2 => decide
  | 3 => decide
  | 4 => decide
  | 5 => decide
  | 6 => decide
  | _ + 7 => show 0 ≤ (0 : Int) ∧ (0 : Int) ≤ 12; decide
theorem sk_Rp0 {G : sn_P} {H : Heap} (hH : H.size = sn_s0 G) (hL : sn_L G ≤ 260) : sn_Rp G (sk_K 2 0 (sk_Y0 (sn_L G)) (sk_c0 (sn_xs G))) H := by
  have hT : ∀ q, sk_T 2 (sk_Y0 (sn_L G)) q = sk_Y0 (sn_L G) q := fun q => if_neg (by omega)
  refine ⟨Nat.le_refl _, by show H.size = sn_s0 G + 0; omega, fun q q2 q1 => ?_, fun q i => ?_, fun q => ?_, hT 0, fun j _ => rfl, hT 1, fun j _ => rfl⟩
  · have q1 : q < 2 := q1
    omega
  · show sn_wf (sk_c0 (sn_xs G) q i)
    unfold sk_c0
    split
    · exact ⟨Int32.le_toInt _, Int32.toInt_le _⟩
    · split
      · have := sk_wt_bd i
        exact ⟨by omega, by omega⟩
      · trivial
  · show ((sk_T 2 (sk_Y0 (sn_L G)) q).2 : Int) ≤ 2147483647
    rw [hT]
    unfold sk_Y0
    split
    · show (sn_L G : Int) ≤ 2147483647; omega
    · split <;> decide

