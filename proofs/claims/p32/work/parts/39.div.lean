/-! quotients of small whole numbers -/
def sk_dok (a b : Nat) : Bool :=
  let x := FP.ddiv (FP.i2d (Int32.ofInt (a : Int))) (FP.i2d (Int32.ofInt ((b + 1 : Nat) : Int)))
  decide (x &&& 0x7fffffffffffffff ≤ 0x7ff0000000000000) && decide (FP.dcmp x x = some Ordering.eq)
theorem sk_dall : (List.range 1537).all (fun a => (List.range 8).all (fun b => sk_dok a b)) = true := by decide +kernel
theorem sk_dok_of {a b : Nat} (ha : a ≤ 1536) (hb : b ≤ 7) : sk_dok a b = true := by
  have h := List.all_eq_true.mp sk_dall a (List.mem_range.mpr (by omega))
  exact List.all_eq_true.mp h b (List.mem_range.mpr (by omega))
theorem sk_dv_all : sk_dv := by
  intro a b a0 a9 b1 b8
  have h := sk_dok_of (a := a.toNat) (b := (b - 1).toNat) (by omega) (by omega)
  unfold sk_dok at h
  rw [show ((a.toNat : Nat) : Int) = a by omega, show (((b - 1).toNat + 1 : Nat) : Int) = b by omega] at h
  dsimp only at h
  rw [Bool.and_eq_true] at h
  exact of_decide_eq_true h.1
theorem sk_dcmp_all {a b : Int} (a0 : 0 ≤ a) (a9 : a ≤ 1536) (b1 : 1 ≤ b) (b8 : b ≤ 8) : FP.dcmp (FP.ddiv (FP.i2d (Int32.ofInt a)) (FP.i2d (Int32.ofInt b))) (FP.ddiv (FP.i2d (Int32.ofInt a)) (FP.i2d (Int32.ofInt b))) = some Ordering.eq := by
  have h := sk_dok_of (a := a.toNat) (b := (b - 1).toNat) (by omega) (by omega)
  unfold sk_dok at h
  rw [show ((a.toNat : Nat) : Int) = a by omega, show (((b - 1).toNat + 1 : Nat) : Int) = b by omega] at h
  dsimp only at h
  rw [Bool.and_eq_true] at h
  exact of_decide_eq_true h.2
