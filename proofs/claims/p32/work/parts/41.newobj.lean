/-! the new object -/
theorem sk_z0 (a b : Int) (h : a ≠ 2) (g : a ≠ 211) : sk_s0 a b = 0 := by
  unfold sk_s0
  rw [if_neg (by omega), if_neg (by omega), if_neg (by omega), if_neg (by omega)]
theorem sk_Iv_0 : sk_Iv sk_s0 := by
  have z8 : sn_sum (fun _ => (0 : Int)) 8 = 0 := rfl
  have hC : sk_C sk_s0 := ⟨fun l j _ _ _ _ h => absurd (sk_z0 61 _ (by omega) (by omega)) h, fun b _ _ => by rw [sk_z0 60 b (by omega) (by omega)]; omega⟩
  have e3 : sk_s0 3 0 = 0 := sk_z0 _ _ (by omega) (by omega)
  have e153 : sk_s0 15 3 = 0 := sk_z0 _ _ (by omega) (by omega)
  have e154 : sk_s0 15 4 = 0 := sk_z0 _ _ (by omega) (by omega)
  have e9 : ∀ c, sk_s0 9 c = 0 := fun c => sk_z0 _ _ (by omega) (by omega)
  have e10 : ∀ c, sk_s0 10 c = 0 := fun c => sk_z0 _ _ (by omega) (by omega)
  refine ⟨⟨by omega, fun l _ _ j _ _ h => absurd (sk_z0 61 _ (by omega) (by omega)) h, fun x _ _ => by rw [sk_z0 95 x (by omega) (by omega)]; omega, by omega, fun l s a1 a2 _ _ => ⟨sk_z0 _ _ (by omega) (by omega), sk_z0 _ _ (by omega) (by omega)⟩, fun h => absurd (show sk_s0 2 15 = 0 from by unfold sk_s0; rw [if_neg (by omega), if_neg (by omega), if_neg (by omega), if_neg (by omega)]) h⟩, ⟨fun s _ _ h => absurd (e10 s) h, ?_, ?_, fun s _ _ _ => sk_z0 _ _ (by omega) (by omega)⟩, ⟨by rw [e153, e9], by omega, fun i a1 a2 => by omega, fun i j a1 a2 a3 => by omega, fun s _ _ h => absurd (e10 s) h, fun s _ _ => by rw [sk_z0 13 s (by omega) (by omega)]; omega⟩, hC, ⟨fun l s _ _ _ _ => by rw [sk_z0 (219 + l) s (by omega) (by omega)]; omega, fun s _ _ => by rw [sk_z0 227 s (by omega) (by omega)]; omega, fun l s _ _ _ _ _ => sk_z0 _ _ (by omega) (by omega), ?_, ?_, fun l _ _ => sk_z0 _ _ (by omega) (by omega), fun l _ _ => sk_z0 _ _ (by omega) (by omega)⟩, ⟨fun t _ _ => ?_, ?_, ?_⟩⟩
  · rw [e9]; exact ((sn_sum_c 8 (fun i _ => if_pos (e10 i))).trans z8).symm
  · rw [e9, e9]; exact (sn_sum_c 8 (fun i _ => if_neg (fun z => z.1 (e10 i)))).trans z8
  · rw [sk_z0 217 7 (by omega) (by omega)]; exact ((sn_sum_c 8 (fun i _ => if_pos (sk_z0 228 i (by omega) (by omega)))).trans z8).symm
  · rw [sk_z0 217 8 (by omega) (by omega)]; exact ((sn_sum_c 8 (fun i _ => if_pos (sk_z0 230 i (by omega) (by omega)))).trans z8).symm
  · rw [sk_z0 178 t (by omega) (by omega), show sk_s0 211 2 = 10 from rfl]; omega
  · rw [show sk_s0 211 2 = 10 from rfl]; omega
  · rw [show sk_s0 211 2 = 10 from rfl]; omega
theorem sk_K_hh {k : Nat} {Y : Nat → Nat × Nat} {c c' : Nat → Nat → sn_V} (h : ∀ a i, c' a i = if 2 ≤ a ∧ a < 231 then sn_co sk_s0 a i else c a i) : sk_K 231 k Y c' = sn_hh 0 k Y sk_s0 c := by
  have e : c' = fun a i => if 2 ≤ a ∧ a < 231 then sn_co sk_s0 a i else c a i := funext fun a => funext fun i => h a i
  unfold sk_K
  rw [e]
  rfl
/-- new Songnations(): from a heap with two places to the class's -/
theorem sk_new_obj {k : Nat} {Y : Nat → Nat × Nat} {c : Nat → Nat → sn_V} {Q : Option sn_V → sn_H → Prop} (hp : ∀ i, c 2 i = if sn_ft 9 i = 2 then sn_n else sn_i 0) (kk : Q none (sn_hh 0 (k + 2060) Y sk_s0 c)) : sn_Wp 0 0 [sn_r 2, sn_u, sn_u, sn_u, sn_u, sn_u, sn_u] [] (sk_K 3 k Y c) Q := sk_init_0 hp (fun c' h => by rw [sk_K_hh h]; exact kk)
