/-! the constructors -/
def sk_T (m : Nat) (Y : Nat → Nat × Nat) (q : Nat) : Nat × Nat := if 2 ≤ q ∧ q < m then sn_shp q else Y q
/-- a heap with the class's places below m -/
def sk_K (m k : Nat) (Y : Nat → Nat × Nat) (c : Nat → Nat → sn_V) : sn_H := (m, k, sk_T m Y, c)
def sk_n (c : Nat → Nat → sn_V) (m : Nat) (f : Nat → sn_V) : Nat → Nat → sn_V := fun q i => if q = m then f i else c q i
def sk_m (c : Nat → Nat → sn_V) (m a : Nat) : Nat → Nat → sn_V := fun q i => if q = m then (if i < a then sn_r (m + 1 + i) else sn_n) else if m < q ∧ q < m + 1 + a then sn_i 0 else c q i
/-- the new object's numbers -/
def sk_s0 : Int → Int → Int := fun a b => if a = 2 ∧ 11 ≤ b ∧ b ≤ 13 then -1 else if a = 211 ∧ b = 0 then 180 else if a = 211 ∧ b = 1 then 6 else if a = 211 ∧ (b = 2 ∨ b = 3) then 10 else 0
theorem sk_pu {m k len tag : Nat} {Y : Nat → Nat × Nat} {c : Nat → Nat → sn_V} {f : Nat → sn_V} (h2 : 2 ≤ m) (hs : sn_shp m = (tag, len)) : sn_pu (sk_K m k Y c) tag len f = sk_K (m + 1) (k + len) Y (sk_n c m f) := by
  have e : (fun q => if q = m then (tag, len) else sk_T m Y q) = sk_T (m + 1) Y := by
    funext q
    unfold sk_T
    by_cases e : q = m
    · rw [if_pos e, if_pos (by omega), e, hs]
    · rw [if_neg e]
      by_cases g : 2 ≤ q ∧ q < m
      · rw [if_pos g, if_pos (by omega)]
      · rw [if_neg g, if_neg (by omega)]
  unfold sn_pu sk_K
  dsimp only
  rw [e]
  rfl
theorem sk_pm {m k a b : Nat} {Y : Nat → Nat × Nat} {c : Nat → Nat → sn_V} (h2 : 2 ≤ m) (hs : sn_shp m = (102, a)) (hr : ∀ j, j < a → sn_shp (m + 1 + j) = (100, b)) : sn_pm (sk_K m k Y c) a b = sk_K (m + 1 + a) (k + a + a * b) Y (sk_m c m a) := by
  have e : (fun q => if q = m then (102, a) else if m < q ∧ q < m + 1 + a then (100, b) else sk_T m Y q) = sk_T (m + 1 + a) Y := by
    funext q
    unfold sk_T
    by_cases e : q = m
    · rw [if_pos e, if_pos (by omega), e, hs]
    · rw [if_neg e]
      by_cases g : m < q ∧ q < m + 1 + a
      · have := hr (q - (m + 1)) (by omega)
        rw [show m + 1 + (q - (m + 1)) = q by omega] at this
        rw [if_pos g, if_pos (by omega), this]
      · rw [if_neg g]
        by_cases g2 : 2 ≤ q ∧ q < m
        · rw [if_pos g2, if_pos (by omega)]
        · rw [if_neg g2, if_neg (by omega)]
  unfold sn_pm sk_K
  dsimp only
  rw [e]
  rfl
section SKK
variable {M pc i o ci m k len p j : Nat} {cc : ByteArray} {lv st : List sn_V} {Y : Nat → Nat × Nat} {c : Nat → Nat → sn_V} {Q : Option sn_V → sn_H → Prop} {v : sn_V} {z y : Int}
theorem sk_q_new (hb : sn_bc M = cc) (hd : decode cc pc = .ok (.new i, 3)) (ho : sn_oc M = o) (hf : sn_pn o i = some ci) (h2 : 2 ≤ m) (hs : sn_shp m = (ci, len)) (hn : sn_nf ci = len) (kk : sn_Wp M (pc + 3) lv (sn_r m :: st) (sk_K (m + 1) (k + len) Y (sk_n c m (fun j => if sn_ft ci j = 2 then sn_n else sn_i 0))) Q) : sn_Wp M pc lv st (sk_K m k Y c) Q := by
  refine sn_q_go (d := (pc + 3, lv, sn_r m :: st, sn_pu (sk_K m k Y c) ci len (fun j => if sn_ft ci j = 2 then sn_n else sn_i 0))) hb hd rfl ?_ ?_
  · unfold sn_do
    dsimp only
    rw [ho, hf]
    dsimp only
    rw [hn]
    rfl
  · dsimp only
    rw [sk_pu h2 hs]
    exact kk
theorem sk_q_nai (hb : sn_bc M = cc) (hd : decode cc pc = .ok (.newarray .int, 2)) (hz : z = (len : Int)) (hl : len ≤ 100000) (h2 : 2 ≤ m) (hs : sn_shp m = (100, len)) (kk : sn_Wp M (pc + 2) lv (sn_r m :: st) (sk_K (m + 1) (k + len) Y (sk_n c m (fun _ => sn_i 0))) Q) : sn_Wp M pc lv (sn_i z :: st) (sk_K m k Y c) Q := by
  subst hz
  refine sn_q_go (d := (pc + 2, lv, sn_r m :: st, sn_pu (sk_K m k Y c) 100 len (fun _ => sn_i 0))) hb hd rfl ?_ ?_
  · unfold sn_do
    dsimp only
    rw [decide_eq_true (show (0 : Int) ≤ (len : Int) by omega), decide_eq_true (show (len : Int) ≤ 100000 by omega)]
    rfl
  · dsimp only
    rw [sk_pu h2 hs]
    exact kk
theorem sk_q_naz (hb : sn_bc M = cc) (hd : decode cc pc = .ok (.newarray .boolean, 2)) (hz : z = (len : Int)) (hl : len ≤ 100000) (h2 : 2 ≤ m) (hs : sn_shp m = (101, len)) (kk : sn_Wp M (pc + 2) lv (sn_r m :: st) (sk_K (m + 1) (k + len) Y (sk_n c m (fun _ => sn_i 0))) Q) : sn_Wp M pc lv (sn_i z :: st) (sk_K m k Y c) Q := by
  subst hz
  refine sn_q_go (d := (pc + 2, lv, sn_r m :: st, sn_pu (sk_K m k Y c) 101 len (fun _ => sn_i 0))) hb hd rfl ?_ ?_
  · unfold sn_do
    dsimp only
    rw [decide_eq_true (show (0 : Int) ≤ (len : Int) by omega), decide_eq_true (show (len : Int) ≤ 100000 by omega)]
    rfl
  · dsimp only
    rw [sk_pu h2 hs]
    exact kk
theorem sk_q_mna {a b : Nat} (hb : sn_bc M = cc) (hd : decode cc pc = .ok (.multianewarray 9 2, 4)) (ho : decide (sn_oc M ∈ [0, 1, 2, 4]) = true) (hz : z = (a : Int)) (hy : y = (b : Int)) (ha : a ≤ 1000) (hb2 : b ≤ 1000) (h2 : 2 ≤ m) (hs : sn_shp m = (102, a)) (hr : ∀ j, j < a → sn_shp (m + 1 + j) = (100, b)) (kk : sn_Wp M (pc + 4) lv (sn_r m :: st) (sk_K (m + 1 + a) (k + a + a * b) Y (sk_m c m a)) Q) : sn_Wp M pc lv (sn_i y :: sn_i z :: st) (sk_K m k Y c) Q := by
  subst hz; subst hy
  refine sn_q_go (d := (pc + 4, lv, sn_r m :: st, sn_pm (sk_K m k Y c) a b)) hb hd rfl ?_ ?_
  · unfold sn_do
    dsimp only
    rw [ho, decide_eq_true (show (0 : Int) ≤ (a : Int) by omega), decide_eq_true (show (a : Int) ≤ 1000 by omega), decide_eq_true (show (0 : Int) ≤ (b : Int) by omega), decide_eq_true (show (b : Int) ≤ 1000 by omega)]
    rfl
  · dsimp only
    rw [sk_pm h2 hs hr]
    exact kk
theorem sk_q_put (hb : sn_bc M = cc) (hd : decode cc pc = .ok (.putfield i, 3)) (ho : sn_oc M = o) (hf : sn_pf o i = some (ci, j)) (h2 : 2 ≤ p) (hp : p < m) (hs : (sn_shp p).1 = ci) (ht : sn_fits (sn_ft ci j) v = true) (hff : (!sn_ff ci j || (sn_in M && decide (o = ci))) = true) (kk : sn_Wp M (pc + 3) lv st (sk_K m k Y (sn_w c p j v)) Q) : sn_Wp M pc lv (v :: sn_r p :: st) (sk_K m k Y c) Q := by
  refine sn_q_go (d := (pc + 3, lv, st, sk_K m k Y (sn_w c p j v))) hb hd rfl ?_ kk
  unfold sn_do
  dsimp only
  rw [ho, hf]
  have e : ((sk_K m k Y c).2.2.1 p).1 = ci := by
    show (sk_T m Y p).1 = ci
    unfold sk_T
    rw [if_pos ⟨h2, hp⟩, hs]
  dsimp only
  rw [if_pos (by rw [decide_eq_true h2, decide_eq_true (show p < (sk_K m k Y c).1 from hp), decide_eq_true e, ht, hff]; rfl)]
  rfl
end SKK
theorem sk_init_1 {k : Nat} {Y : Nat → Nat × Nat} {c : Nat → Nat → sn_V} {Q : Option sn_V → sn_H → Prop} (hp : ∀ i, c 3 i = if sn_ft 3 i = 2 then sn_n else sn_i 0) (kk : ∀ c', (∀ a i, c' a i = if a = 3 ∨ (4 ≤ a ∧ a < 9) then sn_co sk_s0 a i else c a i) → Q none (sk_K 9 (k + 40) Y c')) : sn_Wp 1 0 [sn_r 3] [] (sk_K 4 k Y c) Q := by
  refine sn_q_aloadn sn_bc_1 dX3_init_0 rfl ?_
  refine sn_q_obj sn_bc_1 dX3_init_1 sn_oc_1 rfl rfl ?_
  refine sn_q_aloadn sn_bc_1 dX3_init_4 rfl ?_
  refine sn_q_iconst sn_bc_1 dX3_init_5 rfl ?_
  refine sk_q_put sn_bc_1 dX3_init_6 sn_oc_1 sn_pf_3_9 (by decide) (by decide) rfl rfl rfl ?_
  refine sn_q_aloadn sn_bc_1 dX3_init_9 rfl ?_
  refine sn_q_bipush sn_bc_1 dX3_init_10 rfl ?_
  refine sk_q_nai (len := 8) sn_bc_1 dX3_init_12 rfl (by decide) (by decide) rfl ?_
  refine sk_q_put sn_bc_1 dX3_init_14 sn_oc_1 sn_pf_3_15 (by decide) (by decide) rfl rfl rfl ?_
  refine sn_q_aloadn sn_bc_1 dX3_init_17 rfl ?_
  refine sn_q_bipush sn_bc_1 dX3_init_18 rfl ?_
  refine sk_q_nai (len := 8) sn_bc_1 dX3_init_20 rfl (by decide) (by decide) rfl ?_
  refine sk_q_put sn_bc_1 dX3_init_22 sn_oc_1 sn_pf_3_19 (by decide) (by decide) rfl rfl rfl ?_
  refine sn_q_aloadn sn_bc_1 dX3_init_25 rfl ?_
  refine sn_q_bipush sn_bc_1 dX3_init_26 rfl ?_
  refine sk_q_nai (len := 8) sn_bc_1 dX3_init_28 rfl (by decide) (by decide) rfl ?_
  refine sk_q_put sn_bc_1 dX3_init_30 sn_oc_1 sn_pf_3_22 (by decide) (by decide) rfl rfl rfl ?_
  refine sn_q_aloadn sn_bc_1 dX3_init_33 rfl ?_
  refine sn_q_bipush sn_bc_1 dX3_init_34 rfl ?_
  refine sk_q_nai (len := 8) sn_bc_1 dX3_init_36 rfl (by decide) (by decide) rfl ?_
  refine sk_q_put sn_bc_1 dX3_init_38 sn_oc_1 sn_pf_3_25 (by decide) (by decide) rfl rfl rfl ?_
  refine sn_q_aloadn sn_bc_1 dX3_init_41 rfl ?_
  refine sn_q_bipush sn_bc_1 dX3_init_42 rfl ?_
  refine sk_q_nai (len := 8) sn_bc_1 dX3_init_44 rfl (by decide) (by decide) rfl ?_
  refine sk_q_put sn_bc_1 dX3_init_46 sn_oc_1 sn_pf_3_28 (by decide) (by decide) rfl rfl rfl ?_
  refine sn_q_vret sn_bc_1 dX3_init_49 rfl ?_
  refine (show ∀ k2 c2, k2 = k + 40 → (∀ a i, c2 a i = if a = 3 ∨ (4 ≤ a ∧ a < 9) then sn_co sk_s0 a i else c a i) → Q none (sk_K 9 k2 Y c2) from fun k2 c2 e1 e2 => e1 ▸ kk c2 e2) _ _ (by omega) (fun a i => ?_)
  by_cases ha : a = 3 ∨ (4 ≤ a ∧ a < 9)
  · rw [if_pos ha]
    by_cases e0 : a = 3
    · subst e0
      match i with
      | 0 => rfl
      | 1 => rfl
      | 2 => rfl
      | 3 => rfl
      | 4 => rfl
      | 5 => rfl
      | i + 6 =>
        simp only [sn_w, sk_n, sk_m]
        (repeat (first | rw [if_pos trivial] | rw [if_neg (by omega)] | rw [if_pos (by omega)]))
        rw [hp]
        rfl
    by_cases e4 : a = 4
    · subst e4
      rw [show sn_co sk_s0 4 i = sn_i 0 from rfl]
      simp only [sn_w, sk_n, sk_m]
      (repeat (first | rw [if_pos trivial] | rw [if_neg (by omega)] | rw [if_pos (by omega)]))
    by_cases e5 : a = 5
    · subst e5
      rw [show sn_co sk_s0 5 i = sn_i 0 from rfl]
      simp only [sn_w, sk_n, sk_m]
      (repeat (first | rw [if_pos trivial] | rw [if_neg (by omega)] | rw [if_pos (by omega)]))
    by_cases e6 : a = 6
    · subst e6
      rw [show sn_co sk_s0 6 i = sn_i 0 from rfl]
      simp only [sn_w, sk_n, sk_m]
      (repeat (first | rw [if_pos trivial] | rw [if_neg (by omega)] | rw [if_pos (by omega)]))
    by_cases e7 : a = 7
    · subst e7
      rw [show sn_co sk_s0 7 i = sn_i 0 from rfl]
      simp only [sn_w, sk_n, sk_m]
      (repeat (first | rw [if_pos trivial] | rw [if_neg (by omega)] | rw [if_pos (by omega)]))
    by_cases e8 : a = 8
    · subst e8
      rw [show sn_co sk_s0 8 i = sn_i 0 from rfl]
      simp only [sn_w, sk_n, sk_m]
      (repeat (first | rw [if_pos trivial] | rw [if_neg (by omega)] | rw [if_pos (by omega)]))
    omega
  · rw [if_neg ha]
    simp only [sn_w, sk_n, sk_m]
    (repeat (first | rw [if_pos trivial] | rw [if_neg (by omega)] | rw [if_pos (by omega)]))
theorem sk_init_2 {k : Nat} {Y : Nat → Nat × Nat} {c : Nat → Nat → sn_V} {Q : Option sn_V → sn_H → Prop} (hp : ∀ i, c 9 i = if sn_ft 7 i = 2 then sn_n else sn_i 0) (kk : ∀ c', (∀ a i, c' a i = if a = 9 ∨ (10 ≤ a ∧ a < 15) then sn_co sk_s0 a i else c a i) → Q none (sk_K 15 (k + 40) Y c')) : sn_Wp 2 0 [sn_r 9] [] (sk_K 10 k Y c) Q := by
  refine sn_q_aloadn sn_bc_2 dX7_init_0 rfl ?_
  refine sn_q_obj sn_bc_2 dX7_init_1 sn_oc_2 rfl rfl ?_
  refine sn_q_aloadn sn_bc_2 dX7_init_4 rfl ?_
  refine sn_q_iconst sn_bc_2 dX7_init_5 rfl ?_
  refine sk_q_put sn_bc_2 dX7_init_6 sn_oc_2 sn_pf_7_9 (by decide) (by decide) rfl rfl rfl ?_
  refine sn_q_aloadn sn_bc_2 dX7_init_9 rfl ?_
  refine sn_q_iconst sn_bc_2 dX7_init_10 rfl ?_
  refine sk_q_put sn_bc_2 dX7_init_11 sn_oc_2 sn_pf_7_15 (by decide) (by decide) rfl rfl rfl ?_
  refine sn_q_aloadn sn_bc_2 dX7_init_14 rfl ?_
  refine sn_q_bipush sn_bc_2 dX7_init_15 rfl ?_
  refine sk_q_naz (len := 8) sn_bc_2 dX7_init_17 rfl (by decide) (by decide) rfl ?_
  refine sk_q_put sn_bc_2 dX7_init_19 sn_oc_2 sn_pf_7_18 (by decide) (by decide) rfl rfl rfl ?_
  refine sn_q_aloadn sn_bc_2 dX7_init_22 rfl ?_
  refine sn_q_bipush sn_bc_2 dX7_init_23 rfl ?_
  refine sk_q_naz (len := 8) sn_bc_2 dX7_init_25 rfl (by decide) (by decide) rfl ?_
  refine sk_q_put sn_bc_2 dX7_init_27 sn_oc_2 sn_pf_7_22 (by decide) (by decide) rfl rfl rfl ?_
  refine sn_q_aloadn sn_bc_2 dX7_init_30 rfl ?_
  refine sn_q_bipush sn_bc_2 dX7_init_31 rfl ?_
  refine sk_q_nai (len := 8) sn_bc_2 dX7_init_33 rfl (by decide) (by decide) rfl ?_
  refine sk_q_put sn_bc_2 dX7_init_35 sn_oc_2 sn_pf_7_25 (by decide) (by decide) rfl rfl rfl ?_
  refine sn_q_aloadn sn_bc_2 dX7_init_38 rfl ?_
  refine sn_q_bipush sn_bc_2 dX7_init_39 rfl ?_
  refine sk_q_nai (len := 8) sn_bc_2 dX7_init_41 rfl (by decide) (by decide) rfl ?_
  refine sk_q_put sn_bc_2 dX7_init_43 sn_oc_2 sn_pf_7_29 (by decide) (by decide) rfl rfl rfl ?_
  refine sn_q_aloadn sn_bc_2 dX7_init_46 rfl ?_
  refine sn_q_bipush sn_bc_2 dX7_init_47 rfl ?_
  refine sk_q_nai (len := 8) sn_bc_2 dX7_init_49 rfl (by decide) (by decide) rfl ?_
  refine sk_q_put sn_bc_2 dX7_init_51 sn_oc_2 sn_pf_7_32 (by decide) (by decide) rfl rfl rfl ?_
  refine sn_q_vret sn_bc_2 dX7_init_54 rfl ?_
  refine (show ∀ k2 c2, k2 = k + 40 → (∀ a i, c2 a i = if a = 9 ∨ (10 ≤ a ∧ a < 15) then sn_co sk_s0 a i else c a i) → Q none (sk_K 15 k2 Y c2) from fun k2 c2 e1 e2 => e1 ▸ kk c2 e2) _ _ (by omega) (fun a i => ?_)
  by_cases ha : a = 9 ∨ (10 ≤ a ∧ a < 15)
  · rw [if_pos ha]
    by_cases e0 : a = 9
    · subst e0
      match i with
      | 0 => rfl
      | 1 => rfl
      | 2 => rfl
      | 3 => rfl
      | 4 => rfl
      | 5 => rfl
      | 6 => rfl
      | i + 7 =>
        simp only [sn_w, sk_n, sk_m]
        (repeat (first | rw [if_pos trivial] | rw [if_neg (by omega)] | rw [if_pos (by omega)]))
        rw [hp]
        rfl
    by_cases e10 : a = 10
    · subst e10
      rw [show sn_co sk_s0 10 i = sn_i 0 from rfl]
      simp only [sn_w, sk_n, sk_m]
      (repeat (first | rw [if_pos trivial] | rw [if_neg (by omega)] | rw [if_pos (by omega)]))
    by_cases e11 : a = 11
    · subst e11
      rw [show sn_co sk_s0 11 i = sn_i 0 from rfl]
      simp only [sn_w, sk_n, sk_m]
      (repeat (first | rw [if_pos trivial] | rw [if_neg (by omega)] | rw [if_pos (by omega)]))
    by_cases e12 : a = 12
    · subst e12
      rw [show sn_co sk_s0 12 i = sn_i 0 from rfl]
      simp only [sn_w, sk_n, sk_m]
      (repeat (first | rw [if_pos trivial] | rw [if_neg (by omega)] | rw [if_pos (by omega)]))
    by_cases e13 : a = 13
    · subst e13
      rw [show sn_co sk_s0 13 i = sn_i 0 from rfl]
      simp only [sn_w, sk_n, sk_m]
      (repeat (first | rw [if_pos trivial] | rw [if_neg (by omega)] | rw [if_pos (by omega)]))
    by_cases e14 : a = 14
    · subst e14
      rw [show sn_co sk_s0 14 i = sn_i 0 from rfl]
      simp only [sn_w, sk_n, sk_m]
      (repeat (first | rw [if_pos trivial] | rw [if_neg (by omega)] | rw [if_pos (by omega)]))
    omega
  · rw [if_neg ha]
    simp only [sn_w, sk_n, sk_m]
    (repeat (first | rw [if_pos trivial] | rw [if_neg (by omega)] | rw [if_pos (by omega)]))
theorem sk_init_3 {k : Nat} {Y : Nat → Nat × Nat} {c : Nat → Nat → sn_V} {Q : Option sn_V → sn_H → Prop} (hp : ∀ i, c 15 i = if sn_ft 8 i = 2 then sn_n else sn_i 0) (kk : ∀ c', (∀ a i, c' a i = if a = 15 ∨ (16 ≤ a ∧ a < 18) then sn_co sk_s0 a i else c a i) → Q none (sk_K 18 (k + 16) Y c')) : sn_Wp 3 0 [sn_r 15, sn_r 9] [] (sk_K 16 k Y c) Q := by
  refine sn_q_aloadn sn_bc_3 dX8_init_0 rfl ?_
  refine sn_q_obj sn_bc_3 dX8_init_1 sn_oc_3 rfl rfl ?_
  refine sn_q_aloadn sn_bc_3 dX8_init_4 rfl ?_
  refine sn_q_bipush sn_bc_3 dX8_init_5 rfl ?_
  refine sk_q_nai (len := 8) sn_bc_3 dX8_init_7 rfl (by decide) (by decide) rfl ?_
  refine sk_q_put sn_bc_3 dX8_init_9 sn_oc_3 sn_pf_8_9 (by decide) (by decide) rfl rfl rfl ?_
  refine sn_q_aloadn sn_bc_3 dX8_init_12 rfl ?_
  refine sn_q_bipush sn_bc_3 dX8_init_13 rfl ?_
  refine sk_q_nai (len := 8) sn_bc_3 dX8_init_15 rfl (by decide) (by decide) rfl ?_
  refine sk_q_put sn_bc_3 dX8_init_17 sn_oc_3 sn_pf_8_15 (by decide) (by decide) rfl rfl rfl ?_
  refine sn_q_aloadn sn_bc_3 dX8_init_20 rfl ?_
  refine sn_q_iconst sn_bc_3 dX8_init_21 rfl ?_
  refine sk_q_put sn_bc_3 dX8_init_22 sn_oc_3 sn_pf_8_18 (by decide) (by decide) rfl rfl rfl ?_
  refine sn_q_aloadn sn_bc_3 dX8_init_25 rfl ?_
  refine sn_q_iconst sn_bc_3 dX8_init_26 rfl ?_
  refine sk_q_put sn_bc_3 dX8_init_27 sn_oc_3 sn_pf_8_22 (by decide) (by decide) rfl rfl rfl ?_
  refine sn_q_aloadn sn_bc_3 dX8_init_30 rfl ?_
  refine sn_q_aloadn sn_bc_3 dX8_init_31 rfl ?_
  refine sk_q_put sn_bc_3 dX8_init_32 sn_oc_3 sn_pf_8_25 (by decide) (by decide) rfl rfl rfl ?_
  refine sn_q_vret sn_bc_3 dX8_init_35 rfl ?_
  refine (show ∀ k2 c2, k2 = k + 16 → (∀ a i, c2 a i = if a = 15 ∨ (16 ≤ a ∧ a < 18) then sn_co sk_s0 a i else c a i) → Q none (sk_K 18 k2 Y c2) from fun k2 c2 e1 e2 => e1 ▸ kk c2 e2) _ _ (by omega) (fun a i => ?_)
  by_cases ha : a = 15 ∨ (16 ≤ a ∧ a < 18)
  · rw [if_pos ha]
    by_cases e0 : a = 15
    · subst e0
      match i with
      | 0 => rfl
      | 1 => rfl
      | 2 => rfl
      | 3 => rfl
      | 4 => rfl
      | i + 5 =>
        simp only [sn_w, sk_n, sk_m]
        (repeat (first | rw [if_pos trivial] | rw [if_neg (by omega)] | rw [if_pos (by omega)]))
        rw [hp]
        rfl
    by_cases e16 : a = 16
    · subst e16
      rw [show sn_co sk_s0 16 i = sn_i 0 from rfl]
      simp only [sn_w, sk_n, sk_m]
      (repeat (first | rw [if_pos trivial] | rw [if_neg (by omega)] | rw [if_pos (by omega)]))
    by_cases e17 : a = 17
    · subst e17
      rw [show sn_co sk_s0 17 i = sn_i 0 from rfl]
      simp only [sn_w, sk_n, sk_m]
      (repeat (first | rw [if_pos trivial] | rw [if_neg (by omega)] | rw [if_pos (by omega)]))
    omega
  · rw [if_neg ha]
    simp only [sn_w, sk_n, sk_m]
    (repeat (first | rw [if_pos trivial] | rw [if_neg (by omega)] | rw [if_pos (by omega)]))
theorem sk_init_4 {k : Nat} {Y : Nat → Nat × Nat} {c : Nat → Nat → sn_V} {Q : Option sn_V → sn_H → Prop} (hp : ∀ i, c 18 i = if sn_ft 0 i = 2 then sn_n else sn_i 0) (kk : ∀ c', (∀ a i, c' a i = if a = 18 ∨ (19 ≤ a ∧ a < 63) then sn_co sk_s0 a i else c a i) → Q none (sk_K 63 (k + 448) Y c')) : sn_Wp 4 0 [sn_r 18, sn_r 9] [] (sk_K 19 k Y c) Q := by
  refine sn_q_aloadn sn_bc_4 dX0_init_0 rfl ?_
  refine sn_q_obj sn_bc_4 dX0_init_1 sn_oc_4 rfl rfl ?_
  refine sn_q_aloadn sn_bc_4 dX0_init_4 rfl ?_
  refine sn_q_bipush sn_bc_4 dX0_init_5 rfl ?_
  refine sn_q_bipush sn_bc_4 dX0_init_7 rfl ?_
  refine sk_q_mna (a := 40) (b := 8) sn_bc_4 dX0_init_9 rfl rfl rfl (by decide) (by decide) (by decide) rfl (by decide) ?_
  refine sk_q_put sn_bc_4 dX0_init_13 sn_oc_4 sn_pf_0_11 (by decide) (by decide) rfl rfl rfl ?_
  refine sn_q_aloadn sn_bc_4 dX0_init_16 rfl ?_
  refine sn_q_bipush sn_bc_4 dX0_init_17 rfl ?_
  refine sk_q_nai (len := 40) sn_bc_4 dX0_init_19 rfl (by decide) (by decide) rfl ?_
  refine sk_q_put sn_bc_4 dX0_init_21 sn_oc_4 sn_pf_0_16 (by decide) (by decide) rfl rfl rfl ?_
  refine sn_q_aloadn sn_bc_4 dX0_init_24 rfl ?_
  refine sn_q_bipush sn_bc_4 dX0_init_25 rfl ?_
  refine sk_q_naz (len := 40) sn_bc_4 dX0_init_27 rfl (by decide) (by decide) rfl ?_
  refine sk_q_put sn_bc_4 dX0_init_29 sn_oc_4 sn_pf_0_20 (by decide) (by decide) rfl rfl rfl ?_
  refine sn_q_aloadn sn_bc_4 dX0_init_32 rfl ?_
  refine sn_q_bipush sn_bc_4 dX0_init_33 rfl ?_
  refine sk_q_nai (len := 8) sn_bc_4 dX0_init_35 rfl (by decide) (by decide) rfl ?_
  refine sk_q_put sn_bc_4 dX0_init_37 sn_oc_4 sn_pf_0_24 (by decide) (by decide) rfl rfl rfl ?_
  refine sn_q_aloadn sn_bc_4 dX0_init_40 rfl ?_
  refine sn_q_aloadn sn_bc_4 dX0_init_41 rfl ?_
  refine sk_q_put sn_bc_4 dX0_init_42 sn_oc_4 sn_pf_0_27 (by decide) (by decide) rfl rfl rfl ?_
  refine sn_q_vret sn_bc_4 dX0_init_45 rfl ?_
  refine (show ∀ k2 c2, k2 = k + 448 → (∀ a i, c2 a i = if a = 18 ∨ (19 ≤ a ∧ a < 63) then sn_co sk_s0 a i else c a i) → Q none (sk_K 63 k2 Y c2) from fun k2 c2 e1 e2 => e1 ▸ kk c2 e2) _ _ (by omega) (fun a i => ?_)
  by_cases ha : a = 18 ∨ (19 ≤ a ∧ a < 63)
  · rw [if_pos ha]
    by_cases e0 : a = 18
    · subst e0
      match i with
      | 0 => rfl
      | 1 => rfl
      | 2 => rfl
      | 3 => rfl
      | 4 => rfl
      | i + 5 =>
        simp only [sn_w, sk_n, sk_m]
        (repeat (first | rw [if_pos trivial] | rw [if_neg (by omega)] | rw [if_pos (by omega)]))
        rw [hp]
        rfl
    by_cases e19 : a = 19
    · subst e19
      simp only [sn_w, sk_n, sk_m]
      (repeat (first | rw [if_pos trivial] | rw [if_neg (by omega)] | rw [if_pos (by omega)]))
      by_cases hi : i < 40
      · rw [if_pos hi, sn_co1 (v := 19 + 1 + i) (show sn_rf 19 i = 19 + 1 + i from if_pos hi) (by omega)]
      · rw [if_neg hi]; unfold sn_co; rw [show sn_rf 19 i = 1 from if_neg hi, if_neg (by decide), if_pos rfl]
    by_cases r19 : 19 < a ∧ a < 60
    · have hr := (sn_b19 (x := (a : Int) - 20) (by omega) (by omega)).2.2 i
      rw [show 20 + ((a : Int) - 20).toNat = a by omega] at hr
      rw [sn_co0 hr, show sk_s0 a i = 0 from by unfold sk_s0; (repeat (first | rw [if_pos trivial] | rw [if_neg (by omega)] | rw [if_pos (by omega)]))]
      simp only [sn_w, sk_n, sk_m]
      (repeat (first | rw [if_pos trivial] | rw [if_neg (by omega)] | rw [if_pos (by omega)]))
    by_cases e60 : a = 60
    · subst e60
      rw [show sn_co sk_s0 60 i = sn_i 0 from rfl]
      simp only [sn_w, sk_n, sk_m]
      (repeat (first | rw [if_pos trivial] | rw [if_neg (by omega)] | rw [if_pos (by omega)]))
    by_cases e61 : a = 61
    · subst e61
      rw [show sn_co sk_s0 61 i = sn_i 0 from rfl]
      simp only [sn_w, sk_n, sk_m]
      (repeat (first | rw [if_pos trivial] | rw [if_neg (by omega)] | rw [if_pos (by omega)]))
    by_cases e62 : a = 62
    · subst e62
      rw [show sn_co sk_s0 62 i = sn_i 0 from rfl]
      simp only [sn_w, sk_n, sk_m]
      (repeat (first | rw [if_pos trivial] | rw [if_neg (by omega)] | rw [if_pos (by omega)]))
    omega
  · rw [if_neg ha]
    simp only [sn_w, sk_n, sk_m]
    (repeat (first | rw [if_pos trivial] | rw [if_neg (by omega)] | rw [if_pos (by omega)]))
theorem sk_init_5 {k : Nat} {Y : Nat → Nat × Nat} {c : Nat → Nat → sn_V} {Q : Option sn_V → sn_H → Prop} (hp : ∀ i, c 63 i = if sn_ft 2 i = 2 then sn_n else sn_i 0) (kk : ∀ c', (∀ a i, c' a i = if a = 63 ∨ (64 ≤ a ∧ a < 96) then sn_co sk_s0 a i else c a i) → Q none (sk_K 96 (k + 256) Y c')) : sn_Wp 5 0 [sn_r 63, sn_r 3, sn_r 9, sn_r 18] [] (sk_K 64 k Y c) Q := by
  refine sn_q_aloadn sn_bc_5 dX2_init_0 rfl ?_
  refine sn_q_obj sn_bc_5 dX2_init_1 sn_oc_5 rfl rfl ?_
  refine sn_q_aloadn sn_bc_5 dX2_init_4 rfl ?_
  refine sn_q_bipush sn_bc_5 dX2_init_5 rfl ?_
  refine sn_q_bipush sn_bc_5 dX2_init_7 rfl ?_
  refine sk_q_mna (a := 8) (b := 8) sn_bc_5 dX2_init_9 rfl rfl rfl (by decide) (by decide) (by decide) rfl (by decide) ?_
  refine sk_q_put sn_bc_5 dX2_init_13 sn_oc_5 sn_pf_2_11 (by decide) (by decide) rfl rfl rfl ?_
  refine sn_q_aloadn sn_bc_5 dX2_init_16 rfl ?_
  refine sn_q_bipush sn_bc_5 dX2_init_17 rfl ?_
  refine sn_q_bipush sn_bc_5 dX2_init_19 rfl ?_
  refine sk_q_mna (a := 8) (b := 8) sn_bc_5 dX2_init_21 rfl rfl rfl (by decide) (by decide) (by decide) rfl (by decide) ?_
  refine sk_q_put sn_bc_5 dX2_init_25 sn_oc_5 sn_pf_2_16 (by decide) (by decide) rfl rfl rfl ?_
  refine sn_q_aloadn sn_bc_5 dX2_init_28 rfl ?_
  refine sn_q_bipush sn_bc_5 dX2_init_29 rfl ?_
  refine sn_q_bipush sn_bc_5 dX2_init_31 rfl ?_
  refine sk_q_mna (a := 8) (b := 8) sn_bc_5 dX2_init_33 rfl rfl rfl (by decide) (by decide) (by decide) rfl (by decide) ?_
  refine sk_q_put sn_bc_5 dX2_init_37 sn_oc_5 sn_pf_2_19 (by decide) (by decide) rfl rfl rfl ?_
  refine sn_q_aloadn sn_bc_5 dX2_init_40 rfl ?_
  refine sn_q_bipush sn_bc_5 dX2_init_41 rfl ?_
  refine sk_q_nai (len := 8) sn_bc_5 dX2_init_43 rfl (by decide) (by decide) rfl ?_
  refine sk_q_put sn_bc_5 dX2_init_45 sn_oc_5 sn_pf_2_22 (by decide) (by decide) rfl rfl rfl ?_
  refine sn_q_aloadn sn_bc_5 dX2_init_48 rfl ?_
  refine sn_q_bipush sn_bc_5 dX2_init_49 rfl ?_
  refine sk_q_nai (len := 8) sn_bc_5 dX2_init_51 rfl (by decide) (by decide) rfl ?_
  refine sk_q_put sn_bc_5 dX2_init_53 sn_oc_5 sn_pf_2_26 (by decide) (by decide) rfl rfl rfl ?_
  refine sn_q_aloadn sn_bc_5 dX2_init_56 rfl ?_
  refine sn_q_bipush sn_bc_5 dX2_init_57 rfl ?_
  refine sk_q_naz (len := 8) sn_bc_5 dX2_init_59 rfl (by decide) (by decide) rfl ?_
  refine sk_q_put sn_bc_5 dX2_init_61 sn_oc_5 sn_pf_2_29 (by decide) (by decide) rfl rfl rfl ?_
  refine sn_q_aloadn sn_bc_5 dX2_init_64 rfl ?_
  refine sn_q_bipush sn_bc_5 dX2_init_65 rfl ?_
  refine sk_q_nai (len := 8) sn_bc_5 dX2_init_67 rfl (by decide) (by decide) rfl ?_
  refine sk_q_put sn_bc_5 dX2_init_69 sn_oc_5 sn_pf_2_33 (by decide) (by decide) rfl rfl rfl ?_
  refine sn_q_aloadn sn_bc_5 dX2_init_72 rfl ?_
  refine sn_q_bipush sn_bc_5 dX2_init_73 rfl ?_
  refine sk_q_nai (len := 8) sn_bc_5 dX2_init_75 rfl (by decide) (by decide) rfl ?_
  refine sk_q_put sn_bc_5 dX2_init_77 sn_oc_5 sn_pf_2_36 (by decide) (by decide) rfl rfl rfl ?_
  refine sn_q_aloadn sn_bc_5 dX2_init_80 rfl ?_
  refine sn_q_aloadn sn_bc_5 dX2_init_81 rfl ?_
  refine sk_q_put sn_bc_5 dX2_init_82 sn_oc_5 sn_pf_2_39 (by decide) (by decide) rfl rfl rfl ?_
  refine sn_q_aloadn sn_bc_5 dX2_init_85 rfl ?_
  refine sn_q_aloadn sn_bc_5 dX2_init_86 rfl ?_
  refine sk_q_put sn_bc_5 dX2_init_87 sn_oc_5 sn_pf_2_43 (by decide) (by decide) rfl rfl rfl ?_
  refine sn_q_aloadn sn_bc_5 dX2_init_90 rfl ?_
  refine sn_q_aloadn sn_bc_5 dX2_init_91 rfl ?_
  refine sk_q_put sn_bc_5 dX2_init_92 sn_oc_5 sn_pf_2_47 (by decide) (by decide) rfl rfl rfl ?_
  refine sn_q_vret sn_bc_5 dX2_init_95 rfl ?_
  refine (show ∀ k2 c2, k2 = k + 256 → (∀ a i, c2 a i = if a = 63 ∨ (64 ≤ a ∧ a < 96) then sn_co sk_s0 a i else c a i) → Q none (sk_K 96 k2 Y c2) from fun k2 c2 e1 e2 => e1 ▸ kk c2 e2) _ _ (by omega) (fun a i => ?_)
  by_cases ha : a = 63 ∨ (64 ≤ a ∧ a < 96)
  · rw [if_pos ha]
    by_cases e0 : a = 63
    · subst e0
      match i with
      | 0 => rfl
      | 1 => rfl
      | 2 => rfl
      | 3 => rfl
      | 4 => rfl
      | 5 => rfl
      | 6 => rfl
      | 7 => rfl
      | 8 => rfl
      | 9 => rfl
      | 10 => rfl
      | i + 11 =>
        simp only [sn_w, sk_n, sk_m]
        (repeat (first | rw [if_pos trivial] | rw [if_neg (by omega)] | rw [if_pos (by omega)]))
        rw [hp]
        rfl
    by_cases e64 : a = 64
    · subst e64
      simp only [sn_w, sk_n, sk_m]
      (repeat (first | rw [if_pos trivial] | rw [if_neg (by omega)] | rw [if_pos (by omega)]))
      by_cases hi : i < 8
      · rw [if_pos hi, sn_co1 (v := 64 + 1 + i) (show sn_rf 64 i = 64 + 1 + i from if_pos hi) (by omega)]
      · rw [if_neg hi]; unfold sn_co; rw [show sn_rf 64 i = 1 from if_neg hi, if_neg (by decide), if_pos rfl]
    by_cases r64 : 64 < a ∧ a < 73
    · have hr := (sn_b64 (x := (a : Int) - 65) (by omega) (by omega)).2.2 i
      rw [show 65 + ((a : Int) - 65).toNat = a by omega] at hr
      rw [sn_co0 hr, show sk_s0 a i = 0 from by unfold sk_s0; (repeat (first | rw [if_pos trivial] | rw [if_neg (by omega)] | rw [if_pos (by omega)]))]
      simp only [sn_w, sk_n, sk_m]
      (repeat (first | rw [if_pos trivial] | rw [if_neg (by omega)] | rw [if_pos (by omega)]))
    by_cases e73 : a = 73
    · subst e73
      simp only [sn_w, sk_n, sk_m]
      (repeat (first | rw [if_pos trivial] | rw [if_neg (by omega)] | rw [if_pos (by omega)]))
      by_cases hi : i < 8
      · rw [if_pos hi, sn_co1 (v := 73 + 1 + i) (show sn_rf 73 i = 73 + 1 + i from if_pos hi) (by omega)]
      · rw [if_neg hi]; unfold sn_co; rw [show sn_rf 73 i = 1 from if_neg hi, if_neg (by decide), if_pos rfl]
    by_cases r73 : 73 < a ∧ a < 82
    · have hr := (sn_b73 (x := (a : Int) - 74) (by omega) (by omega)).2.2 i
      rw [show 74 + ((a : Int) - 74).toNat = a by omega] at hr
      rw [sn_co0 hr, show sk_s0 a i = 0 from by unfold sk_s0; (repeat (first | rw [if_pos trivial] | rw [if_neg (by omega)] | rw [if_pos (by omega)]))]
      simp only [sn_w, sk_n, sk_m]
      (repeat (first | rw [if_pos trivial] | rw [if_neg (by omega)] | rw [if_pos (by omega)]))
    by_cases e82 : a = 82
    · subst e82
      simp only [sn_w, sk_n, sk_m]
      (repeat (first | rw [if_pos trivial] | rw [if_neg (by omega)] | rw [if_pos (by omega)]))
      by_cases hi : i < 8
      · rw [if_pos hi, sn_co1 (v := 82 + 1 + i) (show sn_rf 82 i = 82 + 1 + i from if_pos hi) (by omega)]
      · rw [if_neg hi]; unfold sn_co; rw [show sn_rf 82 i = 1 from if_neg hi, if_neg (by decide), if_pos rfl]
    by_cases r82 : 82 < a ∧ a < 91
    · have hr := (sn_b82 (x := (a : Int) - 83) (by omega) (by omega)).2.2 i
      rw [show 83 + ((a : Int) - 83).toNat = a by omega] at hr
      rw [sn_co0 hr, show sk_s0 a i = 0 from by unfold sk_s0; (repeat (first | rw [if_pos trivial] | rw [if_neg (by omega)] | rw [if_pos (by omega)]))]
      simp only [sn_w, sk_n, sk_m]
      (repeat (first | rw [if_pos trivial] | rw [if_neg (by omega)] | rw [if_pos (by omega)]))
    by_cases e91 : a = 91
    · subst e91
      rw [show sn_co sk_s0 91 i = sn_i 0 from rfl]
      simp only [sn_w, sk_n, sk_m]
      (repeat (first | rw [if_pos trivial] | rw [if_neg (by omega)] | rw [if_pos (by omega)]))
    by_cases e92 : a = 92
    · subst e92
      rw [show sn_co sk_s0 92 i = sn_i 0 from rfl]
      simp only [sn_w, sk_n, sk_m]
      (repeat (first | rw [if_pos trivial] | rw [if_neg (by omega)] | rw [if_pos (by omega)]))
    by_cases e93 : a = 93
    · subst e93
      rw [show sn_co sk_s0 93 i = sn_i 0 from rfl]
      simp only [sn_w, sk_n, sk_m]
      (repeat (first | rw [if_pos trivial] | rw [if_neg (by omega)] | rw [if_pos (by omega)]))
    by_cases e94 : a = 94
    · subst e94
      rw [show sn_co sk_s0 94 i = sn_i 0 from rfl]
      simp only [sn_w, sk_n, sk_m]
      (repeat (first | rw [if_pos trivial] | rw [if_neg (by omega)] | rw [if_pos (by omega)]))
    by_cases e95 : a = 95
    · subst e95
      rw [show sn_co sk_s0 95 i = sn_i 0 from rfl]
      simp only [sn_w, sk_n, sk_m]
      (repeat (first | rw [if_pos trivial] | rw [if_neg (by omega)] | rw [if_pos (by omega)]))
    omega
  · rw [if_neg ha]
    simp only [sn_w, sk_n, sk_m]
    (repeat (first | rw [if_pos trivial] | rw [if_neg (by omega)] | rw [if_pos (by omega)]))
theorem sk_init_6 {k : Nat} {Y : Nat → Nat × Nat} {c : Nat → Nat → sn_V} {Q : Option sn_V → sn_H → Prop} (hp : ∀ i, c 96 i = if sn_ft 4 i = 2 then sn_n else sn_i 0) (kk : ∀ c', (∀ a i, c' a i = if a = 96 ∨ (97 ≤ a ∧ a < 211) then sn_co sk_s0 a i else c a i) → Q none (sk_K 211 (k + 1056) Y c')) : sn_Wp 6 0 [sn_r 96, sn_r 9] [] (sk_K 97 k Y c) Q := by
  refine sn_q_aloadn sn_bc_6 dX4_init_0 rfl ?_
  refine sn_q_obj sn_bc_6 dX4_init_1 sn_oc_6 rfl rfl ?_
  refine sn_q_aloadn sn_bc_6 dX4_init_4 rfl ?_
  refine sn_q_bipush sn_bc_6 dX4_init_5 rfl ?_
  refine sn_q_bipush sn_bc_6 dX4_init_7 rfl ?_
  refine sk_q_mna (a := 80) (b := 8) sn_bc_6 dX4_init_9 rfl rfl rfl (by decide) (by decide) (by decide) rfl (by decide) ?_
  refine sk_q_put sn_bc_6 dX4_init_13 sn_oc_6 sn_pf_4_11 (by decide) (by decide) rfl rfl rfl ?_
  refine sn_q_aloadn sn_bc_6 dX4_init_16 rfl ?_
  refine sn_q_bipush sn_bc_6 dX4_init_17 rfl ?_
  refine sk_q_nai (len := 80) sn_bc_6 dX4_init_19 rfl (by decide) (by decide) rfl ?_
  refine sk_q_put sn_bc_6 dX4_init_21 sn_oc_6 sn_pf_4_16 (by decide) (by decide) rfl rfl rfl ?_
  refine sn_q_aloadn sn_bc_6 dX4_init_24 rfl ?_
  refine sn_q_bipush sn_bc_6 dX4_init_25 rfl ?_
  refine sn_q_bipush sn_bc_6 dX4_init_27 rfl ?_
  refine sk_q_mna (a := 8) (b := 8) sn_bc_6 dX4_init_29 rfl rfl rfl (by decide) (by decide) (by decide) rfl (by decide) ?_
  refine sk_q_put sn_bc_6 dX4_init_33 sn_oc_6 sn_pf_4_20 (by decide) (by decide) rfl rfl rfl ?_
  refine sn_q_aloadn sn_bc_6 dX4_init_36 rfl ?_
  refine sn_q_bipush sn_bc_6 dX4_init_37 rfl ?_
  refine sn_q_bipush sn_bc_6 dX4_init_39 rfl ?_
  refine sk_q_mna (a := 8) (b := 8) sn_bc_6 dX4_init_41 rfl rfl rfl (by decide) (by decide) (by decide) rfl (by decide) ?_
  refine sk_q_put sn_bc_6 dX4_init_45 sn_oc_6 sn_pf_4_23 (by decide) (by decide) rfl rfl rfl ?_
  refine sn_q_aloadn sn_bc_6 dX4_init_48 rfl ?_
  refine sn_q_bipush sn_bc_6 dX4_init_49 rfl ?_
  refine sn_q_bipush sn_bc_6 dX4_init_51 rfl ?_
  refine sk_q_mna (a := 8) (b := 8) sn_bc_6 dX4_init_53 rfl rfl rfl (by decide) (by decide) (by decide) rfl (by decide) ?_
  refine sk_q_put sn_bc_6 dX4_init_57 sn_oc_6 sn_pf_4_26 (by decide) (by decide) rfl rfl rfl ?_
  refine sn_q_aloadn sn_bc_6 dX4_init_60 rfl ?_
  refine sn_q_bipush sn_bc_6 dX4_init_61 rfl ?_
  refine sk_q_nai (len := 8) sn_bc_6 dX4_init_63 rfl (by decide) (by decide) rfl ?_
  refine sk_q_put sn_bc_6 dX4_init_65 sn_oc_6 sn_pf_4_29 (by decide) (by decide) rfl rfl rfl ?_
  refine sn_q_aloadn sn_bc_6 dX4_init_68 rfl ?_
  refine sn_q_bipush sn_bc_6 dX4_init_69 rfl ?_
  refine sk_q_nai (len := 8) sn_bc_6 dX4_init_71 rfl (by decide) (by decide) rfl ?_
  refine sk_q_put sn_bc_6 dX4_init_73 sn_oc_6 sn_pf_4_32 (by decide) (by decide) rfl rfl rfl ?_
  refine sn_q_aloadn sn_bc_6 dX4_init_76 rfl ?_
  refine sn_q_bipush sn_bc_6 dX4_init_77 rfl ?_
  refine sk_q_nai (len := 8) sn_bc_6 dX4_init_79 rfl (by decide) (by decide) rfl ?_
  refine sk_q_put sn_bc_6 dX4_init_81 sn_oc_6 sn_pf_4_35 (by decide) (by decide) rfl rfl rfl ?_
  refine sn_q_aloadn sn_bc_6 dX4_init_84 rfl ?_
  refine sn_q_bipush sn_bc_6 dX4_init_85 rfl ?_
  refine sk_q_nai (len := 8) sn_bc_6 dX4_init_87 rfl (by decide) (by decide) rfl ?_
  refine sk_q_put sn_bc_6 dX4_init_89 sn_oc_6 sn_pf_4_38 (by decide) (by decide) rfl rfl rfl ?_
  refine sn_q_aloadn sn_bc_6 dX4_init_92 rfl ?_
  refine sn_q_bipush sn_bc_6 dX4_init_93 rfl ?_
  refine sk_q_nai (len := 8) sn_bc_6 dX4_init_95 rfl (by decide) (by decide) rfl ?_
  refine sk_q_put sn_bc_6 dX4_init_97 sn_oc_6 sn_pf_4_41 (by decide) (by decide) rfl rfl rfl ?_
  refine sn_q_aloadn sn_bc_6 dX4_init_100 rfl ?_
  refine sn_q_aloadn sn_bc_6 dX4_init_101 rfl ?_
  refine sk_q_put sn_bc_6 dX4_init_102 sn_oc_6 sn_pf_4_44 (by decide) (by decide) rfl rfl rfl ?_
  refine sn_q_vret sn_bc_6 dX4_init_105 rfl ?_
  refine (show ∀ k2 c2, k2 = k + 1056 → (∀ a i, c2 a i = if a = 96 ∨ (97 ≤ a ∧ a < 211) then sn_co sk_s0 a i else c a i) → Q none (sk_K 211 k2 Y c2) from fun k2 c2 e1 e2 => e1 ▸ kk c2 e2) _ _ (by omega) (fun a i => ?_)
  by_cases ha : a = 96 ∨ (97 ≤ a ∧ a < 211)
  · rw [if_pos ha]
    by_cases e0 : a = 96
    · subst e0
      match i with
      | 0 => rfl
      | 1 => rfl
      | 2 => rfl
      | 3 => rfl
      | 4 => rfl
      | 5 => rfl
      | 6 => rfl
      | 7 => rfl
      | 8 => rfl
      | 9 => rfl
      | 10 => rfl
      | i + 11 =>
        simp only [sn_w, sk_n, sk_m]
        (repeat (first | rw [if_pos trivial] | rw [if_neg (by omega)] | rw [if_pos (by omega)]))
        rw [hp]
        rfl
    by_cases e97 : a = 97
    · subst e97
      simp only [sn_w, sk_n, sk_m]
      (repeat (first | rw [if_pos trivial] | rw [if_neg (by omega)] | rw [if_pos (by omega)]))
      by_cases hi : i < 80
      · rw [if_pos hi, sn_co1 (v := 97 + 1 + i) (show sn_rf 97 i = 97 + 1 + i from if_pos hi) (by omega)]
      · rw [if_neg hi]; unfold sn_co; rw [show sn_rf 97 i = 1 from if_neg hi, if_neg (by decide), if_pos rfl]
    by_cases r97 : 97 < a ∧ a < 178
    · have hr := (sn_b97 (x := (a : Int) - 98) (by omega) (by omega)).2.2 i
      rw [show 98 + ((a : Int) - 98).toNat = a by omega] at hr
      rw [sn_co0 hr, show sk_s0 a i = 0 from by unfold sk_s0; (repeat (first | rw [if_pos trivial] | rw [if_neg (by omega)] | rw [if_pos (by omega)]))]
      simp only [sn_w, sk_n, sk_m]
      (repeat (first | rw [if_pos trivial] | rw [if_neg (by omega)] | rw [if_pos (by omega)]))
    by_cases e178 : a = 178
    · subst e178
      rw [show sn_co sk_s0 178 i = sn_i 0 from rfl]
      simp only [sn_w, sk_n, sk_m]
      (repeat (first | rw [if_pos trivial] | rw [if_neg (by omega)] | rw [if_pos (by omega)]))
    by_cases e179 : a = 179
    · subst e179
      simp only [sn_w, sk_n, sk_m]
      (repeat (first | rw [if_pos trivial] | rw [if_neg (by omega)] | rw [if_pos (by omega)]))
      by_cases hi : i < 8
      · rw [if_pos hi, sn_co1 (v := 179 + 1 + i) (show sn_rf 179 i = 179 + 1 + i from if_pos hi) (by omega)]
      · rw [if_neg hi]; unfold sn_co; rw [show sn_rf 179 i = 1 from if_neg hi, if_neg (by decide), if_pos rfl]
    by_cases r179 : 179 < a ∧ a < 188
    · have hr := (sn_b179 (x := (a : Int) - 180) (by omega) (by omega)).2.2 i
      rw [show 180 + ((a : Int) - 180).toNat = a by omega] at hr
      rw [sn_co0 hr, show sk_s0 a i = 0 from by unfold sk_s0; (repeat (first | rw [if_pos trivial] | rw [if_neg (by omega)] | rw [if_pos (by omega)]))]
      simp only [sn_w, sk_n, sk_m]
      (repeat (first | rw [if_pos trivial] | rw [if_neg (by omega)] | rw [if_pos (by omega)]))
    by_cases e188 : a = 188
    · subst e188
      simp only [sn_w, sk_n, sk_m]
      (repeat (first | rw [if_pos trivial] | rw [if_neg (by omega)] | rw [if_pos (by omega)]))
      by_cases hi : i < 8
      · rw [if_pos hi, sn_co1 (v := 188 + 1 + i) (show sn_rf 188 i = 188 + 1 + i from if_pos hi) (by omega)]
      · rw [if_neg hi]; unfold sn_co; rw [show sn_rf 188 i = 1 from if_neg hi, if_neg (by decide), if_pos rfl]
    by_cases r188 : 188 < a ∧ a < 197
    · have hr := (sn_b188 (x := (a : Int) - 189) (by omega) (by omega)).2.2 i
      rw [show 189 + ((a : Int) - 189).toNat = a by omega] at hr
      rw [sn_co0 hr, show sk_s0 a i = 0 from by unfold sk_s0; (repeat (first | rw [if_pos trivial] | rw [if_neg (by omega)] | rw [if_pos (by omega)]))]
      simp only [sn_w, sk_n, sk_m]
      (repeat (first | rw [if_pos trivial] | rw [if_neg (by omega)] | rw [if_pos (by omega)]))
    by_cases e197 : a = 197
    · subst e197
      simp only [sn_w, sk_n, sk_m]
      (repeat (first | rw [if_pos trivial] | rw [if_neg (by omega)] | rw [if_pos (by omega)]))
      by_cases hi : i < 8
      · rw [if_pos hi, sn_co1 (v := 197 + 1 + i) (show sn_rf 197 i = 197 + 1 + i from if_pos hi) (by omega)]
      · rw [if_neg hi]; unfold sn_co; rw [show sn_rf 197 i = 1 from if_neg hi, if_neg (by decide), if_pos rfl]
    by_cases r197 : 197 < a ∧ a < 206
    · have hr := (sn_b197 (x := (a : Int) - 198) (by omega) (by omega)).2.2 i
      rw [show 198 + ((a : Int) - 198).toNat = a by omega] at hr
      rw [sn_co0 hr, show sk_s0 a i = 0 from by unfold sk_s0; (repeat (first | rw [if_pos trivial] | rw [if_neg (by omega)] | rw [if_pos (by omega)]))]
      simp only [sn_w, sk_n, sk_m]
      (repeat (first | rw [if_pos trivial] | rw [if_neg (by omega)] | rw [if_pos (by omega)]))
    by_cases e206 : a = 206
    · subst e206
      rw [show sn_co sk_s0 206 i = sn_i 0 from rfl]
      simp only [sn_w, sk_n, sk_m]
      (repeat (first | rw [if_pos trivial] | rw [if_neg (by omega)] | rw [if_pos (by omega)]))
    by_cases e207 : a = 207
    · subst e207
      rw [show sn_co sk_s0 207 i = sn_i 0 from rfl]
      simp only [sn_w, sk_n, sk_m]
      (repeat (first | rw [if_pos trivial] | rw [if_neg (by omega)] | rw [if_pos (by omega)]))
    by_cases e208 : a = 208
    · subst e208
      rw [show sn_co sk_s0 208 i = sn_i 0 from rfl]
      simp only [sn_w, sk_n, sk_m]
      (repeat (first | rw [if_pos trivial] | rw [if_neg (by omega)] | rw [if_pos (by omega)]))
    by_cases e209 : a = 209
    · subst e209
      rw [show sn_co sk_s0 209 i = sn_i 0 from rfl]
      simp only [sn_w, sk_n, sk_m]
      (repeat (first | rw [if_pos trivial] | rw [if_neg (by omega)] | rw [if_pos (by omega)]))
    by_cases e210 : a = 210
    · subst e210
      rw [show sn_co sk_s0 210 i = sn_i 0 from rfl]
      simp only [sn_w, sk_n, sk_m]
      (repeat (first | rw [if_pos trivial] | rw [if_neg (by omega)] | rw [if_pos (by omega)]))
    omega
  · rw [if_neg ha]
    simp only [sn_w, sk_n, sk_m]
    (repeat (first | rw [if_pos trivial] | rw [if_neg (by omega)] | rw [if_pos (by omega)]))
theorem sk_init_7 {k : Nat} {Y : Nat → Nat × Nat} {c : Nat → Nat → sn_V} {Q : Option sn_V → sn_H → Prop} (hp : ∀ i, c 211 i = if sn_ft 6 i = 2 then sn_n else sn_i 0) (kk : ∀ c', (∀ a i, c' a i = if a = 211 ∨ (212 ≤ a ∧ a < 212) then sn_co sk_s0 a i else c a i) → Q none (sk_K 212 (k + 0) Y c')) : sn_Wp 7 0 [sn_r 211] [] (sk_K 212 k Y c) Q := by
  refine sn_q_aloadn sn_bc_7 dX6_init_0 rfl ?_
  refine sn_q_obj sn_bc_7 dX6_init_1 sn_oc_7 rfl rfl ?_
  refine sn_q_aloadn sn_bc_7 dX6_init_4 rfl ?_
  refine sn_q_sipush sn_bc_7 dX6_init_5 rfl ?_
  refine sk_q_put sn_bc_7 dX6_init_8 sn_oc_7 sn_pf_6_7 (by decide) (by decide) rfl rfl rfl ?_
  refine sn_q_aloadn sn_bc_7 dX6_init_11 rfl ?_
  refine sn_q_bipush sn_bc_7 dX6_init_12 rfl ?_
  refine sk_q_put sn_bc_7 dX6_init_14 sn_oc_7 sn_pf_6_13 (by decide) (by decide) rfl rfl rfl ?_
  refine sn_q_aloadn sn_bc_7 dX6_init_17 rfl ?_
  refine sn_q_bipush sn_bc_7 dX6_init_18 rfl ?_
  refine sk_q_put sn_bc_7 dX6_init_20 sn_oc_7 sn_pf_6_16 (by decide) (by decide) rfl rfl rfl ?_
  refine sn_q_aloadn sn_bc_7 dX6_init_23 rfl ?_
  refine sn_q_bipush sn_bc_7 dX6_init_24 rfl ?_
  refine sk_q_put sn_bc_7 dX6_init_26 sn_oc_7 sn_pf_6_19 (by decide) (by decide) rfl rfl rfl ?_
  refine sn_q_aloadn sn_bc_7 dX6_init_29 rfl ?_
  refine sn_q_iconst sn_bc_7 dX6_init_30 rfl ?_
  refine sk_q_put sn_bc_7 dX6_init_31 sn_oc_7 sn_pf_6_22 (by decide) (by decide) rfl rfl rfl ?_
  refine sn_q_vret sn_bc_7 dX6_init_34 rfl ?_
  refine (show ∀ k2 c2, k2 = k + 0 → (∀ a i, c2 a i = if a = 211 ∨ (212 ≤ a ∧ a < 212) then sn_co sk_s0 a i else c a i) → Q none (sk_K 212 k2 Y c2) from fun k2 c2 e1 e2 => e1 ▸ kk c2 e2) _ _ (by omega) (fun a i => ?_)
  by_cases ha : a = 211 ∨ (212 ≤ a ∧ a < 212)
  · rw [if_pos ha]
    by_cases e0 : a = 211
    · subst e0
      match i with
      | 0 => rfl
      | 1 => rfl
      | 2 => rfl
      | 3 => rfl
      | 4 => rfl
      | i + 5 =>
        simp only [sn_w, sk_n, sk_m]
        (repeat (first | rw [if_pos trivial] | rw [if_neg (by omega)] | rw [if_pos (by omega)]))
        rw [hp]
        rfl
    omega
  · rw [if_neg ha]
    simp only [sn_w, sk_n, sk_m]
    (repeat (first | rw [if_pos trivial] | rw [if_neg (by omega)] | rw [if_pos (by omega)]))
theorem sk_init_8 {k : Nat} {Y : Nat → Nat × Nat} {c : Nat → Nat → sn_V} {Q : Option sn_V → sn_H → Prop} (hp : ∀ i, c 212 i = if sn_ft 5 i = 2 then sn_n else sn_i 0) (kk : ∀ c', (∀ a i, c' a i = if a = 212 ∨ (213 ≤ a ∧ a < 217) then sn_co sk_s0 a i else c a i) → Q none (sk_K 217 (k + 32) Y c')) : sn_Wp 8 0 [sn_r 212, sn_r 9, sn_r 15, sn_r 63, sn_r 96] [] (sk_K 213 k Y c) Q := by
  refine sn_q_aloadn sn_bc_8 dX5_init_0 rfl ?_
  refine sn_q_obj sn_bc_8 dX5_init_1 sn_oc_8 rfl rfl ?_
  refine sn_q_aloadn sn_bc_8 dX5_init_4 rfl ?_
  refine sn_q_bipush sn_bc_8 dX5_init_5 rfl ?_
  refine sk_q_nai (len := 8) sn_bc_8 dX5_init_7 rfl (by decide) (by decide) rfl ?_
  refine sk_q_put sn_bc_8 dX5_init_9 sn_oc_8 sn_pf_5_9 (by decide) (by decide) rfl rfl rfl ?_
  refine sn_q_aloadn sn_bc_8 dX5_init_12 rfl ?_
  refine sn_q_bipush sn_bc_8 dX5_init_13 rfl ?_
  refine sk_q_nai (len := 8) sn_bc_8 dX5_init_15 rfl (by decide) (by decide) rfl ?_
  refine sk_q_put sn_bc_8 dX5_init_17 sn_oc_8 sn_pf_5_15 (by decide) (by decide) rfl rfl rfl ?_
  refine sn_q_aloadn sn_bc_8 dX5_init_20 rfl ?_
  refine sn_q_bipush sn_bc_8 dX5_init_21 rfl ?_
  refine sk_q_nai (len := 8) sn_bc_8 dX5_init_23 rfl (by decide) (by decide) rfl ?_
  refine sk_q_put sn_bc_8 dX5_init_25 sn_oc_8 sn_pf_5_18 (by decide) (by decide) rfl rfl rfl ?_
  refine sn_q_aloadn sn_bc_8 dX5_init_28 rfl ?_
  refine sn_q_bipush sn_bc_8 dX5_init_29 rfl ?_
  refine sk_q_nai (len := 8) sn_bc_8 dX5_init_31 rfl (by decide) (by decide) rfl ?_
  refine sk_q_put sn_bc_8 dX5_init_33 sn_oc_8 sn_pf_5_21 (by decide) (by decide) rfl rfl rfl ?_
  refine sn_q_aloadn sn_bc_8 dX5_init_36 rfl ?_
  refine sn_q_iconst sn_bc_8 dX5_init_37 rfl ?_
  refine sk_q_put sn_bc_8 dX5_init_38 sn_oc_8 sn_pf_5_24 (by decide) (by decide) rfl rfl rfl ?_
  refine sn_q_aloadn sn_bc_8 dX5_init_41 rfl ?_
  refine sn_q_aloadn sn_bc_8 dX5_init_42 rfl ?_
  refine sk_q_put sn_bc_8 dX5_init_43 sn_oc_8 sn_pf_5_28 (by decide) (by decide) rfl rfl rfl ?_
  refine sn_q_aloadn sn_bc_8 dX5_init_46 rfl ?_
  refine sn_q_aloadn sn_bc_8 dX5_init_47 rfl ?_
  refine sk_q_put sn_bc_8 dX5_init_48 sn_oc_8 sn_pf_5_32 (by decide) (by decide) rfl rfl rfl ?_
  refine sn_q_aloadn sn_bc_8 dX5_init_51 rfl ?_
  refine sn_q_aloadn sn_bc_8 dX5_init_52 rfl ?_
  refine sk_q_put sn_bc_8 dX5_init_53 sn_oc_8 sn_pf_5_36 (by decide) (by decide) rfl rfl rfl ?_
  refine sn_q_aloadn sn_bc_8 dX5_init_56 rfl ?_
  refine sn_q_aload sn_bc_8 dX5_init_57 rfl ?_
  refine sk_q_put sn_bc_8 dX5_init_59 sn_oc_8 sn_pf_5_40 (by decide) (by decide) rfl rfl rfl ?_
  refine sn_q_vret sn_bc_8 dX5_init_62 rfl ?_
  refine (show ∀ k2 c2, k2 = k + 32 → (∀ a i, c2 a i = if a = 212 ∨ (213 ≤ a ∧ a < 217) then sn_co sk_s0 a i else c a i) → Q none (sk_K 217 k2 Y c2) from fun k2 c2 e1 e2 => e1 ▸ kk c2 e2) _ _ (by omega) (fun a i => ?_)
  by_cases ha : a = 212 ∨ (213 ≤ a ∧ a < 217)
  · rw [if_pos ha]
    by_cases e0 : a = 212
    · subst e0
      match i with
      | 0 => rfl
      | 1 => rfl
      | 2 => rfl
      | 3 => rfl
      | 4 => rfl
      | 5 => rfl
      | 6 => rfl
      | 7 => rfl
      | 8 => rfl
      | i + 9 =>
        simp only [sn_w, sk_n, sk_m]
        (repeat (first | rw [if_pos trivial] | rw [if_neg (by omega)] | rw [if_pos (by omega)]))
        rw [hp]
        rfl
    by_cases e213 : a = 213
    · subst e213
      rw [show sn_co sk_s0 213 i = sn_i 0 from rfl]
      simp only [sn_w, sk_n, sk_m]
      (repeat (first | rw [if_pos trivial] | rw [if_neg (by omega)] | rw [if_pos (by omega)]))
    by_cases e214 : a = 214
    · subst e214
      rw [show sn_co sk_s0 214 i = sn_i 0 from rfl]
      simp only [sn_w, sk_n, sk_m]
      (repeat (first | rw [if_pos trivial] | rw [if_neg (by omega)] | rw [if_pos (by omega)]))
    by_cases e215 : a = 215
    · subst e215
      rw [show sn_co sk_s0 215 i = sn_i 0 from rfl]
      simp only [sn_w, sk_n, sk_m]
      (repeat (first | rw [if_pos trivial] | rw [if_neg (by omega)] | rw [if_pos (by omega)]))
    by_cases e216 : a = 216
    · subst e216
      rw [show sn_co sk_s0 216 i = sn_i 0 from rfl]
      simp only [sn_w, sk_n, sk_m]
      (repeat (first | rw [if_pos trivial] | rw [if_neg (by omega)] | rw [if_pos (by omega)]))
    omega
  · rw [if_neg ha]
    simp only [sn_w, sk_n, sk_m]
    (repeat (first | rw [if_pos trivial] | rw [if_neg (by omega)] | rw [if_pos (by omega)]))
theorem sk_init_9 {k : Nat} {Y : Nat → Nat × Nat} {c : Nat → Nat → sn_V} {Q : Option sn_V → sn_H → Prop} (hp : ∀ i, c 217 i = if sn_ft 1 i = 2 then sn_n else sn_i 0) (kk : ∀ c', (∀ a i, c' a i = if a = 217 ∨ (218 ≤ a ∧ a < 231) then sn_co sk_s0 a i else c a i) → Q none (sk_K 231 (k + 104) Y c')) : sn_Wp 9 0 [sn_r 217, sn_r 3, sn_r 9] [] (sk_K 218 k Y c) Q := by
  refine sn_q_aloadn sn_bc_9 dX1_init_0 rfl ?_
  refine sn_q_obj sn_bc_9 dX1_init_1 sn_oc_9 rfl rfl ?_
  refine sn_q_aloadn sn_bc_9 dX1_init_4 rfl ?_
  refine sn_q_bipush sn_bc_9 dX1_init_5 rfl ?_
  refine sn_q_bipush sn_bc_9 dX1_init_7 rfl ?_
  refine sk_q_mna (a := 8) (b := 8) sn_bc_9 dX1_init_9 rfl rfl rfl (by decide) (by decide) (by decide) rfl (by decide) ?_
  refine sk_q_put sn_bc_9 dX1_init_13 sn_oc_9 sn_pf_1_11 (by decide) (by decide) rfl rfl rfl ?_
  refine sn_q_aloadn sn_bc_9 dX1_init_16 rfl ?_
  refine sn_q_bipush sn_bc_9 dX1_init_17 rfl ?_
  refine sk_q_nai (len := 8) sn_bc_9 dX1_init_19 rfl (by decide) (by decide) rfl ?_
  refine sk_q_put sn_bc_9 dX1_init_21 sn_oc_9 sn_pf_1_16 (by decide) (by decide) rfl rfl rfl ?_
  refine sn_q_aloadn sn_bc_9 dX1_init_24 rfl ?_
  refine sn_q_bipush sn_bc_9 dX1_init_25 rfl ?_
  refine sk_q_naz (len := 8) sn_bc_9 dX1_init_27 rfl (by decide) (by decide) rfl ?_
  refine sk_q_put sn_bc_9 dX1_init_29 sn_oc_9 sn_pf_1_20 (by decide) (by decide) rfl rfl rfl ?_
  refine sn_q_aloadn sn_bc_9 dX1_init_32 rfl ?_
  refine sn_q_bipush sn_bc_9 dX1_init_33 rfl ?_
  refine sk_q_naz (len := 8) sn_bc_9 dX1_init_35 rfl (by decide) (by decide) rfl ?_
  refine sk_q_put sn_bc_9 dX1_init_37 sn_oc_9 sn_pf_1_24 (by decide) (by decide) rfl rfl rfl ?_
  refine sn_q_aloadn sn_bc_9 dX1_init_40 rfl ?_
  refine sn_q_bipush sn_bc_9 dX1_init_41 rfl ?_
  refine sk_q_naz (len := 8) sn_bc_9 dX1_init_43 rfl (by decide) (by decide) rfl ?_
  refine sk_q_put sn_bc_9 dX1_init_45 sn_oc_9 sn_pf_1_27 (by decide) (by decide) rfl rfl rfl ?_
  refine sn_q_aloadn sn_bc_9 dX1_init_48 rfl ?_
  refine sn_q_iconst sn_bc_9 dX1_init_49 rfl ?_
  refine sk_q_put sn_bc_9 dX1_init_50 sn_oc_9 sn_pf_1_30 (by decide) (by decide) rfl rfl rfl ?_
  refine sn_q_aloadn sn_bc_9 dX1_init_53 rfl ?_
  refine sn_q_iconst sn_bc_9 dX1_init_54 rfl ?_
  refine sk_q_put sn_bc_9 dX1_init_55 sn_oc_9 sn_pf_1_34 (by decide) (by decide) rfl rfl rfl ?_
  refine sn_q_aloadn sn_bc_9 dX1_init_58 rfl ?_
  refine sn_q_aloadn sn_bc_9 dX1_init_59 rfl ?_
  refine sk_q_put sn_bc_9 dX1_init_60 sn_oc_9 sn_pf_1_37 (by decide) (by decide) rfl rfl rfl ?_
  refine sn_q_aloadn sn_bc_9 dX1_init_63 rfl ?_
  refine sn_q_aloadn sn_bc_9 dX1_init_64 rfl ?_
  refine sk_q_put sn_bc_9 dX1_init_65 sn_oc_9 sn_pf_1_41 (by decide) (by decide) rfl rfl rfl ?_
  refine sn_q_vret sn_bc_9 dX1_init_68 rfl ?_
  refine (show ∀ k2 c2, k2 = k + 104 → (∀ a i, c2 a i = if a = 217 ∨ (218 ≤ a ∧ a < 231) then sn_co sk_s0 a i else c a i) → Q none (sk_K 231 k2 Y c2) from fun k2 c2 e1 e2 => e1 ▸ kk c2 e2) _ _ (by omega) (fun a i => ?_)
  by_cases ha : a = 217 ∨ (218 ≤ a ∧ a < 231)
  · rw [if_pos ha]
    by_cases e0 : a = 217
    · subst e0
      match i with
      | 0 => rfl
      | 1 => rfl
      | 2 => rfl
      | 3 => rfl
      | 4 => rfl
      | 5 => rfl
      | 6 => rfl
      | 7 => rfl
      | 8 => rfl
      | i + 9 =>
        simp only [sn_w, sk_n, sk_m]
        (repeat (first | rw [if_pos trivial] | rw [if_neg (by omega)] | rw [if_pos (by omega)]))
        rw [hp]
        rfl
    by_cases e218 : a = 218
    · subst e218
      simp only [sn_w, sk_n, sk_m]
      (repeat (first | rw [if_pos trivial] | rw [if_neg (by omega)] | rw [if_pos (by omega)]))
      by_cases hi : i < 8
      · rw [if_pos hi, sn_co1 (v := 218 + 1 + i) (show sn_rf 218 i = 218 + 1 + i from if_pos hi) (by omega)]
      · rw [if_neg hi]; unfold sn_co; rw [show sn_rf 218 i = 1 from if_neg hi, if_neg (by decide), if_pos rfl]
    by_cases r218 : 218 < a ∧ a < 227
    · have hr := (sn_b218 (x := (a : Int) - 219) (by omega) (by omega)).2.2 i
      rw [show 219 + ((a : Int) - 219).toNat = a by omega] at hr
      rw [sn_co0 hr, show sk_s0 a i = 0 from by unfold sk_s0; (repeat (first | rw [if_pos trivial] | rw [if_neg (by omega)] | rw [if_pos (by omega)]))]
      simp only [sn_w, sk_n, sk_m]
      (repeat (first | rw [if_pos trivial] | rw [if_neg (by omega)] | rw [if_pos (by omega)]))
    by_cases e227 : a = 227
    · subst e227
      rw [show sn_co sk_s0 227 i = sn_i 0 from rfl]
      simp only [sn_w, sk_n, sk_m]
      (repeat (first | rw [if_pos trivial] | rw [if_neg (by omega)] | rw [if_pos (by omega)]))
    by_cases e228 : a = 228
    · subst e228
      rw [show sn_co sk_s0 228 i = sn_i 0 from rfl]
      simp only [sn_w, sk_n, sk_m]
      (repeat (first | rw [if_pos trivial] | rw [if_neg (by omega)] | rw [if_pos (by omega)]))
    by_cases e229 : a = 229
    · subst e229
      rw [show sn_co sk_s0 229 i = sn_i 0 from rfl]
      simp only [sn_w, sk_n, sk_m]
      (repeat (first | rw [if_pos trivial] | rw [if_neg (by omega)] | rw [if_pos (by omega)]))
    by_cases e230 : a = 230
    · subst e230
      rw [show sn_co sk_s0 230 i = sn_i 0 from rfl]
      simp only [sn_w, sk_n, sk_m]
      (repeat (first | rw [if_pos trivial] | rw [if_neg (by omega)] | rw [if_pos (by omega)]))
    omega
  · rw [if_neg ha]
    simp only [sn_w, sk_n, sk_m]
    (repeat (first | rw [if_pos trivial] | rw [if_neg (by omega)] | rw [if_pos (by omega)]))
theorem sk_init_0 {k : Nat} {Y : Nat → Nat × Nat} {c : Nat → Nat → sn_V} {Q : Option sn_V → sn_H → Prop} (hp : ∀ i, c 2 i = if sn_ft 9 i = 2 then sn_n else sn_i 0) (kk : ∀ c', (∀ a i, c' a i = if 2 ≤ a ∧ a < 231 then sn_co sk_s0 a i else c a i) → Q none (sk_K 231 (k + 2060) Y c')) : sn_Wp 0 0 [sn_r 2, sn_u, sn_u, sn_u, sn_u, sn_u, sn_u] [] (sk_K 3 k Y c) Q := by
  refine sn_q_aloadn sn_bc_0 dX9_init_0 rfl ?_
  refine sn_q_obj sn_bc_0 dX9_init_1 sn_oc_0 rfl rfl ?_
  refine sk_q_new (ci := 3) (len := 6) sn_bc_0 dX9_init_4 sn_oc_0 rfl (by decide) rfl rfl ?_
  refine sn_q_dup sn_bc_0 dX9_init_7 rfl ?_
  refine sn_q_invC sn_bc_0 dX9_init_8 sn_oc_0 (show sn_pc 9 9 = some (1, 0) from rfl) (by decide) (by decide) rfl (by decide) (show 3 < 4 from by decide) rfl rfl rfl (sk_init_1 (c := _) (k := _) (fun i => by first | rfl | skip) (fun c_8 h_8 => ?_))
  refine sn_q_astn1 sn_bc_0 dX9_init_11 rfl ?_
  refine sk_q_new (ci := 7) (len := 7) sn_bc_0 dX9_init_12 sn_oc_0 rfl (by decide) rfl rfl ?_
  refine sn_q_dup sn_bc_0 dX9_init_15 rfl ?_
  refine sn_q_invC sn_bc_0 dX9_init_16 sn_oc_0 (show sn_pc 9 12 = some (2, 0) from rfl) (by decide) (by decide) rfl (by decide) (show 9 < 10 from by decide) rfl rfl rfl (sk_init_2 (c := _) (k := _) (fun i => by first | rfl | skip) (fun c_16 h_16 => ?_))
  refine sn_q_astn2 sn_bc_0 dX9_init_19 rfl ?_
  refine sk_q_new (ci := 8) (len := 5) sn_bc_0 dX9_init_20 sn_oc_0 rfl (by decide) rfl rfl ?_
  refine sn_q_dup sn_bc_0 dX9_init_23 rfl ?_
  refine sn_q_aloadn sn_bc_0 dX9_init_24 rfl ?_
  refine sn_q_invC sn_bc_0 dX9_init_25 sn_oc_0 (show sn_pc 9 15 = some (3, 1) from rfl) (by decide) (by decide) rfl (by decide) (show 15 < 16 from by decide) rfl rfl rfl (sk_init_3 (c := _) (k := _) (fun i => by first | rfl | skip) (fun c_25 h_25 => ?_))
  refine sn_q_astn3 sn_bc_0 dX9_init_28 rfl ?_
  refine sk_q_new (ci := 0) (len := 5) sn_bc_0 dX9_init_29 sn_oc_0 rfl (by decide) rfl rfl ?_
  refine sn_q_dup sn_bc_0 dX9_init_32 rfl ?_
  refine sn_q_aloadn sn_bc_0 dX9_init_33 rfl ?_
  refine sn_q_invC sn_bc_0 dX9_init_34 sn_oc_0 (show sn_pc 9 20 = some (4, 1) from rfl) (by decide) (by decide) rfl (by decide) (show 18 < 19 from by decide) rfl rfl rfl (sk_init_4 (c := _) (k := _) (fun i => by first | rfl | skip) (fun c_34 h_34 => ?_))
  refine sn_q_ast4 sn_bc_0 dX9_init_37 rfl ?_
  refine sk_q_new (ci := 2) (len := 11) sn_bc_0 dX9_init_39 sn_oc_0 rfl (by decide) rfl rfl ?_
  refine sn_q_dup sn_bc_0 dX9_init_42 rfl ?_
  refine sn_q_aloadn sn_bc_0 dX9_init_43 rfl ?_
  refine sn_q_aloadn sn_bc_0 dX9_init_44 rfl ?_
  refine sn_q_aload sn_bc_0 dX9_init_45 rfl ?_
  refine sn_q_invC sn_bc_0 dX9_init_47 sn_oc_0 (show sn_pc 9 23 = some (5, 3) from rfl) (by decide) (by decide) rfl (by decide) (show 63 < 64 from by decide) rfl rfl rfl (sk_init_5 (c := _) (k := _) (fun i => by first | rfl | skip) (fun c_47 h_47 => ?_))
  refine sn_q_ast5 sn_bc_0 dX9_init_50 rfl ?_
  refine sk_q_new (ci := 4) (len := 11) sn_bc_0 dX9_init_52 sn_oc_0 rfl (by decide) rfl rfl ?_
  refine sn_q_dup sn_bc_0 dX9_init_55 rfl ?_
  refine sn_q_aloadn sn_bc_0 dX9_init_56 rfl ?_
  refine sn_q_invC sn_bc_0 dX9_init_57 sn_oc_0 (show sn_pc 9 28 = some (6, 1) from rfl) (by decide) (by decide) rfl (by decide) (show 96 < 97 from by decide) rfl rfl rfl (sk_init_6 (c := _) (k := _) (fun i => by first | rfl | skip) (fun c_57 h_57 => ?_))
  refine sn_q_ast6 sn_bc_0 dX9_init_60 rfl ?_
  refine sn_q_aloadn sn_bc_0 dX9_init_62 rfl ?_
  refine sk_q_new (ci := 6) (len := 5) sn_bc_0 dX9_init_63 sn_oc_0 rfl (by decide) rfl rfl ?_
  refine sn_q_dup sn_bc_0 dX9_init_66 rfl ?_
  refine sn_q_invC sn_bc_0 dX9_init_67 sn_oc_0 (show sn_pc 9 31 = some (7, 0) from rfl) (by decide) (by decide) rfl (by decide) (show 211 < 212 from by decide) rfl rfl rfl (sk_init_7 (c := _) (k := _) (fun i => by first | rfl | skip) (fun c_67 h_67 => ?_))
  refine sk_q_put sn_bc_0 dX9_init_70 sn_oc_0 sn_pf_9_32 (by decide) (by decide) rfl rfl rfl ?_
  refine sn_q_aloadn sn_bc_0 dX9_init_73 rfl ?_
  refine sn_q_aloadn sn_bc_0 dX9_init_74 rfl ?_
  refine sk_q_put sn_bc_0 dX9_init_75 sn_oc_0 sn_pf_9_38 (by decide) (by decide) rfl rfl rfl ?_
  refine sn_q_aloadn sn_bc_0 dX9_init_78 rfl ?_
  refine sn_q_aloadn sn_bc_0 dX9_init_79 rfl ?_
  refine sk_q_put sn_bc_0 dX9_init_80 sn_oc_0 sn_pf_9_42 (by decide) (by decide) rfl rfl rfl ?_
  refine sn_q_aloadn sn_bc_0 dX9_init_83 rfl ?_
  refine sn_q_aloadn sn_bc_0 dX9_init_84 rfl ?_
  refine sk_q_put sn_bc_0 dX9_init_85 sn_oc_0 sn_pf_9_46 (by decide) (by decide) rfl rfl rfl ?_
  refine sn_q_aloadn sn_bc_0 dX9_init_88 rfl ?_
  refine sn_q_aload sn_bc_0 dX9_init_89 rfl ?_
  refine sk_q_put sn_bc_0 dX9_init_91 sn_oc_0 sn_pf_9_50 (by decide) (by decide) rfl rfl rfl ?_
  refine sn_q_aloadn sn_bc_0 dX9_init_94 rfl ?_
  refine sn_q_aload sn_bc_0 dX9_init_95 rfl ?_
  refine sk_q_put sn_bc_0 dX9_init_97 sn_oc_0 sn_pf_9_54 (by decide) (by decide) rfl rfl rfl ?_
  refine sn_q_aloadn sn_bc_0 dX9_init_100 rfl ?_
  refine sn_q_aload sn_bc_0 dX9_init_101 rfl ?_
  refine sk_q_put sn_bc_0 dX9_init_103 sn_oc_0 sn_pf_9_58 (by decide) (by decide) rfl rfl rfl ?_
  refine sn_q_aloadn sn_bc_0 dX9_init_106 rfl ?_
  refine sk_q_new (ci := 5) (len := 9) sn_bc_0 dX9_init_107 sn_oc_0 rfl (by decide) rfl rfl ?_
  refine sn_q_dup sn_bc_0 dX9_init_110 rfl ?_
  refine sn_q_aloadn sn_bc_0 dX9_init_111 rfl ?_
  refine sn_q_aloadn sn_bc_0 dX9_init_112 rfl ?_
  refine sn_q_aload sn_bc_0 dX9_init_113 rfl ?_
  refine sn_q_aload sn_bc_0 dX9_init_115 rfl ?_
  refine sn_q_invC sn_bc_0 dX9_init_117 sn_oc_0 (show sn_pc 9 64 = some (8, 4) from rfl) (by decide) (by decide) rfl (by decide) (show 212 < 213 from by decide) rfl rfl rfl (sk_init_8 (c := _) (k := _) (fun i => by first | rfl | skip) (fun c_117 h_117 => ?_))
  refine sk_q_put sn_bc_0 dX9_init_120 sn_oc_0 sn_pf_9_67 (by decide) (by decide) rfl rfl rfl ?_
  refine sn_q_aloadn sn_bc_0 dX9_init_123 rfl ?_
  refine sk_q_new (ci := 1) (len := 9) sn_bc_0 dX9_init_124 sn_oc_0 rfl (by decide) rfl rfl ?_
  refine sn_q_dup sn_bc_0 dX9_init_127 rfl ?_
  refine sn_q_aloadn sn_bc_0 dX9_init_128 rfl ?_
  refine sn_q_aloadn sn_bc_0 dX9_init_129 rfl ?_
  refine sn_q_invC sn_bc_0 dX9_init_130 sn_oc_0 (show sn_pc 9 73 = some (9, 2) from rfl) (by decide) (by decide) rfl (by decide) (show 217 < 218 from by decide) rfl rfl rfl (sk_init_9 (c := _) (k := _) (fun i => by first | rfl | skip) (fun c_130 h_130 => ?_))
  refine sk_q_put sn_bc_0 dX9_init_133 sn_oc_0 sn_pf_9_76 (by decide) (by decide) rfl rfl rfl ?_
  refine sn_q_aloadn sn_bc_0 dX9_init_136 rfl ?_
  refine sn_q_iconst sn_bc_0 dX9_init_137 rfl ?_
  refine sk_q_put sn_bc_0 dX9_init_138 sn_oc_0 sn_pf_9_80 (by decide) (by decide) rfl rfl rfl ?_
  refine sn_q_aloadn sn_bc_0 dX9_init_141 rfl ?_
  refine sn_q_iconst sn_bc_0 dX9_init_142 rfl ?_
  refine sk_q_put sn_bc_0 dX9_init_143 sn_oc_0 sn_pf_9_84 (by decide) (by decide) rfl rfl rfl ?_
  refine sn_q_aloadn sn_bc_0 dX9_init_146 rfl ?_
  refine sn_q_iconst sn_bc_0 dX9_init_147 rfl ?_
  refine sk_q_put sn_bc_0 dX9_init_148 sn_oc_0 sn_pf_9_87 (by decide) (by decide) rfl rfl rfl ?_
  refine sn_q_aloadn sn_bc_0 dX9_init_151 rfl ?_
  refine sn_q_iconst sn_bc_0 dX9_init_152 rfl ?_
  refine sk_q_put sn_bc_0 dX9_init_153 sn_oc_0 sn_pf_9_90 (by decide) (by decide) rfl rfl rfl ?_
  refine sn_q_aloadn sn_bc_0 dX9_init_156 rfl ?_
  refine sn_q_iconst sn_bc_0 dX9_init_157 rfl ?_
  refine sk_q_put sn_bc_0 dX9_init_158 sn_oc_0 sn_pf_9_93 (by decide) (by decide) rfl rfl rfl ?_
  refine sn_q_aloadn sn_bc_0 dX9_init_161 rfl ?_
  refine sn_q_iconst sn_bc_0 dX9_init_162 rfl ?_
  refine sk_q_put sn_bc_0 dX9_init_163 sn_oc_0 sn_pf_9_96 (by decide) (by decide) rfl rfl rfl ?_
  refine sn_q_aloadn sn_bc_0 dX9_init_166 rfl ?_
  refine sn_q_iconst sn_bc_0 dX9_init_167 rfl ?_
  refine sk_q_put sn_bc_0 dX9_init_168 sn_oc_0 sn_pf_9_99 (by decide) (by decide) rfl rfl rfl ?_
  refine sn_q_vret sn_bc_0 dX9_init_171 rfl ?_
  refine (show ∀ k2 c2, k2 = k + 2060 → (∀ a i, c2 a i = if 2 ≤ a ∧ a < 231 then sn_co sk_s0 a i else c a i) → Q none (sk_K 231 k2 Y c2) from fun k2 c2 e1 e2 => e1 ▸ kk c2 e2) _ _ (by omega) (fun a i => ?_)
  by_cases ha : 2 ≤ a ∧ a < 231
  · rw [if_pos ha]
    by_cases e0 : a = 2
    · subst e0
      match i with
      | 0 =>
        simp only [sn_w, sk_n, h_8, h_16, h_25, h_34, h_47, h_57, h_67, h_117, h_130]
        (repeat (first | rw [if_pos trivial] | rw [if_neg (by omega)] | rw [if_pos (by omega)]))
        rfl
      | 1 =>
        simp only [sn_w, sk_n, h_8, h_16, h_25, h_34, h_47, h_57, h_67, h_117, h_130]
        (repeat (first | rw [if_pos trivial] | rw [if_neg (by omega)] | rw [if_pos (by omega)]))
        rfl
      | 2 =>
        simp only [sn_w, sk_n, h_8, h_16, h_25, h_34, h_47, h_57, h_67, h_117, h_130]
        (repeat (first | rw [if_pos trivial] | rw [if_neg (by omega)] | rw [if_pos (by omega)]))
        rfl
      | 3 =>
        simp only [sn_w, sk_n, h_8, h_16, h_25, h_34, h_47, h_57, h_67, h_117, h_130]
        (repeat (first | rw [if_pos trivial] | rw [if_neg (by omega)] | rw [if_pos (by omega)]))
        rfl
      | 4 =>
        simp only [sn_w, sk_n, h_8, h_16, h_25, h_34, h_47, h_57, h_67, h_117, h_130]
        (repeat (first | rw [if_pos trivial] | rw [if_neg (by omega)] | rw [if_pos (by omega)]))
        rfl
      | 5 =>
        simp only [sn_w, sk_n, h_8, h_16, h_25, h_34, h_47, h_57, h_67, h_117, h_130]
        (repeat (first | rw [if_pos trivial] | rw [if_neg (by omega)] | rw [if_pos (by omega)]))
        rfl
      | 6 =>
        simp only [sn_w, sk_n, h_8, h_16, h_25, h_34, h_47, h_57, h_67, h_117, h_130]
        (repeat (first | rw [if_pos trivial] | rw [if_neg (by omega)] | rw [if_pos (by omega)]))
        rfl
      | 7 =>
        simp only [sn_w, sk_n, h_8, h_16, h_25, h_34, h_47, h_57, h_67, h_117, h_130]
        (repeat (first | rw [if_pos trivial] | rw [if_neg (by omega)] | rw [if_pos (by omega)]))
        rfl
      | 8 =>
        simp only [sn_w, sk_n, h_8, h_16, h_25, h_34, h_47, h_57, h_67, h_117, h_130]
        (repeat (first | rw [if_pos trivial] | rw [if_neg (by omega)] | rw [if_pos (by omega)]))
        rfl
      | 9 =>
        simp only [sn_w, sk_n, h_8, h_16, h_25, h_34, h_47, h_57, h_67, h_117, h_130]
        (repeat (first | rw [if_pos trivial] | rw [if_neg (by omega)] | rw [if_pos (by omega)]))
        rfl
      | 10 =>
        simp only [sn_w, sk_n, h_8, h_16, h_25, h_34, h_47, h_57, h_67, h_117, h_130]
        (repeat (first | rw [if_pos trivial] | rw [if_neg (by omega)] | rw [if_pos (by omega)]))
        rfl
      | 11 =>
        simp only [sn_w, sk_n, h_8, h_16, h_25, h_34, h_47, h_57, h_67, h_117, h_130]
        (repeat (first | rw [if_pos trivial] | rw [if_neg (by omega)] | rw [if_pos (by omega)]))
        rfl
      | 12 =>
        simp only [sn_w, sk_n, h_8, h_16, h_25, h_34, h_47, h_57, h_67, h_117, h_130]
        (repeat (first | rw [if_pos trivial] | rw [if_neg (by omega)] | rw [if_pos (by omega)]))
        rfl
      | 13 =>
        simp only [sn_w, sk_n, h_8, h_16, h_25, h_34, h_47, h_57, h_67, h_117, h_130]
        (repeat (first | rw [if_pos trivial] | rw [if_neg (by omega)] | rw [if_pos (by omega)]))
        rfl
      | 14 =>
        simp only [sn_w, sk_n, h_8, h_16, h_25, h_34, h_47, h_57, h_67, h_117, h_130]
        (repeat (first | rw [if_pos trivial] | rw [if_neg (by omega)] | rw [if_pos (by omega)]))
        rfl
      | 15 =>
        simp only [sn_w, sk_n, h_8, h_16, h_25, h_34, h_47, h_57, h_67, h_117, h_130]
        (repeat (first | rw [if_pos trivial] | rw [if_neg (by omega)] | rw [if_pos (by omega)]))
        rfl
      | i + 16 =>
        simp only [sn_w, sk_n, h_8, h_16, h_25, h_34, h_47, h_57, h_67, h_117, h_130]
        (repeat (first | rw [if_pos trivial] | rw [if_neg (by omega)] | rw [if_pos (by omega)]))
        rw [hp, show sn_ft 9 (i + 16) = 3 from rfl, if_neg (by decide), sn_co0 (show sn_rf 2 (i + 16) = 0 from rfl), show sk_s0 ((2 : Nat) : Int) ((i + 16 : Nat) : Int) = 0 from by unfold sk_s0; (repeat (first | rw [if_pos trivial] | rw [if_neg (by omega)] | rw [if_pos (by omega)]))]
    · simp only [sn_w, sk_n, h_8, h_16, h_25, h_34, h_47, h_57, h_67, h_117, h_130]
      by_cases g3 : a = 3 ∨ (4 ≤ a ∧ a < 9)
      · (repeat (first | rw [if_pos trivial] | rw [if_neg (by omega)] | rw [if_pos (by omega)]))
      by_cases g9 : a = 9 ∨ (10 ≤ a ∧ a < 15)
      · (repeat (first | rw [if_pos trivial] | rw [if_neg (by omega)] | rw [if_pos (by omega)]))
      by_cases g15 : a = 15 ∨ (16 ≤ a ∧ a < 18)
      · (repeat (first | rw [if_pos trivial] | rw [if_neg (by omega)] | rw [if_pos (by omega)]))
      by_cases g18 : a = 18 ∨ (19 ≤ a ∧ a < 63)
      · (repeat (first | rw [if_pos trivial] | rw [if_neg (by omega)] | rw [if_pos (by omega)]))
      by_cases g63 : a = 63 ∨ (64 ≤ a ∧ a < 96)
      · (repeat (first | rw [if_pos trivial] | rw [if_neg (by omega)] | rw [if_pos (by omega)]))
      by_cases g96 : a = 96 ∨ (97 ≤ a ∧ a < 211)
      · (repeat (first | rw [if_pos trivial] | rw [if_neg (by omega)] | rw [if_pos (by omega)]))
      by_cases g211 : a = 211 ∨ (212 ≤ a ∧ a < 212)
      · (repeat (first | rw [if_pos trivial] | rw [if_neg (by omega)] | rw [if_pos (by omega)]))
      by_cases g212 : a = 212 ∨ (213 ≤ a ∧ a < 217)
      · (repeat (first | rw [if_pos trivial] | rw [if_neg (by omega)] | rw [if_pos (by omega)]))
      by_cases g217 : a = 217 ∨ (218 ≤ a ∧ a < 231)
      · (repeat (first | rw [if_pos trivial] | rw [if_neg (by omega)] | rw [if_pos (by omega)]))
      exfalso
      omega
  · rw [if_neg ha]
    simp only [sn_w, sk_n, h_8, h_16, h_25, h_34, h_47, h_57, h_67, h_117, h_130]
    (repeat (first | rw [if_pos trivial] | rw [if_neg (by omega)] | rw [if_pos (by omega)]))
