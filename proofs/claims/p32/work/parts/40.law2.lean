/-! the law's own places, and `has` -/
/-- the row A of that length lies at place q, behind the class -/
def sk_ar (n : Nat) (Y : Nat → Nat × Nat) (X : Nat → Nat → sn_V) (q len : Nat) (A : Int → Int) : Prop := 231 ≤ q ∧ q < 231 + n ∧ Y q = (100, len) ∧ ∀ j, j < len → X q j = sn_i (A (j : Int))
/-- what was there stays -/
def sk_ext (n : Nat) (Y : Nat → Nat × Nat) (X : Nat → Nat → sn_V) (n' : Nat) (Y' : Nat → Nat × Nat) (X' : Nat → Nat → sn_V) : Prop := n ≤ n' ∧ ∀ q, q < 231 + n → Y' q = Y q ∧ ∀ i, X' q i = X q i
theorem sk_ext_rf {n : Nat} {Y : Nat → Nat × Nat} {X : Nat → Nat → sn_V} : sk_ext n Y X n Y X := ⟨Nat.le_refl _, fun _ _ => ⟨rfl, fun _ => rfl⟩⟩
theorem sk_ext_tr {n n' n2 : Nat} {Y Y' Y2 : Nat → Nat × Nat} {X X' X2 : Nat → Nat → sn_V} (h : sk_ext n Y X n' Y' X') (g : sk_ext n' Y' X' n2 Y2 X2) : sk_ext n Y X n2 Y2 X2 := ⟨Nat.le_trans h.1 g.1, fun q hq => ⟨((g.2 q (by have := h.1; omega)).1).trans (h.2 q hq).1, fun i => ((g.2 q (by have := h.1; omega)).2 i).trans ((h.2 q hq).2 i)⟩⟩
theorem sk_ext_ar {n n' q len : Nat} {Y Y' : Nat → Nat × Nat} {X X' : Nat → Nat → sn_V} {A : Int → Int} (h : sk_ext n Y X n' Y' X') (g : sk_ar n Y X q len A) : sk_ar n' Y' X' q len A := ⟨g.1, by have := h.1; have := g.2.1; omega, ((h.2 q g.2.1).1).trans g.2.2.1, fun j hj => ((h.2 q g.2.1).2 j).trans (g.2.2.2 j hj)⟩
theorem sk_ext_YX {n n' : Nat} {Y Y' : Nat → Nat × Nat} {X X' : Nat → Nat → sn_V} (h : sk_ext n Y X n' Y' X') (g : sn_YX Y X) : sn_YX Y' X' := ⟨((h.2 1 (by omega)).1).trans g.1, fun j hj => ((h.2 1 (by omega)).2 j).trans (g.2 j hj)⟩
theorem sk_ext_sc {n n' : Nat} {Y Y' : Nat → Nat × Nat} {X X' : Nat → Nat → sn_V} (h : sk_ext n Y X n' Y' X') (g : sk_sc Y X) : sk_sc Y' X' := by
  have e := (h.2 0 (by omega)).1
  have e2 := (h.2 0 (by omega)).2
  refine ⟨by rw [e]; exact g.1, fun j hj => ?_⟩
  rw [e] at hj
  rw [e2]
  exact g.2 j hj
theorem sk_ext_cl {n n' : Nat} {Y Y' : Nat → Nat × Nat} {X X' : Nat → Nat → sn_V} (h : sk_ext n Y X n' Y' X') (x : Int) : sk_cl Y' X' x = sk_cl Y X x := by
  unfold sk_cl
  rw [(h.2 0 (by omega)).1, (h.2 0 (by omega)).2]
def sk_ey (n : Nat) (Y : Nat → Nat × Nat) (t : Nat × Nat) : Nat → Nat × Nat := fun q => if q = 231 + n then t else Y q
def sk_ex2 (n : Nat) (X : Nat → Nat → sn_V) (f : Nat → sn_V) : Nat → Nat → sn_V := fun q i => if q = 231 + n then f i else X q i
theorem sk_ext_1 {n : Nat} {Y : Nat → Nat × Nat} {X : Nat → Nat → sn_V} {t : Nat × Nat} {f : Nat → sn_V} : sk_ext n Y X (n + 1) (sk_ey n Y t) (sk_ex2 n X f) := ⟨by omega, fun q hq => ⟨if_neg (by omega), fun i => if_neg (by omega)⟩⟩
theorem sk_puh {n k len tag : Nat} {Y : Nat → Nat × Nat} {X : Nat → Nat → sn_V} {σ : Int → Int → Int} {f : Nat → sn_V} : sn_pu (sn_hh n k Y σ X) tag len f = sn_hh (n + 1) (k + len) (sk_ey n Y (tag, len)) σ (sk_ex2 n X f) := by
  have e1 : (fun q => if q = 231 + n then (tag, len) else (if 2 ≤ q ∧ q < 231 then sn_shp q else Y q)) = (fun q => if 2 ≤ q ∧ q < 231 then sn_shp q else sk_ey n Y (tag, len) q) := by
    funext q
    unfold sk_ey
    by_cases h : 2 ≤ q ∧ q < 231
    · rw [if_neg (by omega), if_pos h, if_pos h]
    · rw [if_neg h, if_neg h]
  have e2 : (fun q i => if q = 231 + n then f i else (if 2 ≤ q ∧ q < 231 then sn_co σ q i else X q i)) = (fun q i => if 2 ≤ q ∧ q < 231 then sn_co σ q i else sk_ex2 n X f q i) := by
    funext q i
    unfold sk_ex2
    by_cases h : 2 ≤ q ∧ q < 231
    · rw [if_neg (by omega), if_pos h, if_pos h]
    · rw [if_neg h, if_neg h]
  show (231 + n + 1, k + len, (fun q => if q = 231 + n then (tag, len) else (if 2 ≤ q ∧ q < 231 then sn_shp q else Y q)), (fun q i => if q = 231 + n then f i else (if 2 ≤ q ∧ q < 231 then sn_co σ q i else X q i))) = _
  rw [e1, e2]
  rfl
section SKL
variable {M pc i n k len q o : Nat} {cc : ByteArray} {lv st : List sn_V} {Y : Nat → Nat × Nat} {X : Nat → Nat → sn_V} {σ : Int → Int → Int} {Q : Option sn_V → sn_H → Prop} {z x s : Int} {A : Int → Int}
/-- a new row of the law's -/
theorem sk_l_new (hb : sn_bc M = cc) (hd : decode cc pc = .ok (.newarray .int, 2)) (h0 : 0 ≤ z) (h9 : z ≤ 100000) (kk : ∀ Y' X', sk_ext n Y X (n + 1) Y' X' → sk_ar (n + 1) Y' X' (231 + n) z.toNat (fun _ => 0) → sn_Wp M (pc + 2) lv (sn_r (231 + n) :: st) (sn_hh (n + 1) (k + z.toNat) Y' σ X') Q) : sn_Wp M pc lv (sn_i z :: st) (sn_hh n k Y σ X) Q := by
  refine sn_q_go (d := (pc + 2, lv, sn_r (231 + n) :: st, sn_pu (sn_hh n k Y σ X) 100 z.toNat (fun _ => sn_i 0))) hb hd rfl ?_ ?_
  · unfold sn_do
    dsimp only
    rw [decide_eq_true h0, decide_eq_true h9]
    rfl
  · dsimp only
    rw [sk_puh]
    exact kk _ _ sk_ext_1 ⟨by omega, by omega, if_pos rfl, fun j _ => if_pos rfl⟩
theorem sk_l_hT (hq : 231 ≤ q) : (sn_hh n k Y σ X).2.2.1 q = Y q := if_neg (by omega)
theorem sk_l_hC (hq : 231 ≤ q) (j : Nat) : (sn_hh n k Y σ X).2.2.2 q j = X q j := if_neg (by omega)
theorem sk_l_idx (ha : sk_ar n Y X q len A) (h0 : 0 ≤ x) (h1 : x < (len : Int)) : sn_idx (sn_hh n k Y σ X) q x 100 = true := by
  unfold sn_idx
  rw [sk_l_hT ha.1, ha.2.2.1, decide_eq_true (show q < (sn_hh n k Y σ X).1 from ha.2.1), decide_eq_true h0, decide_eq_true h1]
  rfl
theorem sk_l_iald (ha : sk_ar n Y X q len A) (hb : sn_bc M = cc) (hd : decode cc pc = .ok (.iaload, 1)) (h0 : 0 ≤ x) (h1 : x < (len : Int)) (kk : sn_Wp M (pc + 1) lv (sn_i (A x) :: st) (sn_hh n k Y σ X) Q) : sn_Wp M pc lv (sn_i x :: sn_r q :: st) (sn_hh n k Y σ X) Q := by
  refine sn_q_go (d := (pc + 1, lv, (sn_hh n k Y σ X).2.2.2 q x.toNat :: st, sn_hh n k Y σ X)) hb hd rfl (if_pos (sk_l_idx ha h0 h1)) ?_
  dsimp only
  rw [sk_l_hC ha.1, ha.2.2.2 _ (by omega), Int.toNat_of_nonneg h0]
  exact kk
/-- X with z in the row q at x -/
theorem sk_l_iast (ha : sk_ar n Y X q len A) (hb : sn_bc M = cc) (hd : decode cc pc = .ok (.iastore, 1)) (h0 : 0 ≤ x) (h1 : x < (len : Int)) (kk : sk_ar n Y (sn_w X q x.toNat (sn_i z)) q len (fun j => if j = x then z else A j) → sn_Wp M (pc + 1) lv st (sn_hh n k Y σ (sn_w X q x.toNat (sn_i z))) Q) : sn_Wp M pc lv (sn_i z :: sn_i x :: sn_r q :: st) (sn_hh n k Y σ X) Q := by
  refine sn_q_go (d := (pc + 1, lv, st, ((sn_hh n k Y σ X).1, (sn_hh n k Y σ X).2.1, (sn_hh n k Y σ X).2.2.1, sn_w (sn_hh n k Y σ X).2.2.2 q x.toNat (sn_i z)))) hb hd rfl (if_pos (by rw [sk_l_idx ha h0 h1, decide_eq_true (show 2 ≤ q by have := ha.1; omega)]; rfl)) ?_
  have e : sn_w (sn_hh n k Y σ X).2.2.2 q x.toNat (sn_i z) = (sn_hh n k Y σ (sn_w X q x.toNat (sn_i z))).2.2.2 := by
    funext a b
    show (if a = q ∧ b = x.toNat then sn_i z else (if 2 ≤ a ∧ a < 231 then sn_co σ a b else X a b)) = (if 2 ≤ a ∧ a < 231 then sn_co σ a b else (if a = q ∧ b = x.toNat then sn_i z else X a b))
    have := ha.1
    by_cases h : 2 ≤ a ∧ a < 231
    · rw [if_neg (by omega), if_pos h, if_pos h]
    · rw [if_neg h, if_neg h]
  dsimp only
  rw [e]
  refine kk ⟨ha.1, ha.2.1, ha.2.2.1, fun j hj => ?_⟩
  show (if q = q ∧ j = x.toNat then sn_i z else X q j) = sn_i (if (j : Int) = x then z else A j)
  by_cases h : j = x.toNat
  · rw [if_pos ⟨rfl, h⟩, if_pos (by omega)]
  · rw [if_neg (fun y => h y.2), if_neg (by omega)]
    exact ha.2.2.2 j hj
theorem sk_ar_w {q2 len2 : Nat} {B : Int → Int} {v : sn_V} (hb : sk_ar n Y X q2 len2 B) (hne : q2 ≠ q) : sk_ar n Y (sn_w X q x.toNat v) q2 len2 B := ⟨hb.1, hb.2.1, hb.2.2.1, fun j hj => (if_neg (fun y => hne y.1)).trans (hb.2.2.2 j hj)⟩
theorem sk_YX_w {v : sn_V} (h : sn_YX Y X) (hq : 231 ≤ q) : sn_YX Y (sn_w X q x.toNat v) := ⟨h.1, fun j hj => (if_neg (by omega)).trans (h.2 j hj)⟩
theorem sk_sc_w {v : sn_V} (h : sk_sc Y X) (hq : 231 ≤ q) : sk_sc Y (sn_w X q x.toNat v) := ⟨h.1, fun j hj => by
  have e : sn_w X q x.toNat v 0 j = X 0 j := if_neg (by omega)
  rw [e]; exact h.2 j hj⟩
theorem sk_cl_w {v : sn_V} (hq : 231 ≤ q) (y : Int) : sk_cl Y (sn_w X q x.toNat v) y = sk_cl Y X y := by
  have e : sn_w X q x.toNat v 0 = X 0 := funext fun j => if_neg (by omega)
  unfold sk_cl
  rw [e]
theorem sk_l_alen (ha : sk_ar n Y X q len A) (hb : sn_bc M = cc) (hd : decode cc pc = .ok (.arraylength, 1)) (kk : sn_Wp M (pc + 1) lv (sn_i (len : Int) :: st) (sn_hh n k Y σ X) Q) : sn_Wp M pc lv (sn_r q :: st) (sn_hh n k Y σ X) Q := by
  refine sn_q_alen hb hd ha.2.1 (by rw [sk_l_hT ha.1, ha.2.2.1]) ?_
  rw [sk_l_hT ha.1, ha.2.2.1]
  exact kk
/-- has, of a song that isn't in -/
theorem sk_hs0 (h0 : 0 ≤ s) (h8 : s < 8) (hn : s < σ 3 0) (hz : σ 10 s = 0) : sn_hs [sn_r 2, sn_i s] (sn_hh n k Y σ X) = some (some (sn_i 0), sn_pu (sn_hh n k Y σ X) 103 6 (fun _ => sn_n)) := by
  refine if_pos ?_
  have e : (sn_hh n k Y σ X).2.2.2 10 s.toNat = sn_i 0 := by
    show sn_co σ 10 s.toNat = sn_i 0
    rw [sn_co0 (sn_a10.2.2 _)]
    show sn_i (σ 10 (s.toNat : Int)) = sn_i 0
    rw [Int.toNat_of_nonneg h0, hz]
  simp only [Bool.and_eq_true, decide_eq_true_eq]
  have hl : ∀ a, a < 231 → a < (sn_hh n k Y σ X).1 := fun a ha => by show a < 231 + n; omega
  exact ⟨⟨⟨⟨⟨⟨⟨⟨⟨⟨⟨⟨⟨by decide, hl 2 (by decide)⟩, rfl⟩, by decide⟩, hl 3 (by decide)⟩, rfl⟩, by decide⟩, hl 9 (by decide)⟩, rfl⟩, by decide⟩, sn_idx_ok sn_a10.1 sn_a10.2.1 h0 (by omega)⟩, hn⟩, h8⟩, e⟩
theorem sk_hs1 (h0 : 0 ≤ s) (hz : σ 10 s ≠ 0) : sn_hs [sn_r 2, sn_i s] (sn_hh n k Y σ X) = none := by
  refine if_neg ?_
  have e : (sn_hh n k Y σ X).2.2.2 10 s.toNat = sn_i (σ 10 s) := by
    show sn_co σ 10 s.toNat = sn_i (σ 10 s)
    rw [sn_co0 (sn_a10.2.2 _)]
    show sn_i (σ 10 (s.toNat : Int)) = _
    rw [Int.toNat_of_nonneg h0]
  simp only [Bool.and_eq_true, decide_eq_true_eq]
  intro h
  have h2 : (sn_hh n k Y σ X).2.2.2 10 s.toNat = sn_i 0 := h.2
  rw [e] at h2
  exact hz (Sum.inl.inj h2)
/-- the call has(m, s), where all is counted -/
theorem sk_l_has (hYX : sn_YX Y X) (hI : sk_Iv σ) (hc15 : σ 2 15 ≠ 0) (h0 : 0 ≤ s) (hn : s < σ 3 0) (hb : sn_bc M = cc) (hd : decode cc pc = .ok (.invokestatic i, 3)) (ho : sn_oc M = o) (hx : sn_px o i = none) (hf : sn_ps o i = some (88, 2)) (hc : (decide (sn_fr 88 + 1 ≤ sn_fr M) && decide (sn_lo 88 + sn_ml 88 + 19 ≤ sn_lo M) && decide (2 ≤ (sn_i s :: sn_r 2 :: st).length) && decide (((sn_i s :: sn_r 2 :: st).drop 2).length ≤ 4) && decide ((sn_lay ((sn_i s :: sn_r 2 :: st).take 2).reverse).length ≤ sn_ml 88) && (sn_hl 88 || ((sn_i s :: sn_r 2 :: st).take 2).all (fun v => !sn_two v))) = true)
    (k1 : σ 10 s ≠ 0 → sn_Wp M (pc + 3) lv (sn_i 1 :: st) (sn_hh n k Y σ X) Q) (k0 : σ 10 s = 0 → ∀ Y' X', sk_ext n Y X (n + 1) Y' X' → sn_Wp M (pc + 3) lv (sn_i 0 :: st) (sn_hh (n + 1) (k + 6) Y' σ X') Q) : sn_Wp M pc lv (sn_i s :: sn_r 2 :: st) (sn_hh n k Y σ X) Q := by
  have h38 := hI.1.1.2
  have hdo : sn_do M pc (.invokestatic i) lv (sn_i s :: sn_r 2 :: st) (sn_hh n k Y σ X) = some (.inr (.inr (88, [sn_r 2, sn_i s], pc + 3, lv, st, sn_hh n k Y σ X))) := by
    unfold sn_do
    dsimp only
    rw [ho, hx]
    dsimp only
    rw [hf]
    exact if_pos hc
  by_cases hz : σ 10 s = 0
  · refine sn_q_has (o := (some (sn_i 0), sn_pu (sn_hh n k Y σ X) 103 6 (fun _ => sn_n))) hb hd rfl hdo ((if_pos rfl).trans (sk_hs0 h0 (by omega) hn hz)) ?_
    rw [sk_puh]
    exact k0 hz _ _ sk_ext_1
  · refine sn_q_call hb hd rfl hdo ((if_pos rfl).trans (sk_hs1 h0 hz)) ?_
    exact sk_has hYX hI h0 (by omega) hz (fun τ hq => by rw [hq.2.1 hc15]; exact k1 hz)
end SKL
