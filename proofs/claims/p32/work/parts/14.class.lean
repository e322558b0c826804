/-! ===== the places of the class (by program, wip/p32/lay2.py, out of a run of its constructors) ===== -/
def sn_shp (q : Nat) : Nat × Nat := if q ≤ 2 then (9, 16) else if q ≤ 3 then (3, 6) else if q ≤ 8 then (100, 8) else if q ≤ 9 then (7, 7) else if q ≤ 11 then (101, 8) else if q ≤ 14 then (100, 8) else if q ≤ 15 then (8, 5) else if q ≤ 17 then (100, 8) else if q ≤ 18 then (0, 5) else if q ≤ 19 then (102, 40) else if q ≤ 59 then (100, 8) else if q ≤ 60 then (100, 40) else if q ≤ 61 then (101, 40) else if q ≤ 62 then (100, 8) else if q ≤ 63 then (2, 11) else if q ≤ 64 then (102, 8) else if q ≤ 72 then (100, 8) else if q ≤ 73 then (102, 8) else if q ≤ 81 then (100, 8) else if q ≤ 82 then (102, 8) else if q ≤ 92 then (100, 8) else if q ≤ 93 then (101, 8) else if q ≤ 95 then (100, 8) else if q ≤ 96 then (4, 11) else if q ≤ 97 then (102, 80) else if q ≤ 177 then (100, 8) else if q ≤ 178 then (100, 80) else if q ≤ 179 then (102, 8) else if q ≤ 187 then (100, 8) else if q ≤ 188 then (102, 8) else if q ≤ 196 then (100, 8) else if q ≤ 197 then (102, 8) else if q ≤ 210 then (100, 8) else if q ≤ 211 then (6, 5) else if q ≤ 212 then (5, 9) else if q ≤ 216 then (100, 8) else if q ≤ 217 then (1, 9) else if q ≤ 218 then (102, 8) else if q ≤ 227 then (100, 8) else if q ≤ 230 then (101, 8) else (999, 0)
/-- what lies there: 0, a whole number; 1, null; else that place -/
def sn_rf (q i : Nat) : Nat := match q, i with
  | 2, 0 => 211
  | 2, 1 => 3
  | 2, 2 => 9
  | 2, 3 => 15
  | 2, 4 => 18
  | 2, 5 => 63
  | 2, 6 => 96
  | 2, 7 => 212
  | 2, 8 => 217
  | 3, 1 => 4
  | 3, 2 => 5
  | 3, 3 => 6
  | 3, 4 => 7
  | 3, 5 => 8
  | 9, 2 => 10
  | 9, 3 => 11
  | 9, 4 => 12
  | 9, 5 => 13
  | 9, 6 => 14
  | 15, 0 => 9
  | 15, 1 => 16
  | 15, 2 => 17
  | 18, 0 => 9
  | 18, 1 => 19
  | 18, 2 => 60
  | 18, 3 => 61
  | 18, 4 => 62
  | 19, i => if i < 40 then 20 + i else 1
  | 63, 0 => 3
  | 63, 1 => 9
  | 63, 2 => 18
  | 63, 3 => 64
  | 63, 4 => 73
  | 63, 5 => 82
  | 63, 6 => 91
  | 63, 7 => 92
  | 63, 8 => 93
  | 63, 9 => 94
  | 63, 10 => 95
  | 64, i => if i < 8 then 65 + i else 1
  | 73, i => if i < 8 then 74 + i else 1
  | 82, i => if i < 8 then 83 + i else 1
  | 96, 0 => 9
  | 96, 1 => 97
  | 96, 2 => 178
  | 96, 3 => 179
  | 96, 4 => 188
  | 96, 5 => 197
  | 96, 6 => 206
  | 96, 7 => 207
  | 96, 8 => 208
  | 96, 9 => 209
  | 96, 10 => 210
  | 97, i => if i < 80 then 98 + i else 1
  | 179, i => if i < 8 then 180 + i else 1
  | 188, i => if i < 8 then 189 + i else 1
  | 197, i => if i < 8 then 198 + i else 1
  | 212, 0 => 9
  | 212, 1 => 15
  | 212, 2 => 63
  | 212, 3 => 96
  | 212, 4 => 213
  | 212, 5 => 214
  | 212, 6 => 215
  | 212, 7 => 216
  | 217, 0 => 3
  | 217, 1 => 9
  | 217, 2 => 218
  | 217, 3 => 227
  | 217, 4 => 228
  | 217, 5 => 229
  | 217, 6 => 230
  | 218, i => if i < 8 then 219 + i else 1
  | _, _ => 0
def sn_co (σ : Int → Int → Int) (q i : Nat) : sn_V := if sn_rf q i = 0 then sn_i (σ q i) else if sn_rf q i = 1 then sn_n else sn_r (sn_rf q i)
/-- the heap with the class in it: σ its numbers; Y, X the other places; 229 + n places, k slots -/
def sn_hh (n k : Nat) (Y : Nat → Nat × Nat) (σ : Int → Int → Int) (X : Nat → Nat → sn_V) : sn_H := (231 + n, k, fun q => if 2 ≤ q ∧ q < 231 then sn_shp q else Y q, fun q i => if 2 ≤ q ∧ q < 231 then sn_co σ q i else X q i)
def sn_s (σ : Int → Int → Int) (P J z : Int) : Int → Int → Int := fun a b => if a = P ∧ b = J then z else σ a b
/-- q is a row of whole numbers (of truth values) of that length -/
def sn_ai (q len : Nat) : Prop := (2 ≤ q ∧ q < 231) ∧ sn_shp q = (100, len) ∧ ∀ i, sn_rf q i = 0
def sn_az (q len : Nat) : Prop := (2 ≤ q ∧ q < 231) ∧ sn_shp q = (101, len) ∧ ∀ i, sn_rf q i = 0
def sn_aq (q len b : Nat) : Prop := (2 ≤ q ∧ q < 231) ∧ sn_shp q = (102, len) ∧ ∀ i, i < len → sn_rf q i = b + i ∧ 2 ≤ b
theorem sn_a4 : sn_ai 4 8 := ⟨by decide, rfl, fun _ => rfl⟩
theorem sn_a5 : sn_ai 5 8 := ⟨by decide, rfl, fun _ => rfl⟩
theorem sn_a6 : sn_ai 6 8 := ⟨by decide, rfl, fun _ => rfl⟩
theorem sn_a7 : sn_ai 7 8 := ⟨by decide, rfl, fun _ => rfl⟩
theorem sn_a8 : sn_ai 8 8 := ⟨by decide, rfl, fun _ => rfl⟩
theorem sn_a10 : sn_az 10 8 := ⟨by decide, rfl, fun _ => rfl⟩
theorem sn_a11 : sn_az 11 8 := ⟨by decide, rfl, fun _ => rfl⟩
theorem sn_a12 : sn_ai 12 8 := ⟨by decide, rfl, fun _ => rfl⟩
theorem sn_a13 : sn_ai 13 8 := ⟨by decide, rfl, fun _ => rfl⟩
theorem sn_a14 : sn_ai 14 8 := ⟨by decide, rfl, fun _ => rfl⟩
theorem sn_a16 : sn_ai 16 8 := ⟨by decide, rfl, fun _ => rfl⟩
theorem sn_a17 : sn_ai 17 8 := ⟨by decide, rfl, fun _ => rfl⟩
theorem sn_a19 : sn_aq 19 40 20 := ⟨by decide, rfl, fun i h => ⟨if_pos h, by decide⟩⟩
set_option maxRecDepth 100000 in
theorem sn_b19 {x : Int} (h0 : 0 ≤ x) (h1 : x < 40) : sn_ai (20 + x.toNat) 8 := by
  have hx : x.toNat < 40 := by omega
  generalize x.toNat = y at hx
  refine ⟨by omega, ?_, ?_⟩
  · unfold sn_shp
    repeat (first | rw [if_pos (by omega)] | rw [if_neg (by omega)])
  · intro i
    unfold sn_rf
    split <;> first | rfl | omega
theorem sn_a60 : sn_ai 60 40 := ⟨by decide, rfl, fun _ => rfl⟩
theorem sn_a61 : sn_az 61 40 := ⟨by decide, rfl, fun _ => rfl⟩
theorem sn_a62 : sn_ai 62 8 := ⟨by decide, rfl, fun _ => rfl⟩
theorem sn_a64 : sn_aq 64 8 65 := ⟨by decide, rfl, fun i h => ⟨if_pos h, by decide⟩⟩
set_option maxRecDepth 100000 in
theorem sn_b64 {x : Int} (h0 : 0 ≤ x) (h1 : x < 8) : sn_ai (65 + x.toNat) 8 := by
  have hx : x.toNat < 8 := by omega
  generalize x.toNat = y at hx
  refine ⟨by omega, ?_, ?_⟩
  · unfold sn_shp
    repeat (first | rw [if_pos (by omega)] | rw [if_neg (by omega)])
  · intro i
    unfold sn_rf
    split <;> first | rfl | omega
theorem sn_a73 : sn_aq 73 8 74 := ⟨by decide, rfl, fun i h => ⟨if_pos h, by decide⟩⟩
set_option maxRecDepth 100000 in
theorem sn_b73 {x : Int} (h0 : 0 ≤ x) (h1 : x < 8) : sn_ai (74 + x.toNat) 8 := by
  have hx : x.toNat < 8 := by omega
  generalize x.toNat = y at hx
  refine ⟨by omega, ?_, ?_⟩
  · unfold sn_shp
    repeat (first | rw [if_pos (by omega)] | rw [if_neg (by omega)])
  · intro i
    unfold sn_rf
    split <;> first | rfl | omega
theorem sn_a82 : sn_aq 82 8 83 := ⟨by decide, rfl, fun i h => ⟨if_pos h, by decide⟩⟩
set_option maxRecDepth 100000 in
theorem sn_b82 {x : Int} (h0 : 0 ≤ x) (h1 : x < 8) : sn_ai (83 + x.toNat) 8 := by
  have hx : x.toNat < 8 := by omega
  generalize x.toNat = y at hx
  refine ⟨by omega, ?_, ?_⟩
  · unfold sn_shp
    repeat (first | rw [if_pos (by omega)] | rw [if_neg (by omega)])
  · intro i
    unfold sn_rf
    split <;> first | rfl | omega
theorem sn_a91 : sn_ai 91 8 := ⟨by decide, rfl, fun _ => rfl⟩
theorem sn_a92 : sn_ai 92 8 := ⟨by decide, rfl, fun _ => rfl⟩
theorem sn_a93 : sn_az 93 8 := ⟨by decide, rfl, fun _ => rfl⟩
theorem sn_a94 : sn_ai 94 8 := ⟨by decide, rfl, fun _ => rfl⟩
theorem sn_a95 : sn_ai 95 8 := ⟨by decide, rfl, fun _ => rfl⟩
theorem sn_a97 : sn_aq 97 80 98 := ⟨by decide, rfl, fun i h => ⟨if_pos h, by decide⟩⟩
set_option maxRecDepth 100000 in
theorem sn_b97 {x : Int} (h0 : 0 ≤ x) (h1 : x < 80) : sn_ai (98 + x.toNat) 8 := by
  have hx : x.toNat < 80 := by omega
  generalize x.toNat = y at hx
  refine ⟨by omega, ?_, ?_⟩
  · unfold sn_shp
    repeat (first | rw [if_pos (by omega)] | rw [if_neg (by omega)])
  · intro i
    unfold sn_rf
    split <;> first | rfl | omega
theorem sn_a178 : sn_ai 178 80 := ⟨by decide, rfl, fun _ => rfl⟩
theorem sn_a179 : sn_aq 179 8 180 := ⟨by decide, rfl, fun i h => ⟨if_pos h, by decide⟩⟩
set_option maxRecDepth 100000 in
theorem sn_b179 {x : Int} (h0 : 0 ≤ x) (h1 : x < 8) : sn_ai (180 + x.toNat) 8 := by
  have hx : x.toNat < 8 := by omega
  generalize x.toNat = y at hx
  refine ⟨by omega, ?_, ?_⟩
  · unfold sn_shp
    repeat (first | rw [if_pos (by omega)] | rw [if_neg (by omega)])
  · intro i
    unfold sn_rf
    split <;> first | rfl | omega
theorem sn_a188 : sn_aq 188 8 189 := ⟨by decide, rfl, fun i h => ⟨if_pos h, by decide⟩⟩
set_option maxRecDepth 100000 in
theorem sn_b188 {x : Int} (h0 : 0 ≤ x) (h1 : x < 8) : sn_ai (189 + x.toNat) 8 := by
  have hx : x.toNat < 8 := by omega
  generalize x.toNat = y at hx
  refine ⟨by omega, ?_, ?_⟩
  · unfold sn_shp
    repeat (first | rw [if_pos (by omega)] | rw [if_neg (by omega)])
  · intro i
    unfold sn_rf
    split <;> first | rfl | omega
theorem sn_a197 : sn_aq 197 8 198 := ⟨by decide, rfl, fun i h => ⟨if_pos h, by decide⟩⟩
set_option maxRecDepth 100000 in
theorem sn_b197 {x : Int} (h0 : 0 ≤ x) (h1 : x < 8) : sn_ai (198 + x.toNat) 8 := by
  have hx : x.toNat < 8 := by omega
  generalize x.toNat = y at hx
  refine ⟨by omega, ?_, ?_⟩
  · unfold sn_shp
    repeat (first | rw [if_pos (by omega)] | rw [if_neg (by omega)])
  · intro i
    unfold sn_rf
    split <;> first | rfl | omega
theorem sn_a206 : sn_ai 206 8 := ⟨by decide, rfl, fun _ => rfl⟩
theorem sn_a207 : sn_ai 207 8 := ⟨by decide, rfl, fun _ => rfl⟩
theorem sn_a208 : sn_ai 208 8 := ⟨by decide, rfl, fun _ => rfl⟩
theorem sn_a209 : sn_ai 209 8 := ⟨by decide, rfl, fun _ => rfl⟩
theorem sn_a210 : sn_ai 210 8 := ⟨by decide, rfl, fun _ => rfl⟩
theorem sn_a213 : sn_ai 213 8 := ⟨by decide, rfl, fun _ => rfl⟩
theorem sn_a214 : sn_ai 214 8 := ⟨by decide, rfl, fun _ => rfl⟩
theorem sn_a215 : sn_ai 215 8 := ⟨by decide, rfl, fun _ => rfl⟩
theorem sn_a216 : sn_ai 216 8 := ⟨by decide, rfl, fun _ => rfl⟩
theorem sn_a218 : sn_aq 218 8 219 := ⟨by decide, rfl, fun i h => ⟨if_pos h, by decide⟩⟩
set_option maxRecDepth 100000 in
theorem sn_b218 {x : Int} (h0 : 0 ≤ x) (h1 : x < 8) : sn_ai (219 + x.toNat) 8 := by
  have hx : x.toNat < 8 := by omega
  generalize x.toNat = y at hx
  refine ⟨by omega, ?_, ?_⟩
  · unfold sn_shp
    repeat (first | rw [if_pos (by omega)] | rw [if_neg (by omega)])
  · intro i
    unfold sn_rf
    split <;> first | rfl | omega
theorem sn_a227 : sn_ai 227 8 := ⟨by decide, rfl, fun _ => rfl⟩
theorem sn_a228 : sn_az 228 8 := ⟨by decide, rfl, fun _ => rfl⟩
theorem sn_a229 : sn_az 229 8 := ⟨by decide, rfl, fun _ => rfl⟩
theorem sn_a230 : sn_az 230 8 := ⟨by decide, rfl, fun _ => rfl⟩
section SNHH
variable {M pc i j ci q n k len o : Nat} {cc : ByteArray} {lv st : List sn_V} {Y : Nat → Nat × Nat} {X : Nat → Nat → sn_V} {σ : Int → Int → Int} {Q : Option sn_V → sn_H → Prop} {x z P : Int}
theorem sn_hT (hq : 2 ≤ q ∧ q < 231) : (sn_hh n k Y σ X).2.2.1 q = sn_shp q := if_pos hq
theorem sn_hC (hq : 2 ≤ q ∧ q < 231) (j : Nat) : (sn_hh n k Y σ X).2.2.2 q j = sn_co σ q j := if_pos hq
theorem sn_h1 (hq : 2 ≤ q ∧ q < 231) : q < (sn_hh n k Y σ X).1 := Nat.lt_of_lt_of_le hq.2 (Nat.le_add_right _ _)
theorem sn_co0 (hr : sn_rf q j = 0) : sn_co σ q j = sn_i (σ q j) := if_pos hr
theorem sn_co1 {v : Nat} (hr : sn_rf q j = v) (hv : 2 ≤ v) : sn_co σ q j = sn_r v := by
  unfold sn_co
  rw [hr, if_neg (by omega), if_neg (by omega)]
theorem sn_put (hq : 2 ≤ q ∧ q < 231) (hr : sn_rf q j = 0) (hP : (q : Int) = P) : ((sn_hh n k Y σ X).1, (sn_hh n k Y σ X).2.1, (sn_hh n k Y σ X).2.2.1, sn_w (sn_hh n k Y σ X).2.2.2 q j (sn_i z)) = sn_hh n k Y (sn_s σ P j z) X := by
  subst hP
  refine congrArg (fun f => ((sn_hh n k Y σ X).1, (sn_hh n k Y σ X).2.1, (sn_hh n k Y σ X).2.2.1, f)) (funext fun a => funext fun b => ?_)
  show (if a = q ∧ b = j then sn_i z else (if 2 ≤ a ∧ a < 231 then sn_co σ a b else X a b)) = (if 2 ≤ a ∧ a < 231 then sn_co (sn_s σ q j z) a b else X a b)
  by_cases hab : a = q ∧ b = j
  · obtain ⟨rfl, rfl⟩ := hab
    rw [if_pos ⟨rfl, rfl⟩, if_pos hq, sn_co0 hr]
    unfold sn_s
    rw [if_pos ⟨rfl, rfl⟩]
  · rw [if_neg hab]
    by_cases ha : 2 ≤ a ∧ a < 231
    · rw [if_pos ha, if_pos ha]
      unfold sn_co
      by_cases h0 : sn_rf a b = 0
      · rw [if_pos h0, if_pos h0]
        unfold sn_s
        rw [if_neg (fun h => hab ⟨by omega, by omega⟩)]
      · rw [if_neg h0, if_neg h0]
    · rw [if_neg ha, if_neg ha]
theorem sn_q_geti (hb : sn_bc M = cc) (hd : decode cc pc = .ok (.getfield i, 3)) (ho : sn_oc M = o) (hf : sn_pf o i = some (ci, j)) (hq : 2 ≤ q ∧ q < 231) (hs : (sn_shp q).1 = ci) (hr : sn_rf q j = 0) (hP : (q : Int) = P) {J : Int} (hJ : (j : Int) = J)
    (kk : sn_Wp M (pc + 3) lv (sn_i (σ P J) :: st) (sn_hh n k Y σ X) Q) : sn_Wp M pc lv (sn_r q :: st) (sn_hh n k Y σ X) Q := by
  subst hP; subst hJ
  refine sn_q_go (d := (pc + 3, lv, (sn_hh n k Y σ X).2.2.2 q j :: st, sn_hh n k Y σ X)) hb hd rfl ?_ ?_
  · unfold sn_do
    dsimp only
    rw [ho, hf]
    dsimp only
    rw [if_pos (by rw [decide_eq_true hq.1, decide_eq_true (sn_h1 hq), sn_hT hq, decide_eq_true hs]; rfl)]
  · dsimp only
    rw [sn_hC hq, sn_co0 hr]
    exact kk
theorem sn_q_getr {v : Nat} (hb : sn_bc M = cc) (hd : decode cc pc = .ok (.getfield i, 3)) (ho : sn_oc M = o) (hf : sn_pf o i = some (ci, j)) (hq : 2 ≤ q ∧ q < 231) (hs : (sn_shp q).1 = ci) (hr : sn_rf q j = v) (hv : 2 ≤ v)
    (kk : sn_Wp M (pc + 3) lv (sn_r v :: st) (sn_hh n k Y σ X) Q) : sn_Wp M pc lv (sn_r q :: st) (sn_hh n k Y σ X) Q := by
  refine sn_q_go (d := (pc + 3, lv, (sn_hh n k Y σ X).2.2.2 q j :: st, sn_hh n k Y σ X)) hb hd rfl ?_ ?_
  · unfold sn_do
    dsimp only
    rw [ho, hf]
    dsimp only
    rw [if_pos (by rw [decide_eq_true hq.1, decide_eq_true (sn_h1 hq), sn_hT hq, decide_eq_true hs]; rfl)]
  · dsimp only
    rw [sn_hC hq, sn_co1 hr hv]
    exact kk
theorem sn_q_puti (hb : sn_bc M = cc) (hd : decode cc pc = .ok (.putfield i, 3)) (ho : sn_oc M = o) (hf : sn_pf o i = some (ci, j)) (hq : 2 ≤ q ∧ q < 231) (hs : (sn_shp q).1 = ci) (hr : sn_rf q j = 0) (hP : (q : Int) = P) {J : Int} (hJ : (j : Int) = J) (ht : sn_fits (sn_ft ci j) (sn_i z) = true) (hff : sn_ff ci j = false)
    (kk : sn_Wp M (pc + 3) lv st (sn_hh n k Y (sn_s σ P J z) X) Q) : sn_Wp M pc lv (sn_i z :: sn_r q :: st) (sn_hh n k Y σ X) Q := by
  subst hJ
  refine sn_q_go (d := (pc + 3, lv, st, ((sn_hh n k Y σ X).1, (sn_hh n k Y σ X).2.1, (sn_hh n k Y σ X).2.2.1, sn_w (sn_hh n k Y σ X).2.2.2 q j (sn_i z)))) hb hd rfl ?_ ?_
  · unfold sn_do
    dsimp only
    rw [ho, hf]
    dsimp only
    rw [if_pos (by rw [decide_eq_true hq.1, decide_eq_true (sn_h1 hq), sn_hT hq, decide_eq_true hs, ht, hff]; rfl)]
  · dsimp only
    rw [sn_put hq hr hP]
    exact kk
theorem sn_idx_ok {tag : Nat} (hq : 2 ≤ q ∧ q < 231) (hs : sn_shp q = (tag, len)) (h0 : 0 ≤ x) (h1 : x < len) : sn_idx (sn_hh n k Y σ X) q x tag = true := by
  unfold sn_idx
  rw [sn_hT hq, hs, decide_eq_true (sn_h1 hq), decide_eq_true h0, decide_eq_true h1]
  simp
theorem sn_q_iald (hb : sn_bc M = cc) (hd : decode cc pc = .ok (.iaload, 1)) (ha : sn_ai q len) (hP : (q : Int) = P) (h0 : 0 ≤ x) (h1 : x < len) (kk : sn_Wp M (pc + 1) lv (sn_i (σ P x) :: st) (sn_hh n k Y σ X) Q) : sn_Wp M pc lv (sn_i x :: sn_r q :: st) (sn_hh n k Y σ X) Q := by
  subst hP
  refine sn_q_go (d := (pc + 1, lv, (sn_hh n k Y σ X).2.2.2 q x.toNat :: st, sn_hh n k Y σ X)) hb hd rfl (if_pos (sn_idx_ok ha.1 ha.2.1 h0 h1)) ?_
  dsimp only
  rw [sn_hC ha.1, sn_co0 (ha.2.2 _), Int.toNat_of_nonneg h0]
  exact kk
theorem sn_q_bald (hb : sn_bc M = cc) (hd : decode cc pc = .ok (.baload, 1)) (ha : sn_az q len) (hP : (q : Int) = P) (h0 : 0 ≤ x) (h1 : x < len) (kk : sn_Wp M (pc + 1) lv (sn_i (σ P x) :: st) (sn_hh n k Y σ X) Q) : sn_Wp M pc lv (sn_i x :: sn_r q :: st) (sn_hh n k Y σ X) Q := by
  subst hP
  refine sn_q_go (d := (pc + 1, lv, (sn_hh n k Y σ X).2.2.2 q x.toNat :: st, sn_hh n k Y σ X)) hb hd rfl (if_pos (sn_idx_ok ha.1 ha.2.1 h0 h1)) ?_
  dsimp only
  rw [sn_hC ha.1, sn_co0 (ha.2.2 _), Int.toNat_of_nonneg h0]
  exact kk
theorem sn_q_aald {b : Nat} (hb : sn_bc M = cc) (hd : decode cc pc = .ok (.aaload, 1)) (ha : sn_aq q len b) (h0 : 0 ≤ x) (h1 : x < len) (kk : sn_Wp M (pc + 1) lv (sn_r (b + x.toNat) :: st) (sn_hh n k Y σ X) Q) : sn_Wp M pc lv (sn_i x :: sn_r q :: st) (sn_hh n k Y σ X) Q := by
  have hx : x.toNat < len := by omega
  refine sn_q_go (d := (pc + 1, lv, (sn_hh n k Y σ X).2.2.2 q x.toNat :: st, sn_hh n k Y σ X)) hb hd rfl (if_pos (sn_idx_ok ha.1 ha.2.1 h0 h1)) ?_
  dsimp only
  rw [sn_hC ha.1, sn_co1 (ha.2.2 _ hx).1 (by have := (ha.2.2 _ hx).2; omega)]
  exact kk
theorem sn_q_iast (hb : sn_bc M = cc) (hd : decode cc pc = .ok (.iastore, 1)) (ha : sn_ai q len) (hP : (q : Int) = P) (h0 : 0 ≤ x) (h1 : x < len) (kk : sn_Wp M (pc + 1) lv st (sn_hh n k Y (sn_s σ P x z) X) Q) : sn_Wp M pc lv (sn_i z :: sn_i x :: sn_r q :: st) (sn_hh n k Y σ X) Q := by
  refine sn_q_go (d := (pc + 1, lv, st, ((sn_hh n k Y σ X).1, (sn_hh n k Y σ X).2.1, (sn_hh n k Y σ X).2.2.1, sn_w (sn_hh n k Y σ X).2.2.2 q x.toNat (sn_i z)))) hb hd rfl (if_pos (by rw [sn_idx_ok ha.1 ha.2.1 h0 h1, decide_eq_true ha.1.1]; rfl)) ?_
  dsimp only
  rw [sn_put ha.1 (ha.2.2 _) hP, Int.toNat_of_nonneg h0]
  exact kk
theorem sn_q_bast (hb : sn_bc M = cc) (hd : decode cc pc = .ok (.bastore, 1)) (ha : sn_az q len) (hP : (q : Int) = P) (h0 : 0 ≤ x) (h1 : x < len) (hz : z = 0 ∨ z = 1) (kk : sn_Wp M (pc + 1) lv st (sn_hh n k Y (sn_s σ P x z) X) Q) : sn_Wp M pc lv (sn_i z :: sn_i x :: sn_r q :: st) (sn_hh n k Y σ X) Q := by
  refine sn_q_go (d := (pc + 1, lv, st, ((sn_hh n k Y σ X).1, (sn_hh n k Y σ X).2.1, (sn_hh n k Y σ X).2.2.1, sn_w (sn_hh n k Y σ X).2.2.2 q x.toNat (sn_i z)))) hb hd rfl (if_pos (by rw [sn_idx_ok ha.1 ha.2.1 h0 h1, decide_eq_true ha.1.1]; rcases hz with rfl | rfl <;> rfl)) ?_
  dsimp only
  rw [sn_put ha.1 (ha.2.2 _) hP, Int.toNat_of_nonneg h0]
  exact kk
end SNHH
