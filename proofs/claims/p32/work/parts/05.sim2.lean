/-! ===== one instruction: the real machine follows ===== -/
section SNK
variable {G : sn_P} {p : Program} {l : Launch} {e : Env} {R : Room} {s : State} {m : MethodId} {args : Array Value} {below : List Frame} {meth : Method} {c : Code} {H : Heap} {locs : List Loc} {cells slots : Nat} {Q : State → Prop} {M pc : Nat} {ls : Array Slot} {lv r : List sn_V} {h : sn_H}
def sn_Sr (G : sn_P) (M : Nat) (s : State) (H : Heap) (locs : List Loc) (ls : Array Slot) (lv st : List sn_V) (h : sn_H) : Prop :=
  sn_Rp G h H ∧ va_S (sn_A G) s.heap H locs ∧ sn_Ls G ls M lv ∧ ∀ v ∈ st, sn_wf v
/-- what is owed at the state behind a step -/
def sn_K (G : sn_P) (M : Nat) (p : Program) (l : Launch) (e : Env) (R : Room) (s : State) (m : MethodId) (args : Array Value) (below : List Frame) (meth : Method) (c : Code) (cells slots : Nat) (Q : State → Prop) (h : sn_H) (d : Nat × List sn_V × List sn_V × sn_H) : Prop :=
  ∀ (H' : Heap) (locs' : List Loc) (ls' : Array Slot), sn_Sr G M s H' locs' ls' d.2.1 d.2.2.1 d.2.2.2 → W p l e R s m args below meth c H' locs' (cells + (d.2.2.2.1 - h.1)) (slots + (d.2.2.2.2.1 - h.2.1)) Q (F0 m d.1 ls' (d.2.2.1.map (sn_tr G)))
theorem sn_K.go {pc' : Nat} {lv' st' : List sn_V} {ls' : Array Slot} (kk : sn_K G M p l e R s m args below meth c cells slots Q h (pc', lv', st', h)) (h1 : sn_Rp G h H) (h2 : va_S (sn_A G) s.heap H locs) (h3 : sn_Ls G ls' M lv') (h4 : ∀ v ∈ st', sn_wf v) :
    W p l e R s m args below meth c H locs cells slots Q (F0 m pc' ls' (st'.map (sn_tr G))) := by
  have k := kk H locs ls' ⟨h1, h2, h3, h4⟩
  dsimp only at k
  rw [Nat.sub_self, Nat.sub_self, Nat.add_zero, Nat.add_zero] at k
  exact k
theorem sn_wf1 {v : sn_V} {r : List sn_V} (h : sn_wf v) (hr : ∀ w ∈ r, sn_wf w) : ∀ w ∈ v :: r, sn_wf w := fun w hw => by
  rcases List.mem_cons.mp hw with rfl | hw
  · exact h
  · exact hr w hw
theorem sn_wfT {v : sn_V} {r : List sn_V} (hr : ∀ w ∈ v :: r, sn_wf w) : ∀ w ∈ r, sn_wf w := fun w hw => hr w (List.mem_cons_of_mem _ hw)
theorem sn_wfH {v : sn_V} {r : List sn_V} (hr : ∀ w ∈ v :: r, sn_wf w) : sn_wf v := hr v List.mem_cons_self
theorem sn_k_iconst {n : Int} (X : sn_Cx G M p R s m args meth c) (hd : decode (sn_bc M) pc = .ok (.iconst n, 1)) (S : sn_Sr G M s H locs ls lv r h) (hn : sn_inR n = true) (kk : sn_K G M p l e R s m args below meth c cells slots Q h (pc + 1, lv, sn_i n :: r, h)) :
    W p l e R s m args below meth c H locs cells slots Q (F0 m pc ls (r.map (sn_tr G))) := by
  refine lv_iconst (v := Int32.ofInt n) X.1 X.2.1 hd rfl ?_
  exact kk.go S.1 S.2.1 S.2.2.1 (sn_wf1 (sn_inR_iff hn) S.2.2.2)
theorem sn_k_bipush {n : Int} (X : sn_Cx G M p R s m args meth c) (hd : decode (sn_bc M) pc = .ok (.bipush n, 2)) (S : sn_Sr G M s H locs ls lv r h) (h1 : -128 ≤ n) (h2 : n ≤ 127) (kk : sn_K G M p l e R s m args below meth c cells slots Q h (pc + 2, lv, sn_i n :: r, h)) :
    W p l e R s m args below meth c H locs cells slots Q (F0 m pc ls (r.map (sn_tr G))) := by
  refine lv_bipush (v := Int32.ofInt n) X.1 X.2.1 hd ?_ ?_
  · apply Int32.toInt_inj.mp
    rw [Int8.toInt_toInt32, Int8.toInt_ofInt_of_le (by omega) (by omega), sn_to ⟨by omega, by omega⟩]
  · exact kk.go S.1 S.2.1 S.2.2.1 (sn_wf1 (show -2147483648 ≤ n ∧ n ≤ 2147483647 by omega) S.2.2.2)
theorem sn_k_sipush {n : Int} (X : sn_Cx G M p R s m args meth c) (hd : decode (sn_bc M) pc = .ok (.sipush n, 3)) (S : sn_Sr G M s H locs ls lv r h) (h1 : -32768 ≤ n) (h2 : n ≤ 32767) (kk : sn_K G M p l e R s m args below meth c cells slots Q h (pc + 3, lv, sn_i n :: r, h)) :
    W p l e R s m args below meth c H locs cells slots Q (F0 m pc ls (r.map (sn_tr G))) := by
  refine lv_sipush (v := Int32.ofInt n) X.1 X.2.1 hd ?_ ?_
  · apply Int32.toInt_inj.mp
    rw [Int16.toInt_toInt32, Int16.toInt_ofInt_of_le (by omega) (by omega), sn_to ⟨by omega, by omega⟩]
  · exact kk.go S.1 S.2.1 S.2.2.1 (sn_wf1 (show -2147483648 ≤ n ∧ n ≤ 2147483647 by omega) S.2.2.2)
theorem sn_k_dconst (X : sn_Cx G M p R s m args meth c) (hd : decode (sn_bc M) pc = .ok (.dconst 0, 1)) (S : sn_Sr G M s H locs ls lv r h) (kk : sn_K G M p l e R s m args below meth c cells slots Q h (pc + 1, lv, sn_d FP.dconst0 :: r, h)) :
    W p l e R s m args below meth c H locs cells slots Q (F0 m pc ls (r.map (sn_tr G))) := by
  refine lv_dconst0 X.1 X.2.1 hd ?_
  exact kk.go S.1 S.2.1 S.2.2.1 (sn_wf1 (v := sn_d FP.dconst0) trivial S.2.2.2)
theorem sn_k_ld_in {k : Fin 4} {z : Int} (X : sn_Cx G M p R s m args meth c) (hd : decode (sn_bc M) pc = .ok (.iload_n k, 1)) (S : sn_Sr G M s H locs ls lv r h) (hk : lv[k.val]? = some (sn_i z)) (kk : sn_K G M p l e R s m args below meth c cells slots Q h (pc + 1, lv, sn_i z :: r, h)) :
    W p l e R s m args below meth c H locs cells slots Q (F0 m pc ls (r.map (sn_tr G))) := by
  refine lv_iload_n X.1 X.2.1 hd rfl (S.2.2.1.at hk (by intro h; cases h)) ?_
  exact kk.go S.1 S.2.1 S.2.2.1 (sn_wf1 (S.2.2.1.2.2.1 _ (List.mem_of_getElem? hk)) S.2.2.2)
theorem sn_k_ld_i {k : Nat} {z : Int} (X : sn_Cx G M p R s m args meth c) (hd : decode (sn_bc M) pc = .ok (.iload k, 2)) (S : sn_Sr G M s H locs ls lv r h) (hk : lv[k]? = some (sn_i z)) (kk : sn_K G M p l e R s m args below meth c cells slots Q h (pc + 2, lv, sn_i z :: r, h)) :
    W p l e R s m args below meth c H locs cells slots Q (F0 m pc ls (r.map (sn_tr G))) := by
  refine lv_iload X.1 X.2.1 hd (S.2.2.1.at hk (by intro h; cases h)) ?_
  exact kk.go S.1 S.2.1 S.2.2.1 (sn_wf1 (S.2.2.1.2.2.1 _ (List.mem_of_getElem? hk)) S.2.2.2)
theorem sn_k_ld_an {k : Fin 4} {z : Option Nat} (X : sn_Cx G M p R s m args meth c) (hd : decode (sn_bc M) pc = .ok (.aload_n k, 1)) (S : sn_Sr G M s H locs ls lv r h) (hk : lv[k.val]? = some (.inr (.inl z))) (kk : sn_K G M p l e R s m args below meth c cells slots Q h (pc + 1, lv, .inr (.inl z) :: r, h)) :
    W p l e R s m args below meth c H locs cells slots Q (F0 m pc ls (r.map (sn_tr G))) := by
  have h1 := S.2.2.1.at hk (by intro h; cases h)
  have h2 := kk.go (locs := locs) S.1 S.2.1 S.2.2.1 (sn_wf1 (S.2.2.1.2.2.1 _ (List.mem_of_getElem? hk)) S.2.2.2)
  cases z with
  | some z => exact lv_aload_n X.1 X.2.1 hd rfl h1 h2
  | none => exact lv_aload_nN X.1 X.2.1 hd rfl h1 h2
theorem sn_k_ld_a {k : Nat} {z : Option Nat} (X : sn_Cx G M p R s m args meth c) (hd : decode (sn_bc M) pc = .ok (.aload k, 2)) (S : sn_Sr G M s H locs ls lv r h) (hk : lv[k]? = some (.inr (.inl z))) (kk : sn_K G M p l e R s m args below meth c cells slots Q h (pc + 2, lv, .inr (.inl z) :: r, h)) :
    W p l e R s m args below meth c H locs cells slots Q (F0 m pc ls (r.map (sn_tr G))) := by
  have h1 := S.2.2.1.at hk (by intro h; cases h)
  have h2 := kk.go (locs := locs) S.1 S.2.1 S.2.2.1 (sn_wf1 (S.2.2.1.2.2.1 _ (List.mem_of_getElem? hk)) S.2.2.2)
  cases z with
  | some z => exact lv_aload X.1 X.2.1 hd h1 h2
  | none => exact lv_aloadN X.1 X.2.1 hd h1 h2
theorem sn_k_ld_ln {k : Fin 4} {z : Int} (X : sn_Cx G M p R s m args meth c) (hd : decode (sn_bc M) pc = .ok (.lload_n k, 1)) (S : sn_Sr G M s H locs ls lv r h) (hk : lv[k.val]? = some (sn_l z)) (kk : sn_K G M p l e R s m args below meth c cells slots Q h (pc + 1, lv, sn_l z :: r, h)) :
    W p l e R s m args below meth c H locs cells slots Q (F0 m pc ls (r.map (sn_tr G))) := by
  refine lv_lload_n X.1 X.2.1 hd rfl (S.2.2.1.at hk (by intro h; cases h)) ?_
  exact kk.go S.1 S.2.1 S.2.2.1 (sn_wf1 (S.2.2.1.2.2.1 _ (List.mem_of_getElem? hk)) S.2.2.2)
theorem sn_k_ld_l {k : Nat} {z : Int} (X : sn_Cx G M p R s m args meth c) (hd : decode (sn_bc M) pc = .ok (.lload k, 2)) (S : sn_Sr G M s H locs ls lv r h) (hk : lv[k]? = some (sn_l z)) (kk : sn_K G M p l e R s m args below meth c cells slots Q h (pc + 2, lv, sn_l z :: r, h)) :
    W p l e R s m args below meth c H locs cells slots Q (F0 m pc ls (r.map (sn_tr G))) := by
  refine lv_lload X.1 X.2.1 hd (S.2.2.1.at hk (by intro h; cases h)) ?_
  exact kk.go S.1 S.2.1 S.2.2.1 (sn_wf1 (S.2.2.1.2.2.1 _ (List.mem_of_getElem? hk)) S.2.2.2)
theorem sn_k_st_in {k : Fin 4} {z : Int} (X : sn_Cx G M p R s m args meth c) (hd : decode (sn_bc M) pc = .ok (.istore_n k, 1)) (S : sn_Sr G M s H locs ls lv (sn_i z :: r) h) (hk : k.val < lv.length) (hno : (sn_hl M && decide (0 < k.val) && sn_two (lv.getD (k.val - 1) sn_u)) = false) (kk : sn_K G M p l e R s m args below meth c cells slots Q h (pc + 1, lv.set k.val (sn_i z), r, h)) :
    W p l e R s m args below meth c H locs cells slots Q (F0 m pc ls ((sn_i z :: r).map (sn_tr G))) := by
  refine lv_istore_n X.1 X.2.1 hd rfl S.2.2.1.1 (by rw [← S.2.2.1.2.1]; exact hk) rfl (fun ls' hl => ?_)
  exact kk.go S.1 S.2.1 (S.2.2.1.set (sn_wfH S.2.2.2) rfl hno hl) (sn_wfT S.2.2.2)
theorem sn_k_st_i {k : Nat} {z : Int} (X : sn_Cx G M p R s m args meth c) (hd : decode (sn_bc M) pc = .ok (.istore k, 2)) (S : sn_Sr G M s H locs ls lv (sn_i z :: r) h) (hk : k < lv.length) (hno : (sn_hl M && decide (0 < k) && sn_two (lv.getD (k - 1) sn_u)) = false) (kk : sn_K G M p l e R s m args below meth c cells slots Q h (pc + 2, lv.set k (sn_i z), r, h)) :
    W p l e R s m args below meth c H locs cells slots Q (F0 m pc ls ((sn_i z :: r).map (sn_tr G))) := by
  refine lv_istore X.1 X.2.1 hd S.2.2.1.1 (by rw [← S.2.2.1.2.1]; exact hk) rfl (fun ls' hl => ?_)
  exact kk.go S.1 S.2.1 (S.2.2.1.set (sn_wfH S.2.2.2) rfl hno hl) (sn_wfT S.2.2.2)
theorem sn_k_st_an {k : Fin 4} {z : Nat} (X : sn_Cx G M p R s m args meth c) (hd : decode (sn_bc M) pc = .ok (.astore_n k, 1)) (S : sn_Sr G M s H locs ls lv (sn_r z :: r) h) (hk : k.val < lv.length) (hno : (sn_hl M && decide (0 < k.val) && sn_two (lv.getD (k.val - 1) sn_u)) = false) (kk : sn_K G M p l e R s m args below meth c cells slots Q h (pc + 1, lv.set k.val (sn_r z), r, h)) :
    W p l e R s m args below meth c H locs cells slots Q (F0 m pc ls ((sn_r z :: r).map (sn_tr G))) := by
  refine lv_astore_n X.1 X.2.1 hd rfl S.2.2.1.1 (by rw [← S.2.2.1.2.1]; exact hk) rfl (fun ls' hl => ?_)
  exact kk.go S.1 S.2.1 (S.2.2.1.set (sn_wfH S.2.2.2) rfl hno hl) (sn_wfT S.2.2.2)
theorem sn_k_st_a {k : Nat} {z : Nat} (X : sn_Cx G M p R s m args meth c) (hd : decode (sn_bc M) pc = .ok (.astore k, 2)) (S : sn_Sr G M s H locs ls lv (sn_r z :: r) h) (hk : k < lv.length) (hno : (sn_hl M && decide (0 < k) && sn_two (lv.getD (k - 1) sn_u)) = false) (kk : sn_K G M p l e R s m args below meth c cells slots Q h (pc + 2, lv.set k (sn_r z), r, h)) :
    W p l e R s m args below meth c H locs cells slots Q (F0 m pc ls ((sn_r z :: r).map (sn_tr G))) := by
  refine lv_astore X.1 X.2.1 hd S.2.2.1.1 (by rw [← S.2.2.1.2.1]; exact hk) rfl (fun ls' hl => ?_)
  exact kk.go S.1 S.2.1 (S.2.2.1.set (sn_wfH S.2.2.2) rfl hno hl) (sn_wfT S.2.2.2)
theorem sn_k_st_ln {k : Fin 4} {z : Int} (X : sn_Cx G M p R s m args meth c) (hd : decode (sn_bc M) pc = .ok (.lstore_n k, 1)) (S : sn_Sr G M s H locs ls lv (sn_l z :: r) h) (hM : sn_hl M = true) (hk : k.val + 1 < lv.length) (hno : (decide (0 < k.val) && sn_two (lv.getD (k.val - 1) sn_u)) = false) (kk : sn_K G M p l e R s m args below meth c cells slots Q h (pc + 1, (lv.set k.val (sn_l z)).set (k.val + 1) sn_u, r, h)) :
    W p l e R s m args below meth c H locs cells slots Q (F0 m pc ls ((sn_l z :: r).map (sn_tr G))) := by
  refine lv_lstore_n X.1 X.2.1 hd rfl S.2.2.1.1 (by rw [← S.2.2.1.2.1]; exact hk) rfl (fun ls' hl => ?_)
  exact kk.go S.1 S.2.1 (S.2.2.1.set2 (sn_wfH S.2.2.2) hM hno hl) (sn_wfT S.2.2.2)
theorem sn_k_st_l {k : Nat} {z : Int} (X : sn_Cx G M p R s m args meth c) (hd : decode (sn_bc M) pc = .ok (.lstore k, 2)) (S : sn_Sr G M s H locs ls lv (sn_l z :: r) h) (hM : sn_hl M = true) (hk : k + 1 < lv.length) (hno : (decide (0 < k) && sn_two (lv.getD (k - 1) sn_u)) = false) (kk : sn_K G M p l e R s m args below meth c cells slots Q h (pc + 2, (lv.set k (sn_l z)).set (k + 1) sn_u, r, h)) :
    W p l e R s m args below meth c H locs cells slots Q (F0 m pc ls ((sn_l z :: r).map (sn_tr G))) := by
  refine lv_lstore X.1 X.2.1 hd S.2.2.1.1 (by rw [← S.2.2.1.2.1]; exact hk) rfl (fun ls' hl => ?_)
  exact kk.go S.1 S.2.1 (S.2.2.1.set2 (sn_wfH S.2.2.2) hM hno hl) (sn_wfT S.2.2.2)
theorem sn_k_iinc {k : Nat} {n z : Int} (X : sn_Cx G M p R s m args meth c) (hd : decode (sn_bc M) pc = .ok (.iinc k n, 3)) (S : sn_Sr G M s H locs ls lv r h) (hz : lv[k]? = some (sn_i z)) (hk : k < lv.length) (hno : (sn_hl M && decide (0 < k) && sn_two (lv.getD (k - 1) sn_u)) = false) (kk : sn_K G M p l e R s m args below meth c cells slots Q h (pc + 3, lv.set k (sn_i (sn_wr (z + n))), r, h)) :
    W p l e R s m args below meth c H locs cells slots Q (F0 m pc ls (r.map (sn_tr G))) := by
  have hm : (k, sn_tr G (sn_i z)) ∈ sn_lvl G lv := (sn_lvl_mem G lv _).mpr ⟨_, hz, (by intro h; cases h), rfl⟩
  obtain ⟨j, hj⟩ := List.getElem?_of_mem hm
  refine lv_iinc (k := j) (x := Int32.ofInt z) (v := Int32.ofInt (sn_wr (z + n))) X.1 X.2.1 hd S.2.2.1.1 hj (by rw [sn_wr_eq, Int32.ofInt_add]) (by rw [← S.2.2.1.2.1]; exact hk) rfl (fun ls' hl => ?_)
  exact kk.go S.1 S.2.1 (S.2.2.1.set (sn_wr_in _) rfl hno hl) S.2.2.2
theorem sn_k_iadd {x y : Int} (X : sn_Cx G M p R s m args meth c) (hd : decode (sn_bc M) pc = .ok (.iadd, 1)) (S : sn_Sr G M s H locs ls lv (sn_i y :: sn_i x :: r) h) (kk : sn_K G M p l e R s m args below meth c cells slots Q h (pc + 1, lv, sn_i (sn_wr (x + y)) :: r, h)) :
    W p l e R s m args below meth c H locs cells slots Q (F0 m pc ls ((sn_i y :: sn_i x :: r).map (sn_tr G))) := by
  refine lv_iadd (x := Int32.ofInt x) (y := Int32.ofInt y) X.1 X.2.1 hd ?_
  rw [← Int32.ofInt_add, ← sn_wr_eq]
  exact kk.go S.1 S.2.1 S.2.2.1 (sn_wf1 (v := sn_i _) (sn_wr_in _) (sn_wfT (sn_wfT S.2.2.2)))
theorem sn_k_isub {x y : Int} (X : sn_Cx G M p R s m args meth c) (hd : decode (sn_bc M) pc = .ok (.isub, 1)) (S : sn_Sr G M s H locs ls lv (sn_i y :: sn_i x :: r) h) (kk : sn_K G M p l e R s m args below meth c cells slots Q h (pc + 1, lv, sn_i (sn_wr (x - y)) :: r, h)) :
    W p l e R s m args below meth c H locs cells slots Q (F0 m pc ls ((sn_i y :: sn_i x :: r).map (sn_tr G))) := by
  refine lv_isub (x := Int32.ofInt x) (y := Int32.ofInt y) X.1 X.2.1 hd ?_
  rw [← Int32.ofInt_sub, ← sn_wr_eq]
  exact kk.go S.1 S.2.1 S.2.2.1 (sn_wf1 (v := sn_i _) (sn_wr_in _) (sn_wfT (sn_wfT S.2.2.2)))
theorem sn_k_imul {x y : Int} (X : sn_Cx G M p R s m args meth c) (hd : decode (sn_bc M) pc = .ok (.imul, 1)) (S : sn_Sr G M s H locs ls lv (sn_i y :: sn_i x :: r) h) (kk : sn_K G M p l e R s m args below meth c cells slots Q h (pc + 1, lv, sn_i (sn_wr (x * y)) :: r, h)) :
    W p l e R s m args below meth c H locs cells slots Q (F0 m pc ls ((sn_i y :: sn_i x :: r).map (sn_tr G))) := by
  refine lv_imul (x := Int32.ofInt x) (y := Int32.ofInt y) X.1 X.2.1 hd ?_
  rw [← Int32.ofInt_mul, ← sn_wr_eq]
  exact kk.go S.1 S.2.1 S.2.2.1 (sn_wf1 (v := sn_i _) (sn_wr_in _) (sn_wfT (sn_wfT S.2.2.2)))
theorem sn_k_iand {x y : Int} (X : sn_Cx G M p R s m args meth c) (hd : decode (sn_bc M) pc = .ok (.iand, 1)) (S : sn_Sr G M s H locs ls lv (sn_i y :: sn_i x :: r) h) (kk : sn_K G M p l e R s m args below meth c cells slots Q h (pc + 1, lv, sn_i (sn_an x y) :: r, h)) :
    W p l e R s m args below meth c H locs cells slots Q (F0 m pc ls ((sn_i y :: sn_i x :: r).map (sn_tr G))) := by
  refine lv_iand (x := Int32.ofInt x) (y := Int32.ofInt y) X.1 X.2.1 hd ?_
  have k := kk.go (locs := locs) S.1 S.2.1 S.2.2.1 (sn_wf1 (v := sn_i _) (sn_of_in _) (sn_wfT (sn_wfT S.2.2.2)))
  simp only [List.map_cons, sn_tr, sn_an, Int32.ofInt_toInt] at k
  exact k
theorem sn_k_ishr {x y : Int} (X : sn_Cx G M p R s m args meth c) (hd : decode (sn_bc M) pc = .ok (.ishr, 1)) (S : sn_Sr G M s H locs ls lv (sn_i y :: sn_i x :: r) h) (kk : sn_K G M p l e R s m args below meth c cells slots Q h (pc + 1, lv, sn_i (sn_sh x y) :: r, h)) :
    W p l e R s m args below meth c H locs cells slots Q (F0 m pc ls ((sn_i y :: sn_i x :: r).map (sn_tr G))) := by
  refine lv_ishr (x := Int32.ofInt x) (y := Int32.ofInt y) X.1 X.2.1 hd ?_
  have k := kk.go (locs := locs) S.1 S.2.1 S.2.2.1 (sn_wf1 (v := sn_i _) (sn_of_in _) (sn_wfT (sn_wfT S.2.2.2)))
  simp only [List.map_cons, sn_tr, sn_sh, Int32.ofInt_toInt] at k
  exact k
theorem sn_k_idiv {x y : Int} (X : sn_Cx G M p R s m args meth c) (hd : decode (sn_bc M) pc = .ok (.idiv, 1)) (S : sn_Sr G M s H locs ls lv (sn_i y :: sn_i x :: r) h) (hy : ¬ y = 0) (kk : sn_K G M p l e R s m args below meth c cells slots Q h (pc + 1, lv, sn_i (sn_dv x y) :: r, h)) :
    W p l e R s m args below meth c H locs cells slots Q (F0 m pc ls ((sn_i y :: sn_i x :: r).map (sn_tr G))) := by
  refine lv_idiv (x := Int32.ofInt x) (y := Int32.ofInt y) X.1 X.2.1 hd ?_ ?_
  · intro h0
    have h1 := congrArg Int32.toInt h0
    rw [sn_to (sn_wfH S.2.2.2), Int32.toInt_zero] at h1
    exact hy h1
  have k := kk.go (locs := locs) S.1 S.2.1 S.2.2.1 (sn_wf1 (v := sn_i _) (sn_of_in _) (sn_wfT (sn_wfT S.2.2.2)))
  simp only [List.map_cons, sn_tr, sn_dv, Int32.ofInt_toInt] at k
  exact k
theorem sn_k_irem {x y : Int} (X : sn_Cx G M p R s m args meth c) (hd : decode (sn_bc M) pc = .ok (.irem, 1)) (S : sn_Sr G M s H locs ls lv (sn_i y :: sn_i x :: r) h) (hy : ¬ y = 0) (kk : sn_K G M p l e R s m args below meth c cells slots Q h (pc + 1, lv, sn_i (sn_rm x y) :: r, h)) :
    W p l e R s m args below meth c H locs cells slots Q (F0 m pc ls ((sn_i y :: sn_i x :: r).map (sn_tr G))) := by
  refine lv_irem (x := Int32.ofInt x) (y := Int32.ofInt y) X.1 X.2.1 hd ?_ ?_
  · intro h0
    have h1 := congrArg Int32.toInt h0
    rw [sn_to (sn_wfH S.2.2.2), Int32.toInt_zero] at h1
    exact hy h1
  have k := kk.go (locs := locs) S.1 S.2.1 S.2.2.1 (sn_wf1 (v := sn_i _) (sn_of_in _) (sn_wfT (sn_wfT S.2.2.2)))
  simp only [List.map_cons, sn_tr, sn_rm, Int32.ofInt_toInt] at k
  exact k
theorem sn_k_i2l {x : Int} (X : sn_Cx G M p R s m args meth c) (hd : decode (sn_bc M) pc = .ok (.i2l, 1)) (S : sn_Sr G M s H locs ls lv (sn_i x :: r) h) (kk : sn_K G M p l e R s m args below meth c cells slots Q h (pc + 1, lv, sn_l x :: r, h)) :
    W p l e R s m args below meth c H locs cells slots Q (F0 m pc ls ((sn_i x :: r).map (sn_tr G))) := by
  have hx : -2147483648 ≤ x ∧ x ≤ 2147483647 := sn_wfH S.2.2.2
  have h64 : (Int64.ofInt x).toInt = x := Int64.toInt_ofInt_of_le (by omega) (by omega)
  refine lv_i2l (x := Int32.ofInt x) (v := Int64.ofInt x) X.1 X.2.1 hd ?_ ?_
  · apply Int64.toInt_inj.mp
    rw [Int32.toInt_toInt64, sn_to hx, h64]
  · exact kk.go S.1 S.2.1 S.2.2.1 (sn_wf1 (v := sn_l x) h64 (sn_wfT S.2.2.2))
theorem sn_k_ladd {x y : Int} (X : sn_Cx G M p R s m args meth c) (hd : decode (sn_bc M) pc = .ok (.ladd, 1)) (S : sn_Sr G M s H locs ls lv (sn_l y :: sn_l x :: r) h) (kk : sn_K G M p l e R s m args below meth c cells slots Q h (pc + 1, lv, sn_l (sn_wl (x + y)) :: r, h)) :
    W p l e R s m args below meth c H locs cells slots Q (F0 m pc ls ((sn_l y :: sn_l x :: r).map (sn_tr G))) := by
  refine lv_ladd (x := Int64.ofInt x) (y := Int64.ofInt y) X.1 X.2.1 hd ?_
  rw [← Int64.ofInt_add, ← sn_wl_eq]
  exact kk.go S.1 S.2.1 S.2.2.1 (sn_wf1 (v := sn_l _) (show sn_wl (sn_wl _) = _ by unfold sn_wl; rw [Int64.ofInt_toInt]) (sn_wfT (sn_wfT S.2.2.2)))
theorem sn_k_lmul {x y : Int} (X : sn_Cx G M p R s m args meth c) (hd : decode (sn_bc M) pc = .ok (.lmul, 1)) (S : sn_Sr G M s H locs ls lv (sn_l y :: sn_l x :: r) h) (kk : sn_K G M p l e R s m args below meth c cells slots Q h (pc + 1, lv, sn_l (sn_wl (x * y)) :: r, h)) :
    W p l e R s m args below meth c H locs cells slots Q (F0 m pc ls ((sn_l y :: sn_l x :: r).map (sn_tr G))) := by
  refine lv_lmul (x := Int64.ofInt x) (y := Int64.ofInt y) X.1 X.2.1 hd ?_
  rw [← Int64.ofInt_mul, ← sn_wl_eq]
  exact kk.go S.1 S.2.1 S.2.2.1 (sn_wf1 (v := sn_l _) (show sn_wl (sn_wl _) = _ by unfold sn_wl; rw [Int64.ofInt_toInt]) (sn_wfT (sn_wfT S.2.2.2)))
theorem sn_k_lcmp {x y : Int} (X : sn_Cx G M p R s m args meth c) (hd : decode (sn_bc M) pc = .ok (.lcmp, 1)) (S : sn_Sr G M s H locs ls lv (sn_l y :: sn_l x :: r) h) (kk : sn_K G M p l e R s m args below meth c cells slots Q h (pc + 1, lv, sn_i (sn_lc x y) :: r, h)) :
    W p l e R s m args below meth c H locs cells slots Q (F0 m pc ls ((sn_l y :: sn_l x :: r).map (sn_tr G))) := by
  refine W.lcmp (x := Int64.ofInt x) (y := Int64.ofInt y) X.1 X.2.1 hd ?_
  have k := kk.go (locs := locs) S.1 S.2.1 S.2.2.1 (sn_wf1 (v := sn_i _) (sn_of_in _) (sn_wfT (sn_wfT S.2.2.2)))
  simp only [List.map_cons, sn_tr, sn_lc, Int32.ofInt_toInt] at k
  exact k
theorem sn_k_i2d {x : Int} (X : sn_Cx G M p R s m args meth c) (hd : decode (sn_bc M) pc = .ok (.i2d, 1)) (S : sn_Sr G M s H locs ls lv (sn_i x :: r) h) (kk : sn_K G M p l e R s m args below meth c cells slots Q h (pc + 1, lv, sn_d (FP.i2d (Int32.ofInt x)) :: r, h)) :
    W p l e R s m args below meth c H locs cells slots Q (F0 m pc ls ((sn_i x :: r).map (sn_tr G))) := by
  refine lv_i2d (x := Int32.ofInt x) X.1 X.2.1 hd ?_
  exact kk.go S.1 S.2.1 S.2.2.1 (sn_wf1 (v := sn_d _) trivial (sn_wfT S.2.2.2))
theorem sn_k_ddiv {x y : UInt64} (X : sn_Cx G M p R s m args meth c) (hd : decode (sn_bc M) pc = .ok (.ddiv, 1)) (S : sn_Sr G M s H locs ls lv (sn_d y :: sn_d x :: r) h) (hn : FP.ddiv x y &&& 0x7fffffffffffffff ≤ 0x7ff0000000000000) (kk : sn_K G M p l e R s m args below meth c cells slots Q h (pc + 1, lv, sn_d (FP.ddiv x y) :: r, h)) :
    W p l e R s m args below meth c H locs cells slots Q (F0 m pc ls ((sn_d y :: sn_d x :: r).map (sn_tr G))) := by
  refine lv_ddiv (x := x) (y := y) X.1 X.2.1 hd hn ?_
  exact kk.go S.1 S.2.1 S.2.2.1 (sn_wf1 (v := sn_d _) trivial (sn_wfT (sn_wfT S.2.2.2)))
theorem sn_k_dcmp {x y : UInt64} {op : CmpOp} (X : sn_Cx G M p R s m args meth c) (hd : decode (sn_bc M) pc = .ok (.dcmp op, 1)) (S : sn_Sr G M s H locs ls lv (sn_d y :: sn_d x :: r) h) (kk : sn_K G M p l e R s m args below meth c cells slots Q h (pc + 1, lv, sn_i (Op.cmpValue (FP.dcmp x y) op).toInt :: r, h)) :
    W p l e R s m args below meth c H locs cells slots Q (F0 m pc ls ((sn_d y :: sn_d x :: r).map (sn_tr G))) := by
  refine lv_dcmp (x := x) (y := y) X.1 X.2.1 hd ?_
  have k := kk.go (locs := locs) S.1 S.2.1 S.2.2.1 (sn_wf1 (v := sn_i _) (sn_of_in _) (sn_wfT (sn_wfT S.2.2.2)))
  simp only [List.map_cons, sn_tr, Int32.ofInt_toInt] at k
  exact k
theorem sn_isN1 {v : sn_V} (h : sn_isN v = true) : (sn_tr G v).category = 1 := by
  rw [sn_cat]
  match v, h with
  | .inl z, _ => rfl
  | .inr (.inl z), _ => rfl
theorem sn_k_dup {v : sn_V} (X : sn_Cx G M p R s m args meth c) (hd : decode (sn_bc M) pc = .ok (.dup, 1)) (S : sn_Sr G M s H locs ls lv (v :: r) h) (hv : sn_isN v = true) (kk : sn_K G M p l e R s m args below meth c cells slots Q h (pc + 1, lv, v :: v :: r, h)) :
    W p l e R s m args below meth c H locs cells slots Q (F0 m pc ls ((v :: r).map (sn_tr G))) := by
  refine lv_dup X.1 X.2.1 hd (sn_isN1 hv) ?_
  exact kk.go S.1 S.2.1 S.2.2.1 (sn_wf1 (sn_wfH S.2.2.2) S.2.2.2)
theorem sn_k_dup2 {v w : sn_V} (X : sn_Cx G M p R s m args meth c) (hd : decode (sn_bc M) pc = .ok (.dup2, 1)) (S : sn_Sr G M s H locs ls lv (v :: w :: r) h) (hv : sn_isN v = true) (hw : sn_isN w = true) (kk : sn_K G M p l e R s m args below meth c cells slots Q h (pc + 1, lv, v :: w :: v :: w :: r, h)) :
    W p l e R s m args below meth c H locs cells slots Q (F0 m pc ls ((v :: w :: r).map (sn_tr G))) := by
  refine lv_dup2_11 X.1 X.2.1 hd (sn_isN1 hv) (sn_isN1 hw) ?_
  exact kk.go S.1 S.2.1 S.2.2.1 (sn_wf1 (sn_wfH S.2.2.2) (sn_wf1 (sn_wfH (sn_wfT S.2.2.2)) S.2.2.2))
theorem sn_k_pop {v : sn_V} (X : sn_Cx G M p R s m args meth c) (hd : decode (sn_bc M) pc = .ok (.pop, 1)) (S : sn_Sr G M s H locs ls lv (v :: r) h) (hv : sn_isN v = true) (kk : sn_K G M p l e R s m args below meth c cells slots Q h (pc + 1, lv, r, h)) :
    W p l e R s m args below meth c H locs cells slots Q (F0 m pc ls ((v :: r).map (sn_tr G))) := by
  refine lv_pop X.1 X.2.1 hd (sn_isN1 hv) ?_
  exact kk.go S.1 S.2.1 S.2.2.1 (sn_wfT S.2.2.2)
theorem sn_goto_eq {off : Int} {d : Nat × List sn_V × List sn_V × sn_H} (hg : sn_goto pc off lv r h = some (.inl d)) : (pc : Int) + off = ((((pc : Int) + off).toNat : Nat) : Int) ∧ d = (((pc : Int) + off).toNat, lv, r, h) := by
  unfold sn_goto at hg
  split at hg
  · rename_i h0
    cases hg
    exact ⟨(Int.toNat_of_nonneg h0).symm, rfl⟩
  · cases hg
theorem sn_k_goto {off : Int} {d : Nat × List sn_V × List sn_V × sn_H} (X : sn_Cx G M p R s m args meth c) (hd : decode (sn_bc M) pc = .ok (.goto off, 3)) (S : sn_Sr G M s H locs ls lv r h) (hg : sn_goto pc off lv r h = some (.inl d)) (kk : sn_K G M p l e R s m args below meth c cells slots Q h d) :
    W p l e R s m args below meth c H locs cells slots Q (F0 m pc ls (r.map (sn_tr G))) := by
  obtain ⟨h1, rfl⟩ := sn_goto_eq hg
  exact lv_goto X.1 X.2.1 hd h1 (kk.go S.1 S.2.1 S.2.2.1 S.2.2.2)
theorem sn_lt_iff {x y : Int} (hx : -2147483648 ≤ x ∧ x ≤ 2147483647) (hy : -2147483648 ≤ y ∧ y ≤ 2147483647) : Int32.ofInt x < Int32.ofInt y ↔ x < y := by
  rw [Int32.lt_iff_toInt_lt, sn_to hx, sn_to hy]
theorem sn_le_iff {x y : Int} (hx : -2147483648 ≤ x ∧ x ≤ 2147483647) (hy : -2147483648 ≤ y ∧ y ≤ 2147483647) : Int32.ofInt x ≤ Int32.ofInt y ↔ x ≤ y := by
  rw [Int32.le_iff_toInt_le, sn_to hx, sn_to hy]
theorem sn_eq_iff {x y : Int} (hx : -2147483648 ≤ x ∧ x ≤ 2147483647) (hy : -2147483648 ≤ y ∧ y ≤ 2147483647) : Int32.ofInt x = Int32.ofInt y ↔ x = y := by
  rw [← Int32.toInt_inj, sn_to hx, sn_to hy]
theorem sn_k_icmp_eq {x y off : Int} (X : sn_Cx G M p R s m args meth c) (hd : decode (sn_bc M) pc = .ok (.if_icmp .eq off, 3)) (S : sn_Sr G M s H locs ls lv (sn_i y :: sn_i x :: r) h) (hoff : 0 ≤ (pc : Int) + off) (kk : sn_K G M p l e R s m args below meth c cells slots Q h (if sn_cmp .eq x y then (((pc : Int) + off).toNat, lv, r, h) else (pc + 3, lv, r, h))) :
    W p l e R s m args below meth c H locs cells slots Q (F0 m pc ls ((sn_i y :: sn_i x :: r).map (sn_tr G))) := by
  have hy : -2147483648 ≤ y ∧ y ≤ 2147483647 := sn_wfH S.2.2.2
  have hx : -2147483648 ≤ x ∧ x ≤ 2147483647 := sn_wfH (sn_wfT S.2.2.2)
  refine lv_icmp_eq (x := Int32.ofInt x) (y := Int32.ofInt y) (tgt := ((pc : Int) + off).toNat) X.1 X.2.1 hd (Int.toNat_of_nonneg hoff).symm (fun hc => ?_) (fun hc => ?_)
  · rw [if_pos (show sn_cmp .eq x y = true from decide_eq_true ((sn_eq_iff hx hy).mp hc))] at kk
    exact kk.go S.1 S.2.1 S.2.2.1 (sn_wfT (sn_wfT S.2.2.2))
  · rw [if_neg (show ¬ sn_cmp .eq x y = true from fun z => hc ((sn_eq_iff hx hy).mpr (of_decide_eq_true z)))] at kk
    exact kk.go S.1 S.2.1 S.2.2.1 (sn_wfT (sn_wfT S.2.2.2))
theorem sn_k_if_eq {x off : Int} (X : sn_Cx G M p R s m args meth c) (hd : decode (sn_bc M) pc = .ok (.ifCond .eq off, 3)) (S : sn_Sr G M s H locs ls lv (sn_i x :: r) h) (hoff : 0 ≤ (pc : Int) + off) (kk : sn_K G M p l e R s m args below meth c cells slots Q h (if sn_cmp .eq x 0 then (((pc : Int) + off).toNat, lv, r, h) else (pc + 3, lv, r, h))) :
    W p l e R s m args below meth c H locs cells slots Q (F0 m pc ls ((sn_i x :: r).map (sn_tr G))) := by
  obtain ⟨y, hyd⟩ : ∃ y : Int, y = 0 := ⟨0, rfl⟩
  have hy : -2147483648 ≤ y ∧ y ≤ 2147483647 := by omega
  have hx : -2147483648 ≤ x ∧ x ≤ 2147483647 := sn_wfH S.2.2.2
  have h0 : (0 : Int32) = Int32.ofInt y := by rw [hyd]; rfl
  rw [← hyd] at kk
  refine lv_if_eq (x := Int32.ofInt x) (tgt := ((pc : Int) + off).toNat) X.1 X.2.1 hd (Int.toNat_of_nonneg hoff).symm (fun hc => ?_) (fun hc => ?_)
  · rw [h0] at hc
    rw [if_pos (show sn_cmp .eq x y = true from decide_eq_true ((sn_eq_iff hx hy).mp hc))] at kk
    exact kk.go S.1 S.2.1 S.2.2.1 (sn_wfT S.2.2.2)
  · rw [h0] at hc
    rw [if_neg (show ¬ sn_cmp .eq x y = true from fun z => hc ((sn_eq_iff hx hy).mpr (of_decide_eq_true z)))] at kk
    exact kk.go S.1 S.2.1 S.2.2.1 (sn_wfT S.2.2.2)
theorem sn_k_icmp_ne {x y off : Int} (X : sn_Cx G M p R s m args meth c) (hd : decode (sn_bc M) pc = .ok (.if_icmp .ne off, 3)) (S : sn_Sr G M s H locs ls lv (sn_i y :: sn_i x :: r) h) (hoff : 0 ≤ (pc : Int) + off) (kk : sn_K G M p l e R s m args below meth c cells slots Q h (if sn_cmp .ne x y then (((pc : Int) + off).toNat, lv, r, h) else (pc + 3, lv, r, h))) :
    W p l e R s m args below meth c H locs cells slots Q (F0 m pc ls ((sn_i y :: sn_i x :: r).map (sn_tr G))) := by
  have hy : -2147483648 ≤ y ∧ y ≤ 2147483647 := sn_wfH S.2.2.2
  have hx : -2147483648 ≤ x ∧ x ≤ 2147483647 := sn_wfH (sn_wfT S.2.2.2)
  refine lv_icmp_ne (x := Int32.ofInt x) (y := Int32.ofInt y) (tgt := ((pc : Int) + off).toNat) X.1 X.2.1 hd (Int.toNat_of_nonneg hoff).symm (fun hc => ?_) (fun hc => ?_)
  · rw [if_pos (show sn_cmp .ne x y = true from decide_eq_true ((not_congr (sn_eq_iff hx hy)).mp hc))] at kk
    exact kk.go S.1 S.2.1 S.2.2.1 (sn_wfT (sn_wfT S.2.2.2))
  · rw [if_neg (show ¬ sn_cmp .ne x y = true from fun z => (of_decide_eq_true z : x ≠ y) ((sn_eq_iff hx hy).mp hc))] at kk
    exact kk.go S.1 S.2.1 S.2.2.1 (sn_wfT (sn_wfT S.2.2.2))
theorem sn_k_if_ne {x off : Int} (X : sn_Cx G M p R s m args meth c) (hd : decode (sn_bc M) pc = .ok (.ifCond .ne off, 3)) (S : sn_Sr G M s H locs ls lv (sn_i x :: r) h) (hoff : 0 ≤ (pc : Int) + off) (kk : sn_K G M p l e R s m args below meth c cells slots Q h (if sn_cmp .ne x 0 then (((pc : Int) + off).toNat, lv, r, h) else (pc + 3, lv, r, h))) :
    W p l e R s m args below meth c H locs cells slots Q (F0 m pc ls ((sn_i x :: r).map (sn_tr G))) := by
  obtain ⟨y, hyd⟩ : ∃ y : Int, y = 0 := ⟨0, rfl⟩
  have hy : -2147483648 ≤ y ∧ y ≤ 2147483647 := by omega
  have hx : -2147483648 ≤ x ∧ x ≤ 2147483647 := sn_wfH S.2.2.2
  have h0 : (0 : Int32) = Int32.ofInt y := by rw [hyd]; rfl
  rw [← hyd] at kk
  refine lv_if_ne (x := Int32.ofInt x) (tgt := ((pc : Int) + off).toNat) X.1 X.2.1 hd (Int.toNat_of_nonneg hoff).symm (fun hc => ?_) (fun hc => ?_)
  · rw [h0] at hc
    rw [if_pos (show sn_cmp .ne x y = true from decide_eq_true ((not_congr (sn_eq_iff hx hy)).mp hc))] at kk
    exact kk.go S.1 S.2.1 S.2.2.1 (sn_wfT S.2.2.2)
  · rw [h0] at hc
    rw [if_neg (show ¬ sn_cmp .ne x y = true from fun z => (of_decide_eq_true z : x ≠ y) ((sn_eq_iff hx hy).mp hc))] at kk
    exact kk.go S.1 S.2.1 S.2.2.1 (sn_wfT S.2.2.2)
theorem sn_k_icmp_lt {x y off : Int} (X : sn_Cx G M p R s m args meth c) (hd : decode (sn_bc M) pc = .ok (.if_icmp .lt off, 3)) (S : sn_Sr G M s H locs ls lv (sn_i y :: sn_i x :: r) h) (hoff : 0 ≤ (pc : Int) + off) (kk : sn_K G M p l e R s m args below meth c cells slots Q h (if sn_cmp .lt x y then (((pc : Int) + off).toNat, lv, r, h) else (pc + 3, lv, r, h))) :
    W p l e R s m args below meth c H locs cells slots Q (F0 m pc ls ((sn_i y :: sn_i x :: r).map (sn_tr G))) := by
  have hy : -2147483648 ≤ y ∧ y ≤ 2147483647 := sn_wfH S.2.2.2
  have hx : -2147483648 ≤ x ∧ x ≤ 2147483647 := sn_wfH (sn_wfT S.2.2.2)
  refine lv_icmp_lt (x := Int32.ofInt x) (y := Int32.ofInt y) (tgt := ((pc : Int) + off).toNat) X.1 X.2.1 hd (Int.toNat_of_nonneg hoff).symm (fun hc => ?_) (fun hc => ?_)
  · rw [if_pos (show sn_cmp .lt x y = true from decide_eq_true ((sn_lt_iff hx hy).mp hc))] at kk
    exact kk.go S.1 S.2.1 S.2.2.1 (sn_wfT (sn_wfT S.2.2.2))
  · rw [if_neg (show ¬ sn_cmp .lt x y = true from fun z => hc ((sn_lt_iff hx hy).mpr (of_decide_eq_true z)))] at kk
    exact kk.go S.1 S.2.1 S.2.2.1 (sn_wfT (sn_wfT S.2.2.2))
theorem sn_k_if_lt {x off : Int} (X : sn_Cx G M p R s m args meth c) (hd : decode (sn_bc M) pc = .ok (.ifCond .lt off, 3)) (S : sn_Sr G M s H locs ls lv (sn_i x :: r) h) (hoff : 0 ≤ (pc : Int) + off) (kk : sn_K G M p l e R s m args below meth c cells slots Q h (if sn_cmp .lt x 0 then (((pc : Int) + off).toNat, lv, r, h) else (pc + 3, lv, r, h))) :
    W p l e R s m args below meth c H locs cells slots Q (F0 m pc ls ((sn_i x :: r).map (sn_tr G))) := by
  obtain ⟨y, hyd⟩ : ∃ y : Int, y = 0 := ⟨0, rfl⟩
  have hy : -2147483648 ≤ y ∧ y ≤ 2147483647 := by omega
  have hx : -2147483648 ≤ x ∧ x ≤ 2147483647 := sn_wfH S.2.2.2
  have h0 : (0 : Int32) = Int32.ofInt y := by rw [hyd]; rfl
  rw [← hyd] at kk
  refine lv_if_lt (x := Int32.ofInt x) (tgt := ((pc : Int) + off).toNat) X.1 X.2.1 hd (Int.toNat_of_nonneg hoff).symm (fun hc => ?_) (fun hc => ?_)
  · rw [h0] at hc
    rw [if_pos (show sn_cmp .lt x y = true from decide_eq_true ((sn_lt_iff hx hy).mp hc))] at kk
    exact kk.go S.1 S.2.1 S.2.2.1 (sn_wfT S.2.2.2)
  · rw [h0] at hc
    rw [if_neg (show ¬ sn_cmp .lt x y = true from fun z => hc ((sn_lt_iff hx hy).mpr (of_decide_eq_true z)))] at kk
    exact kk.go S.1 S.2.1 S.2.2.1 (sn_wfT S.2.2.2)
theorem sn_k_icmp_ge {x y off : Int} (X : sn_Cx G M p R s m args meth c) (hd : decode (sn_bc M) pc = .ok (.if_icmp .ge off, 3)) (S : sn_Sr G M s H locs ls lv (sn_i y :: sn_i x :: r) h) (hoff : 0 ≤ (pc : Int) + off) (kk : sn_K G M p l e R s m args below meth c cells slots Q h (if sn_cmp .ge x y then (((pc : Int) + off).toNat, lv, r, h) else (pc + 3, lv, r, h))) :
    W p l e R s m args below meth c H locs cells slots Q (F0 m pc ls ((sn_i y :: sn_i x :: r).map (sn_tr G))) := by
  have hy : -2147483648 ≤ y ∧ y ≤ 2147483647 := sn_wfH S.2.2.2
  have hx : -2147483648 ≤ x ∧ x ≤ 2147483647 := sn_wfH (sn_wfT S.2.2.2)
  refine lv_icmp_ge (x := Int32.ofInt x) (y := Int32.ofInt y) (tgt := ((pc : Int) + off).toNat) X.1 X.2.1 hd (Int.toNat_of_nonneg hoff).symm (fun hc => ?_) (fun hc => ?_)
  · rw [if_pos (show sn_cmp .ge x y = true from decide_eq_true ((sn_le_iff hy hx).mp hc))] at kk
    exact kk.go S.1 S.2.1 S.2.2.1 (sn_wfT (sn_wfT S.2.2.2))
  · rw [if_neg (show ¬ sn_cmp .ge x y = true from fun z => hc ((sn_le_iff hy hx).mpr (of_decide_eq_true z)))] at kk
    exact kk.go S.1 S.2.1 S.2.2.1 (sn_wfT (sn_wfT S.2.2.2))
theorem sn_k_if_ge {x off : Int} (X : sn_Cx G M p R s m args meth c) (hd : decode (sn_bc M) pc = .ok (.ifCond .ge off, 3)) (S : sn_Sr G M s H locs ls lv (sn_i x :: r) h) (hoff : 0 ≤ (pc : Int) + off) (kk : sn_K G M p l e R s m args below meth c cells slots Q h (if sn_cmp .ge x 0 then (((pc : Int) + off).toNat, lv, r, h) else (pc + 3, lv, r, h))) :
    W p l e R s m args below meth c H locs cells slots Q (F0 m pc ls ((sn_i x :: r).map (sn_tr G))) := by
  obtain ⟨y, hyd⟩ : ∃ y : Int, y = 0 := ⟨0, rfl⟩
  have hy : -2147483648 ≤ y ∧ y ≤ 2147483647 := by omega
  have hx : -2147483648 ≤ x ∧ x ≤ 2147483647 := sn_wfH S.2.2.2
  have h0 : (0 : Int32) = Int32.ofInt y := by rw [hyd]; rfl
  rw [← hyd] at kk
  refine lv_if_ge (x := Int32.ofInt x) (tgt := ((pc : Int) + off).toNat) X.1 X.2.1 hd (Int.toNat_of_nonneg hoff).symm (fun hc => ?_) (fun hc => ?_)
  · rw [h0] at hc
    rw [if_pos (show sn_cmp .ge x y = true from decide_eq_true ((sn_le_iff hy hx).mp hc))] at kk
    exact kk.go S.1 S.2.1 S.2.2.1 (sn_wfT S.2.2.2)
  · rw [h0] at hc
    rw [if_neg (show ¬ sn_cmp .ge x y = true from fun z => hc ((sn_le_iff hy hx).mpr (of_decide_eq_true z)))] at kk
    exact kk.go S.1 S.2.1 S.2.2.1 (sn_wfT S.2.2.2)
theorem sn_k_icmp_gt {x y off : Int} (X : sn_Cx G M p R s m args meth c) (hd : decode (sn_bc M) pc = .ok (.if_icmp .gt off, 3)) (S : sn_Sr G M s H locs ls lv (sn_i y :: sn_i x :: r) h) (hoff : 0 ≤ (pc : Int) + off) (kk : sn_K G M p l e R s m args below meth c cells slots Q h (if sn_cmp .gt x y then (((pc : Int) + off).toNat, lv, r, h) else (pc + 3, lv, r, h))) :
    W p l e R s m args below meth c H locs cells slots Q (F0 m pc ls ((sn_i y :: sn_i x :: r).map (sn_tr G))) := by
  have hy : -2147483648 ≤ y ∧ y ≤ 2147483647 := sn_wfH S.2.2.2
  have hx : -2147483648 ≤ x ∧ x ≤ 2147483647 := sn_wfH (sn_wfT S.2.2.2)
  refine lv_icmp_gt (x := Int32.ofInt x) (y := Int32.ofInt y) (tgt := ((pc : Int) + off).toNat) X.1 X.2.1 hd (Int.toNat_of_nonneg hoff).symm (fun hc => ?_) (fun hc => ?_)
  · rw [if_pos (show sn_cmp .gt x y = true from decide_eq_true ((sn_lt_iff hy hx).mp hc))] at kk
    exact kk.go S.1 S.2.1 S.2.2.1 (sn_wfT (sn_wfT S.2.2.2))
  · rw [if_neg (show ¬ sn_cmp .gt x y = true from fun z => hc ((sn_lt_iff hy hx).mpr (of_decide_eq_true z)))] at kk
    exact kk.go S.1 S.2.1 S.2.2.1 (sn_wfT (sn_wfT S.2.2.2))
theorem sn_k_if_gt {x off : Int} (X : sn_Cx G M p R s m args meth c) (hd : decode (sn_bc M) pc = .ok (.ifCond .gt off, 3)) (S : sn_Sr G M s H locs ls lv (sn_i x :: r) h) (hoff : 0 ≤ (pc : Int) + off) (kk : sn_K G M p l e R s m args below meth c cells slots Q h (if sn_cmp .gt x 0 then (((pc : Int) + off).toNat, lv, r, h) else (pc + 3, lv, r, h))) :
    W p l e R s m args below meth c H locs cells slots Q (F0 m pc ls ((sn_i x :: r).map (sn_tr G))) := by
  obtain ⟨y, hyd⟩ : ∃ y : Int, y = 0 := ⟨0, rfl⟩
  have hy : -2147483648 ≤ y ∧ y ≤ 2147483647 := by omega
  have hx : -2147483648 ≤ x ∧ x ≤ 2147483647 := sn_wfH S.2.2.2
  have h0 : (0 : Int32) = Int32.ofInt y := by rw [hyd]; rfl
  rw [← hyd] at kk
  refine lv_if_gt (x := Int32.ofInt x) (tgt := ((pc : Int) + off).toNat) X.1 X.2.1 hd (Int.toNat_of_nonneg hoff).symm (fun hc => ?_) (fun hc => ?_)
  · rw [h0] at hc
    rw [if_pos (show sn_cmp .gt x y = true from decide_eq_true ((sn_lt_iff hy hx).mp hc))] at kk
    exact kk.go S.1 S.2.1 S.2.2.1 (sn_wfT S.2.2.2)
  · rw [h0] at hc
    rw [if_neg (show ¬ sn_cmp .gt x y = true from fun z => hc ((sn_lt_iff hy hx).mpr (of_decide_eq_true z)))] at kk
    exact kk.go S.1 S.2.1 S.2.2.1 (sn_wfT S.2.2.2)
theorem sn_k_icmp_le {x y off : Int} (X : sn_Cx G M p R s m args meth c) (hd : decode (sn_bc M) pc = .ok (.if_icmp .le off, 3)) (S : sn_Sr G M s H locs ls lv (sn_i y :: sn_i x :: r) h) (hoff : 0 ≤ (pc : Int) + off) (kk : sn_K G M p l e R s m args below meth c cells slots Q h (if sn_cmp .le x y then (((pc : Int) + off).toNat, lv, r, h) else (pc + 3, lv, r, h))) :
    W p l e R s m args below meth c H locs cells slots Q (F0 m pc ls ((sn_i y :: sn_i x :: r).map (sn_tr G))) := by
  have hy : -2147483648 ≤ y ∧ y ≤ 2147483647 := sn_wfH S.2.2.2
  have hx : -2147483648 ≤ x ∧ x ≤ 2147483647 := sn_wfH (sn_wfT S.2.2.2)
  refine lv_icmp_le (x := Int32.ofInt x) (y := Int32.ofInt y) (tgt := ((pc : Int) + off).toNat) X.1 X.2.1 hd (Int.toNat_of_nonneg hoff).symm (fun hc => ?_) (fun hc => ?_)
  · rw [if_pos (show sn_cmp .le x y = true from decide_eq_true ((sn_le_iff hx hy).mp hc))] at kk
    exact kk.go S.1 S.2.1 S.2.2.1 (sn_wfT (sn_wfT S.2.2.2))
  · rw [if_neg (show ¬ sn_cmp .le x y = true from fun z => hc ((sn_le_iff hx hy).mpr (of_decide_eq_true z)))] at kk
    exact kk.go S.1 S.2.1 S.2.2.1 (sn_wfT (sn_wfT S.2.2.2))
theorem sn_k_if_le {x off : Int} (X : sn_Cx G M p R s m args meth c) (hd : decode (sn_bc M) pc = .ok (.ifCond .le off, 3)) (S : sn_Sr G M s H locs ls lv (sn_i x :: r) h) (hoff : 0 ≤ (pc : Int) + off) (kk : sn_K G M p l e R s m args below meth c cells slots Q h (if sn_cmp .le x 0 then (((pc : Int) + off).toNat, lv, r, h) else (pc + 3, lv, r, h))) :
    W p l e R s m args below meth c H locs cells slots Q (F0 m pc ls ((sn_i x :: r).map (sn_tr G))) := by
  obtain ⟨y, hyd⟩ : ∃ y : Int, y = 0 := ⟨0, rfl⟩
  have hy : -2147483648 ≤ y ∧ y ≤ 2147483647 := by omega
  have hx : -2147483648 ≤ x ∧ x ≤ 2147483647 := sn_wfH S.2.2.2
  have h0 : (0 : Int32) = Int32.ofInt y := by rw [hyd]; rfl
  rw [← hyd] at kk
  refine lv_if_le (x := Int32.ofInt x) (tgt := ((pc : Int) + off).toNat) X.1 X.2.1 hd (Int.toNat_of_nonneg hoff).symm (fun hc => ?_) (fun hc => ?_)
  · rw [h0] at hc
    rw [if_pos (show sn_cmp .le x y = true from decide_eq_true ((sn_le_iff hx hy).mp hc))] at kk
    exact kk.go S.1 S.2.1 S.2.2.1 (sn_wfT S.2.2.2)
  · rw [h0] at hc
    rw [if_neg (show ¬ sn_cmp .le x y = true from fun z => hc ((sn_le_iff hx hy).mpr (of_decide_eq_true z)))] at kk
    exact kk.go S.1 S.2.1 S.2.2.1 (sn_wfT S.2.2.2)
end SNK
