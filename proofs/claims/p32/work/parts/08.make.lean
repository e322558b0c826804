/-! ===== making objects and arrays ===== -/
section SNM
variable {G : sn_P} {p : Program} {l : Launch} {e : Env} {R : Room} {s : State} {m : MethodId} {args : Array Value} {below : List Frame} {meth : Method} {c : Code} {H : Heap} {locs : List Loc} {cells slots : Nat} {Q : State → Prop} {M pc : Nat} {ls : Array Slot} {lv r : List sn_V} {h : sn_H}
theorem sn_Rp.adn {h : sn_H} {H : Heap} (S : sn_Rp G h H) : sn_ad G h.1 = H.size := by
  rw [sn_ad2 G S.1, S.2.1]
theorem sn_Rp.adlt {h : sn_H} {H : Heap} (S : sn_Rp G h H) {q : Nat} (h2 : 2 ≤ q) (h1 : q < h.1) : sn_ad G q < H.size := by
  rw [sn_ad2 G h2, S.2.1]
  omega
/-- one place more -/
theorem sn_Rp.push {h : sn_H} {H H' : Heap} {tag len : Nat} {f : Nat → sn_V} (S : sn_Rp G h H) (hz : H'.size = H.size + 1) (ho : ∀ a : Nat, a < H.size → H'[a]? = H[a]?) (hlen : (len : Int) ≤ 2147483647) (hf : ∀ i, sn_wf (f i))
    (hq : sn_at G (sn_pu h tag len f) h.1 H') : sn_Rp G (sn_pu h tag len f) H' := by
  have hlt : ∀ q, 2 ≤ q → q < h.1 → sn_ad G q < H.size := fun q h2 h1 => S.adlt h2 h1
  obtain ⟨a1, a2, a3, a4, a5, a6, a7, a8, a9⟩ := S
  refine ⟨Nat.le_trans a1 (Nat.le_succ _), ?_, fun q g2 g1 => ?_, fun q i => ?_, fun q => ?_, ?_, fun j hj => ?_, ?_, fun j hj => ?_⟩
  · rw [hz, a2]
    show _ = _ + (h.1 + 1 - 2)
    omega
  · by_cases e : q = h.1
    · rw [e]; exact hq
    · have g1' : q < h.1 + 1 := g1
      refine (a3 q g2 (by omega)).kept ?_ ?_ (ho _ (hlt q g2 (by omega)))
      · exact if_neg e
      · funext i
        exact if_neg e
  · show sn_wf (if q = h.1 then f i else h.2.2.2 q i)
    split
    · exact hf i
    · exact a4 q i
  · show (((if q = h.1 then (tag, len) else h.2.2.1 q) : Nat × Nat).2 : Int) ≤ _
    split
    · exact hlen
    · exact a5 q
  · show (if 0 = h.1 then (tag, len) else h.2.2.1 0) = _
    rw [if_neg (by omega)]; exact a6
  · show (if 0 = h.1 then f j else h.2.2.2 0 j) = _
    rw [if_neg (by omega)]; exact a7 j hj
  · show (if 1 = h.1 then (tag, len) else h.2.2.1 1) = _
    rw [if_neg (by omega)]; exact a8
  · show (if 1 = h.1 then f j else h.2.2.2 1 j) = _
    rw [if_neg (by omega)]; exact a9 j hj
theorem sn_S.push {H H' : Heap} (hS : va_S (sn_A G) s.heap H locs) (hz : H.size ≤ H'.size) (ho : ∀ a : Nat, a < H.size → H'[a]? = H[a]?) : va_S (sn_A G) s.heap H' locs :=
  ⟨Nat.le_trans hS.1 hz, fun x h1 h2 => (ho x (Nat.lt_of_lt_of_le h1 hS.1)).trans (hS.2.1 x h1 h2), hS.2.2⟩
theorem sn_K.push {tag len : Nat} {f : Nat → sn_V} {pc' : Nat} {lv' st' : List sn_V} {H' : Heap} (kk : sn_K G M p l e R s m args below meth c cells slots Q h (pc', lv', st', sn_pu h tag len f)) (h1 : sn_Rp G (sn_pu h tag len f) H') (h2 : va_S (sn_A G) s.heap H' locs) (h3 : sn_Ls G ls M lv') (h4 : ∀ v ∈ st', sn_wf v) :
    W p l e R s m args below meth c H' locs (cells + 1) (slots + len) Q (F0 m pc' ls (st'.map (sn_tr G))) := by
  have k := kk H' locs ls ⟨h1, h2, h3, h4⟩
  have e1 : (sn_pu h tag len f).1 - h.1 = 1 := by show h.1 + 1 - h.1 = 1; omega
  have e2 : (sn_pu h tag len f).2.1 - h.2.1 = len := by show h.2.1 + len - h.2.1 = len; omega
  dsimp only at k
  rw [e1, e2] at k
  exact k
theorem sn_k_new {i ci : Nat} (X : sn_Cx G M p R s m args meth c) (hd : decode (sn_bc M) pc = .ok (.new i, 3)) (S : sn_Sr G M s H locs ls lv r h) (hf : sn_pn (sn_oc M) i = some ci) (hc : cells + 1 ≤ R.cells) (hs : slots + sn_nf ci ≤ R.slots) (kk : sn_K G M p l e R s m args below meth c cells slots Q h (pc + 3, lv, sn_r h.1 :: r, sn_pu h ci (sn_nf ci) (fun k => if sn_ft ci k = 2 then sn_n else sn_i 0))) :
    W p l e R s m args below meth c H locs cells slots Q (F0 m pc ls (r.map (sn_tr G))) := by
  obtain ⟨x1, x2, x3, x4, x5, x6, x7, x8, x9, x10, x11, x12, x13⟩ := X
  obtain ⟨f1, f2, f3, f4⟩ := sn_pnl_ok _ (sn_find (o := sn_oc M) (i := i) (x := ci) hf)
  dsimp only at f1 f2 f3 f4
  have hKn := x9.1 ci _ (sn_cls_at f1)
  have hnl : ((sn_nf ci : Nat) : Int) ≤ 2147483647 := by
    rcases sn_lt10 f1 with rfl | rfl | rfl | rfl | rfl | rfl | rfl | rfl | rfl | rfl <;> decide
  refine W.newcK x1 x2 x6 (x8 _ f2) (x8 _ f3) (x8 _ f4) rfl hd hc hs hKn.2.1 (h := H.size) rfl fun H' kC hkC e1 z1 o1 => ?_
  have hb := u_born (o := H.size) (H := H') (sn_tc ci) x8 (sn_inl f1) hKn hkC e1 (sn_tc_ok f1)
  have hR := S.1.push (tag := ci) (len := sn_nf ci) (f := fun k => if sn_ft ci k = 2 then sn_n else sn_i 0) z1 o1 hnl (fun k => by split <;> first | trivial | (show (-2147483648 : Int) ≤ 0 ∧ (0 : Int) ≤ 2147483647; decide)) (by
    unfold sn_at
    rw [show (sn_pu h ci (sn_nf ci) (fun k => if sn_ft ci k = 2 then sn_n else sn_i 0)).2.2.1 h.1 = (ci, sn_nf ci) from if_pos rfl]
    dsimp only
    rw [if_pos f1]
    refine ⟨rfl, ?_⟩
    rw [S.1.adn]
    refine hb.to (fun k hk => ?_)
    show _ = sn_tr G (if h.1 = h.1 then (if sn_ft ci k = 2 then sn_n else sn_i 0) else h.2.2.2 h.1 k)
    rw [if_pos rfl]
    rcases sn_ft_ok ci f1 k hk with ⟨t1, t2⟩ | ⟨t1, t2⟩ | ⟨t1, t2⟩
    · rw [t1, t2, if_neg (by decide)]; rfl
    · rw [t1, t2, if_neg (by decide)]; rfl
    · rw [t1, if_pos rfl]
      generalize sn_tc ci k = ty at t2
      cases ty <;> first | (cases t2; done) | rfl)
  have k := kk.push (locs := locs) hR (sn_S.push S.2.1 (by omega) o1) S.2.2.1 (sn_wf1 (v := sn_r h.1) trivial S.2.2.2)
  have e : (sn_r h.1 :: r).map (sn_tr G) = .ref H.size :: r.map (sn_tr G) := by
    show Value.ref (sn_ad G h.1) :: _ = _
    rw [S.1.adn]
  rw [e] at k
  exact k
theorem sn_k_newaI {z : Int} (X : sn_Cx G M p R s m args meth c) (hd : decode (sn_bc M) pc = .ok (.newarray .int, 2)) (S : sn_Sr G M s H locs ls lv (sn_i z :: r) h) (h0 : 0 ≤ z) (h9 : z ≤ 100000) (hc : cells + 1 ≤ R.cells) (hs : slots + z.toNat ≤ R.slots) (kk : sn_K G M p l e R s m args below meth c cells slots Q h (pc + 2, lv, sn_r h.1 :: r, sn_pu h 100 z.toNat (fun _ => sn_i 0))) :
    W p l e R s m args below meth c H locs cells slots Q (F0 m pc ls ((sn_i z :: r).map (sn_tr G))) := by
  obtain ⟨x1, x2, x3, x4, x5, x6, x7, x8, x9, x10, x11, x12, x13⟩ := X
  refine va_newaK (atype := .int) (n := Int32.ofInt z) (N := z.toNat) x1 x2 (x8 _ sn_ws_arr.1) rfl hd rfl ?_ (sn_clamp h0 (by omega)) (by show z.toNat * 4 ≤ _; omega) hc hs (h := H.size) rfl fun H' cA e1 z1 o1 hAr hNm => ?_
  · intro hlt
    rw [Int32.lt_iff_toInt_lt, sn_to ⟨by omega, by omega⟩, Int32.toInt_zero] at hlt
    omega
  have hcA : cA = sn_cI G := Option.some.inj (hNm.symm.trans (x9.2 0 _ rfl).2)
  subst hcA
  have hR := S.1.push (tag := 100) (len := z.toNat) (f := fun _ => sn_i 0) z1 o1 (by omega) (fun k => by show (-2147483648 : Int) ≤ 0 ∧ (0 : Int) ≤ 2147483647; decide) (by
    unfold sn_at
    rw [show (sn_pu h 100 z.toNat (fun _ => sn_i 0)).2.2.1 h.1 = (100, z.toNat) from if_pos rfl]
    dsimp only
    rw [if_neg (by decide), if_pos rfl, S.1.adn, e1]
    refine congrArg (fun f => some (arrV (sn_cI G) z.toNat f)) (funext fun k => ?_)
    show _ = sn_tr G (if h.1 = h.1 then sn_i 0 else h.2.2.2 h.1 k)
    rw [if_pos rfl]
    rfl)
  have k := kk.push (locs := locs) hR (sn_S.push S.2.1 (by omega) o1) S.2.2.1 (sn_wf1 (v := sn_r h.1) trivial (sn_wfT S.2.2.2))
  have e : (sn_r h.1 :: r).map (sn_tr G) = .ref H.size :: r.map (sn_tr G) := by
    show Value.ref (sn_ad G h.1) :: _ = _
    rw [S.1.adn]
  rw [e] at k
  exact k
theorem sn_k_newaZ {z : Int} (X : sn_Cx G M p R s m args meth c) (hd : decode (sn_bc M) pc = .ok (.newarray .boolean, 2)) (S : sn_Sr G M s H locs ls lv (sn_i z :: r) h) (h0 : 0 ≤ z) (h9 : z ≤ 100000) (hc : cells + 1 ≤ R.cells) (hs : slots + z.toNat ≤ R.slots) (kk : sn_K G M p l e R s m args below meth c cells slots Q h (pc + 2, lv, sn_r h.1 :: r, sn_pu h 101 z.toNat (fun _ => sn_i 0))) :
    W p l e R s m args below meth c H locs cells slots Q (F0 m pc ls ((sn_i z :: r).map (sn_tr G))) := by
  obtain ⟨x1, x2, x3, x4, x5, x6, x7, x8, x9, x10, x11, x12, x13⟩ := X
  refine va_newaK (atype := .boolean) (n := Int32.ofInt z) (N := z.toNat) x1 x2 (x8 _ sn_ws_arr.2) rfl hd rfl ?_ (sn_clamp h0 (by omega)) (by show z.toNat * 1 ≤ _; omega) hc hs (h := H.size) rfl fun H' cA e1 z1 o1 hAr hNm => ?_
  · intro hlt
    rw [Int32.lt_iff_toInt_lt, sn_to ⟨by omega, by omega⟩, Int32.toInt_zero] at hlt
    omega
  have hcA : cA = sn_cZ G := Option.some.inj (hNm.symm.trans (x9.2 1 _ rfl).2)
  subst hcA
  have hR := S.1.push (tag := 101) (len := z.toNat) (f := fun _ => sn_i 0) z1 o1 (by omega) (fun k => by show (-2147483648 : Int) ≤ 0 ∧ (0 : Int) ≤ 2147483647; decide) (by
    unfold sn_at
    rw [show (sn_pu h 101 z.toNat (fun _ => sn_i 0)).2.2.1 h.1 = (101, z.toNat) from if_pos rfl]
    dsimp only
    rw [if_neg (by decide), if_neg (by decide), if_pos rfl, S.1.adn, e1]
    refine congrArg (fun f => some (arrV (sn_cZ G) z.toNat f)) (funext fun k => ?_)
    show _ = sn_tr G (if h.1 = h.1 then sn_i 0 else h.2.2.2 h.1 k)
    rw [if_pos rfl]
    rfl)
  have k := kk.push (locs := locs) hR (sn_S.push S.2.1 (by omega) o1) S.2.2.1 (sn_wf1 (v := sn_r h.1) trivial (sn_wfT S.2.2.2))
  have e : (sn_r h.1 :: r).map (sn_tr G) = .ref H.size :: r.map (sn_tr G) := by
    show Value.ref (sn_ad G h.1) :: _ = _
    rw [S.1.adn]
  rw [e] at k
  exact k
theorem sn_outer (c : ClassId) (N h0 : Nat) : ∀ i : Nat, Jvm.Free.Multi.outerC c N h0 i = arrV c N (fun j => if j < i then .ref (h0 + 1 + j) else .null)
  | 0 => by
    show ({ cls := c, slots := Array.replicate N .null, vm := .none } : Cell) = _
    rw [arrV_new]
    refine congrArg (arrV c N) (funext fun j => ?_)
    rw [if_neg (Nat.not_lt_zero j)]
  | i + 1 => by
    show (Jvm.Free.Multi.outerC c N h0 i).setSlot i (.ref (h0 + 1 + i)) = _
    rw [sn_outer c N h0 i, arrV_store]
    refine congrArg (arrV c N) (funext fun j => ?_)
    show (if j = i then _ else (if j < i then _ else _)) = _
    by_cases e : j = i
    · subst e
      rw [if_pos rfl, if_pos (Nat.lt_succ_self _)]
    · rw [if_neg e]
      by_cases h : j < i
      · rw [if_pos h, if_pos (Nat.lt_succ_of_lt h)]
      · rw [if_neg h, if_neg (by omega)]
theorem sn_k_mna {za zb : Int} (X : sn_Cx G M p R s m args meth c) (hd : decode (sn_bc M) pc = .ok (.multianewarray 9 2, 4)) (hM : sn_oc M ∈ [0, 1, 2, 4]) (S : sn_Sr G M s H locs ls lv (sn_i zb :: sn_i za :: r) h) (ha0 : 0 ≤ za) (ha9 : za ≤ 1000) (hb0 : 0 ≤ zb) (hb9 : zb ≤ 1000) (hc : cells + (1 + za.toNat) ≤ R.cells) (hs : slots + (za.toNat + za.toNat * zb.toNat) ≤ R.slots) (kk : sn_K G M p l e R s m args below meth c cells slots Q h (pc + 4, lv, sn_r h.1 :: r, sn_pm h za.toNat zb.toNat)) :
    W p l e R s m args below meth c H locs cells slots Q (F0 m pc ls ((sn_i zb :: sn_i za :: r).map (sn_tr G))) := by
  obtain ⟨x1, x2, x3, x4, x5, x6, x7, x8, x9, x10, x11, x12, x13⟩ := X
  intro T hT Xs
  have ea := sn_clamp ha0 (show za ≤ 2147483647 by omega)
  have eb := sn_clamp hb0 (show zb ≤ 2147483647 by omega)
  have hneg : ∀ z : Int, 0 ≤ z → z ≤ 1000 → ¬ Int32.ofInt z < 0 := fun z z0 z9 hlt => by
    rw [Int32.lt_iff_toInt_lt, sn_to ⟨by omega, by omega⟩, Int32.toInt_zero] at hlt
    omega
  obtain ⟨vm₁, cA, comp, -, fA, fC, hO, -, X', step⟩ := Xs.multianewarray2F x1 (n := Int32.ofInt za) (k := Int32.ofInt zb) (rest := r.map (sn_tr G)) x6 (x8 _ (sn_ws_mna _ hM)) x10.2.2.2.2.2.1 (x8 _ sn_ws_arr.1) (g := F0 m pc ls ((sn_i zb :: sn_i za :: r).map (sn_tr G))) rfl (by rw [x2]; exact hd) rfl (hneg za ha0 ha9) (hneg zb hb0 hb9) (by rw [ea]; omega) (by rw [eb]; show zb.toNat * 4 ≤ _; omega) (by rw [eb]; omega) rfl rfl (by rw [ea]; exact hc) (by rw [ea, eb]; exact hs)
  rw [ea, eb] at X' step
  have e1 : comp = sn_cI G := Option.some.inj (fC.symm.trans (x9.2 0 _ rfl).2)
  have e2 : cA = sn_cQ G := Option.some.inj (fA.symm.trans (x9.2 2 _ rfl).2)
  subst e1; subst e2
  generalize hF : Jvm.Free.Multi.fill (T.setVm vm₁) (sn_cQ G) (sn_cI G) za.toNat zb.toNat (defaultValue .int) za.toNat = F at X' step
  have hTh : (T.setVm vm₁).heap = H := hT
  obtain ⟨f1, f2, -, -⟩ := Jvm.Free.Multi.fill_facts (T.setVm vm₁) (sn_cQ G) (sn_cI G) za.toNat zb.toNat (defaultValue .int) za.toNat
  rw [hF, hTh] at f1 f2
  have hold : ∀ x : Nat, x < H.size → F.heap[x]? = H[x]? := fun x hx => by
    have := Jvm.Free.Multi.fill_old (T.setVm vm₁) (sn_cQ G) (sn_cI G) za.toNat zb.toNat (defaultValue .int) (a := x) (by rw [hTh]; exact hx) za.toNat
    rw [hF, hTh] at this
    exact this
  have hrow : ∀ j : Nat, j < za.toNat → F.heap[H.size + 1 + j]? = some (Jvm.Free.Multi.innerC (sn_cI G) zb.toNat (defaultValue .int)) := fun j hj => by
    have := Jvm.Free.Multi.fill_inner (T.setVm vm₁) (sn_cQ G) (sn_cI G) za.toNat zb.toNat (defaultValue .int) za.toNat j hj
    rw [hF, hTh] at this
    exact this
  rw [sn_outer] at f2
  have hin : Jvm.Free.Multi.innerC (sn_cI G) zb.toNat (defaultValue .int) = arrV (sn_cI G) zb.toNat (fun _ => .int 0) := arrV_new (sn_cI G) zb.toNat (.int 0)
  rw [hin] at hrow
  have hR : sn_Rp G (sn_pm h za.toNat zb.toNat) F.heap := by
    have hlt : ∀ q, 2 ≤ q → q < h.1 → sn_ad G q < H.size := fun q h2 h1 => S.1.adlt h2 h1
    have hadn := S.1.adn
    obtain ⟨a1, a2, a3, a4, a5, a6, a7, a8, a9⟩ := S.1
    refine ⟨by show 2 ≤ h.1 + 1 + za.toNat; omega, ?_, fun q g2 g1 => ?_, fun q i => ?_, fun q => ?_, ?_, fun j hj => ?_, ?_, fun j hj => ?_⟩
    · show F.heap.size = _ + (h.1 + 1 + za.toNat - 2)
      rw [f1, a2]
      omega
    · have g1' : q < h.1 + 1 + za.toNat := g1
      by_cases eq : q = h.1
      · subst eq
        unfold sn_at
        rw [show (sn_pm h za.toNat zb.toNat).2.2.1 h.1 = (102, za.toNat) from if_pos rfl]
        dsimp only
        rw [if_neg (by decide), if_neg (by decide), if_neg (by decide), if_pos rfl, hadn, f2]
        refine congrArg (fun f => some (arrV (sn_cQ G) za.toNat f)) (funext fun k => ?_)
        show _ = sn_tr G (if h.1 = h.1 then (if k < za.toNat then sn_r (h.1 + 1 + k) else sn_n) else _)
        rw [if_pos rfl]
        by_cases hk : k < za.toNat
        · rw [if_pos hk, if_pos hk]
          show Value.ref _ = Value.ref (sn_ad G _)
          have e9 : sn_ad G (h.1 + 1 + k) = H.size + 1 + k := by
            rw [sn_ad2 G (by omega), a2]
            omega
          rw [e9]
        · rw [if_neg hk, if_neg hk]
          rfl
      · by_cases hq : h.1 < q
        · unfold sn_at
          rw [show (sn_pm h za.toNat zb.toNat).2.2.1 q = (100, zb.toNat) from (if_neg eq).trans (if_pos ⟨hq, g1'⟩)]
          dsimp only
          rw [if_neg (by decide), if_pos rfl]
          have := hrow (q - h.1 - 1) (by omega)
          rw [show sn_ad G q = H.size + 1 + (q - h.1 - 1) by rw [sn_ad2 G g2, a2]; omega, this]
          refine congrArg (fun f => some (arrV (sn_cI G) zb.toNat f)) (funext fun k => ?_)
          show _ = sn_tr G (if q = h.1 then _ else (if h.1 < q ∧ q < h.1 + 1 + za.toNat then sn_i 0 else _))
          rw [if_neg eq, if_pos ⟨hq, g1'⟩]
          rfl
        · refine (a3 q g2 (by omega)).kept ?_ ?_ (hold _ (hlt q g2 (by omega)))
          · exact (if_neg eq).trans (if_neg (fun z => hq z.1))
          · funext i
            exact (if_neg eq).trans (if_neg (fun z => hq z.1))
    · show sn_wf (if q = h.1 then (if i < za.toNat then sn_r (h.1 + 1 + i) else sn_n) else (if h.1 < q ∧ q < h.1 + 1 + za.toNat then sn_i 0 else h.2.2.2 q i))
      split
      · split <;> trivial
      · split
        · show (-2147483648 : Int) ≤ 0 ∧ (0 : Int) ≤ 2147483647
          decide
        · exact a4 q i
    · show (((if q = h.1 then (102, za.toNat) else (if h.1 < q ∧ q < h.1 + 1 + za.toNat then (100, zb.toNat) else h.2.2.1 q)) : Nat × Nat).2 : Int) ≤ _
      split
      · show (za.toNat : Int) ≤ _
        omega
      · split
        · show (zb.toNat : Int) ≤ _
          omega
        · exact a5 q
    · exact ((if_neg (by omega)).trans (if_neg (by omega))).trans a6
    · exact ((if_neg (by omega)).trans (if_neg (by omega))).trans (a7 j hj)
    · exact ((if_neg (by omega)).trans (if_neg (by omega))).trans a8
    · exact ((if_neg (by omega)).trans (if_neg (by omega))).trans (a9 j hj)
  have k := kk F.heap locs ls ⟨hR, sn_S.push S.2.1 (by rw [f1]; omega) hold, S.2.2.1, sn_wf1 (v := sn_r h.1) trivial (sn_wfT (sn_wfT S.2.2.2))⟩
  have e3 : (sn_pm h za.toNat zb.toNat).1 - h.1 = 1 + za.toNat := by show h.1 + 1 + za.toNat - h.1 = _; omega
  have e4 : (sn_pm h za.toNat zb.toNat).2.1 - h.2.1 = za.toNat + za.toNat * zb.toNat := by show h.2.1 + za.toNat + za.toNat * zb.toNat - h.2.1 = _; omega
  dsimp only at k
  rw [e3, e4, ← Nat.add_assoc, ← Nat.add_assoc] at k
  have e5 : (sn_r h.1 :: r).map (sn_tr G) = .ref T.heap.size :: r.map (sn_tr G) := by
    show Value.ref (sn_ad G h.1) :: _ = _
    rw [S.1.adn, hT]
  rw [e5] at k
  obtain ⟨t, b1, b2⟩ := k F rfl X'
  exact ⟨t, step t b1, b2⟩
end SNM
