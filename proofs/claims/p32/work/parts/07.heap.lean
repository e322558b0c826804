/-! ===== instructions that touch the heap ===== -/
section SNH
variable {G : sn_P} {p : Program} {l : Launch} {e : Env} {R : Room} {s : State} {m : MethodId} {args : Array Value} {below : List Frame} {meth : Method} {c : Code} {H : Heap} {locs : List Loc} {cells slots : Nat} {Q : State → Prop} {M pc : Nat} {ls : Array Slot} {lv r : List sn_V} {h : sn_H}
theorem sn_Rp.ge {h : sn_H} {H : Heap} (S : sn_Rp G h H) {q : Nat} (h2 : 2 ≤ q) (h1 : q < h.1) : sn_at G h q H := S.2.2.1 q h2 h1
theorem sn_at.kept {h h' : sn_H} {H H' : Heap} {q : Nat} (S : sn_at G h q H) (hT : h'.2.2.1 q = h.2.2.1 q) (hC : h'.2.2.2 q = h.2.2.2 q) (hq : H'[sn_ad G q]? = H[sn_ad G q]?) : sn_at G h' q H' := by
  unfold sn_at at S ⊢
  rw [hT, hC, hq]
  split
  · rename_i h1
    rw [if_pos h1] at S
    exact ⟨S.1, S.2.kept hq⟩
  · rename_i h1
    rw [if_neg h1] at S
    exact S
theorem sn_at.obj {h : sn_H} {H : Heap} {q ci : Nat} (S : sn_at G h q H) (hc : ci < 10) (ht : (h.2.2.1 q).1 = ci) : (h.2.2.1 q).2 = sn_nf ci ∧ t_OB (sn_ad G q) ((sn_D G).1 ci) (sn_nf ci) ((sn_D G).2 ci) H (fun k => sn_tr G (h.2.2.2 q k)) := by
  unfold sn_at at S
  rw [ht, if_pos hc] at S
  exact S
theorem sn_at.arr {h : sn_H} {H : Heap} {q : Nat} (S : sn_at G h q H) (ht : (h.2.2.1 q).1 = 100) : H[sn_ad G q]? = some (arrV (sn_cI G) (h.2.2.1 q).2 (fun k => sn_tr G (h.2.2.2 q k))) := by
  unfold sn_at at S
  rw [ht, if_neg (by decide), if_pos rfl] at S
  exact S
theorem sn_at.arrZ {h : sn_H} {H : Heap} {q : Nat} (S : sn_at G h q H) (ht : (h.2.2.1 q).1 = 101) : H[sn_ad G q]? = some (arrV (sn_cZ G) (h.2.2.1 q).2 (fun k => sn_tr G (h.2.2.2 q k))) := by
  unfold sn_at at S
  rw [ht, if_neg (by decide), if_neg (by decide), if_pos rfl] at S
  exact S
theorem sn_at.arrQ {h : sn_H} {H : Heap} {q : Nat} (S : sn_at G h q H) (ht : (h.2.2.1 q).1 = 102) : H[sn_ad G q]? = some (arrV (sn_cQ G) (h.2.2.1 q).2 (fun k => sn_tr G (h.2.2.2 q k))) := by
  unfold sn_at at S
  rw [ht, if_neg (by decide), if_neg (by decide), if_neg (by decide), if_pos rfl] at S
  exact S
theorem sn_ad_ne (G : sn_P) {q q' : Nat} (h1 : 2 ≤ q) (h2 : 2 ≤ q') (hn : q' ≠ q) : sn_ad G q' ≠ sn_ad G q := by
  rw [sn_ad2 G h1, sn_ad2 G h2]
  omega
/-- one place written -/
theorem sn_Rp.put {h : sn_H} {H H' : Heap} {q k : Nat} {v : sn_V} (S : sn_Rp G h H) (h2 : 2 ≤ q) (hv : sn_wf v) (hz : H'.size = H.size) (ho : ∀ a : Nat, a ≠ sn_ad G q → H'[a]? = H[a]?)
    (hq : sn_at G (h.1, h.2.1, h.2.2.1, sn_w h.2.2.2 q k v) q H') : sn_Rp G (h.1, h.2.1, h.2.2.1, sn_w h.2.2.2 q k v) H' := by
  obtain ⟨a1, a2, a3, a4, a5, a6, a7, a8, a9⟩ := S
  refine ⟨a1, hz.trans a2, fun q' g2 g1 => ?_, fun q' i => ?_, a5, a6, fun j hj => ?_, a8, fun j hj => ?_⟩
  · by_cases e : q' = q
    · rw [e]; exact hq
    · refine (a3 q' g2 g1).kept rfl ?_ (ho _ (sn_ad_ne G h2 g2 e))
      funext i
      show sn_w h.2.2.2 q k v q' i = h.2.2.2 q' i
      unfold sn_w
      rw [if_neg (fun z => e z.1)]
  · show sn_wf (sn_w h.2.2.2 q k v q' i)
    unfold sn_w
    split
    · exact hv
    · exact a4 q' i
  · show sn_w h.2.2.2 q k v 0 j = _
    unfold sn_w
    rw [if_neg (fun z => by omega)]
    exact a7 j hj
  · show sn_w h.2.2.2 q k v 1 j = _
    unfold sn_w
    rw [if_neg (fun z => by omega)]
    exact a9 j hj
theorem sn_K.put {q k : Nat} {v : sn_V} {pc' : Nat} {lv' st' : List sn_V} {H' : Heap} {locs' : List Loc} (kk : sn_K G M p l e R s m args below meth c cells slots Q h (pc', lv', st', (h.1, h.2.1, h.2.2.1, sn_w h.2.2.2 q k v))) (h1 : sn_Rp G (h.1, h.2.1, h.2.2.1, sn_w h.2.2.2 q k v) H') (h2 : va_S (sn_A G) s.heap H' locs') (h3 : sn_Ls G ls M lv') (h4 : ∀ v ∈ st', sn_wf v) :
    W p l e R s m args below meth c H' locs' cells slots Q (F0 m pc' ls (st'.map (sn_tr G))) := by
  have k := kk H' locs' ls ⟨h1, h2, h3, h4⟩
  dsimp only at k
  rw [Nat.sub_self, Nat.sub_self, Nat.add_zero, Nat.add_zero] at k
  exact k
theorem sn_upd_w {C : Nat → Nat → sn_V} {q k : Nat} {v : sn_V} : updV (fun j => sn_tr G (C q j)) k (sn_tr G v) = fun j => sn_tr G (sn_w C q k v q j) := by
  funext j
  show (if j = k then sn_tr G v else sn_tr G (C q j)) = sn_tr G (if q = q ∧ j = k then v else C q j)
  by_cases ej : j = k
  · rw [if_pos ej, if_pos ⟨rfl, ej⟩]
  · rw [if_neg ej, if_neg (fun z => ej z.2)]
theorem sn_k_getf {i q ci k : Nat} (X : sn_Cx G M p R s m args meth c) (hd : decode (sn_bc M) pc = .ok (.getfield i, 3)) (S : sn_Sr G M s H locs ls lv (sn_r q :: r) h) (hf : sn_pf (sn_oc M) i = some (ci, k)) (h2 : 2 ≤ q) (h1 : q < h.1) (ht : (h.2.2.1 q).1 = ci) (kk : sn_K G M p l e R s m args below meth c cells slots Q h (pc + 3, lv, h.2.2.2 q k :: r, h)) :
    W p l e R s m args below meth c H locs cells slots Q (F0 m pc ls ((sn_r q :: r).map (sn_tr G))) := by
  obtain ⟨x1, x2, x3, x4, x5, x6, x7, x8, x9, x10, x11, x12, x13⟩ := X
  obtain ⟨f1, f2, f3, f4, f5⟩ := sn_pf_ok hf
  obtain ⟨-, cell, q1, q2, q3, q4⟩ := (S.1.ge h2 h1).obj f1 ht
  obtain ⟨hS', hfc, kC, hkC, hkind⟩ := x9.1 ci _ (sn_cls_at f1)
  obtain ⟨cf, kf, fi, f, hi, hsl⟩ := hS' k f2
  have hst := (u_facts hfc hkC (u_lays x8 (sn_inl f1) f2) hi).1
  dsimp only at hi
  rw [f3] at hi
  have hlink := x8 _ f5
  refine W.getf x1 x2 x6 hlink hi hst q1 (by rw [q3]; exact fun h => by cases h) (v := sn_tr G (h.2.2.2 q k)) (by rw [hsl]; exact q4 k f2) rfl rfl hd ?_
  exact kk.go S.1 S.2.1 S.2.2.1 (sn_wf1 (S.1.2.2.2.1 q k) (sn_wfT S.2.2.2))
theorem sn_ref_fit {ty : FieldType} (h : ty.isReference = true) (z : Option Nat) : narrow ty (sn_tr G (.inr (.inl z))) = sn_tr G (.inr (.inl z)) ∧ fits ty (sn_tr G (.inr (.inl z))) = true := by
  cases ty <;> first | (cases h; done) | (cases z <;> exact ⟨rfl, rfl⟩)
theorem sn_fit {t : Nat} {v : sn_V} {ty : FieldType} (h : sn_fits t v = true) (ht : (t = 0 ∧ ty = .int) ∨ (t = 1 ∧ ty = .boolean) ∨ (t = 2 ∧ ty.isReference = true)) : narrow ty (sn_tr G v) = sn_tr G v ∧ fits ty (sn_tr G v) = true := by
  rcases ht with ⟨rfl, rfl⟩ | ⟨rfl, rfl⟩ | ⟨rfl, ht⟩
  · match v, h with
    | .inl z, _ => exact ⟨rfl, rfl⟩
  · match v, h with
    | .inl z, h =>
      have h0 : z = 0 ∨ z = 1 := by simpa [sn_fits] using h
      rcases h0 with rfl | rfl <;> exact ⟨rfl, rfl⟩
  · match v, h with
    | .inr (.inl z), _ => exact sn_ref_fit ht z
theorem sn_k_putf {i q ci k : Nat} {v : sn_V} (X : sn_Cx G M p R s m args meth c) (hd : decode (sn_bc M) pc = .ok (.putfield i, 3)) (S : sn_Sr G M s H locs ls lv (v :: sn_r q :: r) h) (hf : sn_pf (sn_oc M) i = some (ci, k)) (h2 : 2 ≤ q) (h1 : q < h.1) (ht : (h.2.2.1 q).1 = ci) (hfit : sn_fits (sn_ft ci k) v = true) (hfin : sn_ff ci k = false ∨ (sn_in M = true ∧ sn_oc M = ci)) (kk : sn_K G M p l e R s m args below meth c cells slots Q h (pc + 3, lv, r, (h.1, h.2.1, h.2.2.1, sn_w h.2.2.2 q k v))) :
    W p l e R s m args below meth c H locs cells slots Q (F0 m pc ls ((v :: sn_r q :: r).map (sn_tr G))) := by
  obtain ⟨x1, x2, x3, x4, x5, x6, x7, x8, x9, x10, x11, x12, x13⟩ := X
  obtain ⟨f1, f2, f3, f4, f5⟩ := sn_pf_ok hf
  obtain ⟨g0, cell, q1, q2, q3, q4⟩ := (S.1.ge h2 h1).obj f1 ht
  have hap := va_apart (own := sn_cn (sn_oc M)) x8 (sn_inl f1) (sn_tc ci) (sn_tc_ok f1) (sn_nm_ok f1) x9 (sn_cls_at f1)
  obtain ⟨hS', hfc, kC, hkC, hkind⟩ := x9.1 ci _ (sn_cls_at f1)
  obtain ⟨cf, kf, fi, f, hi, hsl⟩ := hS' k f2
  have hst := (u_facts hfc hkC (u_lays x8 (sn_inl f1) f2) hi).1
  have hlink := x8 _ f5
  have hff := sn_fit (G := G) hfit (sn_ft_ok ci f1 k f2)
  have hlay := x8 _ (sn_inl f1 _ (u_in_lay f2))
  have fin : ∀ H' : Heap, H'[sn_ad G q]? = some (cell.setSlot ((sn_D G).2 ci k) (sn_tr G v)) → H'.size = H.size → (∀ a : Nat, a ≠ sn_ad G q → H'[a]? = H[a]?) → W p l e R s m args below meth c H' (locs ++ [⟨sn_ad G q, (sn_D G).2 ci k⟩]) cells slots Q (F0 m (pc + 3) ls (r.map (sn_tr G))) := by
    intro H' e1 e2 e3
    refine kk.put (S.1.put h2 (sn_wfH S.2.2.2) e2 e3 ?_) (S.2.1.put e2 e3 (sn_adA G h2)) S.2.2.1 (sn_wfT (sn_wfT S.2.2.2))
    unfold sn_at
    dsimp only
    rw [ht, if_pos f1]
    refine ⟨by rw [← ht] at g0 ⊢; exact g0, _, e1, q2, q3, fun j hj => ?_⟩
    have := t_set q4 hap f2 (sn_tr G v) j hj
    rw [this]
    exact congrArg some (congrFun sn_upd_w j)
  unfold u_lay at hlay
  by_cases hF : (sn_T ci k).2.2.2 = true
  · rw [if_pos hF] at hlay
    rw [f4] at hF
    have hM : sn_in M = true ∧ sn_oc M = ci := by
      rcases hfin with h | h
      · rw [h] at hF; cases hF
      · exact h
    have hcf : m.cls = cf := by
      obtain ⟨_, _, c', _, _, _, -, -, hf', -, -, -, hown2, -⟩ := Cond.laysFinal_spec hlay
      have e1 : c' = cf := by have := hi.symm.trans hf'; simp at this; exact this.1.symm
      rw [f3, ← hM.2] at hown2
      rw [← e1]; exact Option.some.inj (x6.symm.trans hown2)
    have h6 := u_fits hfc hkC hkind (Or.inr hlay) hi (sn_tc_ok f1 k f2) hff.1 hff.2
    dsimp only at hi
    rw [f3] at hi
    refine W.putFinK x1 x2 x6 hlink hi hst hcf (x7 hM.1) (by rw [q2]; exact h6) q1 q3 (by rw [hsl]; exact k2_hasslot (q4 k f2)) rfl rfl hd fun H' e1 e2 e3 => ?_
    rw [hsl] at e1 ⊢
    exact fin H' e1 e2 e3
  · rw [if_neg hF] at hlay
    have h6 := u_store hfc hkC hkind hlay hi (sn_tc_ok f1 k f2) hff.1 hff.2
    dsimp only at hi
    rw [f3] at hi
    refine W.putK x1 x2 (f := f) ⟨x6, hlink, ⟨_, _, _, hi⟩, hst⟩ (by rw [q2]; exact h6) q1 q3 (by rw [hsl]; exact k2_hasslot (q4 k f2)) rfl rfl hd fun H' e1 e2 e3 => ?_
    rw [hsl] at e1 ⊢
    exact fin H' e1 e2 e3
theorem sn_k_gets (X : sn_Cx G M p R s m args meth c) (hd : decode (sn_bc M) pc = .ok (.getstatic 458, 3)) (hM : sn_oc M = 9) (S : sn_Sr G M s H locs ls lv r h) (kk : sn_K G M p l e R s m args below meth c cells slots Q h (pc + 3, lv, sn_r 1 :: r, h)) :
    W p l e R s m args below meth c H locs cells slots Q (F0 m pc ls (r.map (sn_tr G))) := by
  obtain ⟨x1, x2, x3, x4, x5, x6, x7, x8, x9, x10, x11, x12, x13⟩ := X
  rw [hM] at x6
  refine va_gets x1 x2 x10.2.1 S.2.1 x6 (x8 _ sn_ws_static) (fun _ h => h) hd ?_
  exact kk.go (st' := sn_r 1 :: r) S.1 S.2.1 S.2.2.1 (sn_wf1 (v := sn_r 1) trivial S.2.2.2)
theorem sn_idx_iff {q tag : Nat} {i : Int} (hi : sn_idx h q i tag = true) : q < h.1 ∧ (h.2.2.1 q).1 = tag ∧ 0 ≤ i ∧ i < ((h.2.2.1 q).2 : Int) := by
  unfold sn_idx at hi
  simp only [Bool.and_eq_true, decide_eq_true_eq] at hi
  exact ⟨hi.1.1.1, hi.1.1.2, hi.1.2, hi.2⟩
theorem sn_clamp {i : Int} (h1 : 0 ≤ i) (h2 : i ≤ 2147483647) : (Int32.ofInt i).toNatClampNeg = i.toNat := Int32.toNatClampNeg_ofInt_of_le (by omega) (by omega)
theorem sn_inn {i : Int} {n : Nat} (h1 : 0 ≤ i) (h2 : i ≤ 2147483647) (h3 : i < (n : Int)) : ¬ (Int32.ofInt i < 0 ∨ n ≤ (Int32.ofInt i).toNatClampNeg) := by
  rw [sn_clamp h1 h2]
  rintro (h | h)
  · rw [Int32.lt_iff_toInt_lt, sn_to ⟨by omega, h2⟩, Int32.toInt_zero] at h
    omega
  · omega
theorem sn_k_iald {q : Nat} {i : Int} (X : sn_Cx G M p R s m args meth c) (hd : decode (sn_bc M) pc = .ok (.iaload, 1)) (S : sn_Sr G M s H locs ls lv (sn_i i :: sn_r q :: r) h) (hi : sn_idx h q i 100 = true) (kk : sn_K G M p l e R s m args below meth c cells slots Q h (pc + 1, lv, h.2.2.2 q i.toNat :: r, h)) :
    W p l e R s m args below meth c H locs cells slots Q (F0 m pc ls ((sn_i i :: sn_r q :: r).map (sn_tr G))) := by
  obtain ⟨x1, x2, x3, x4, x5, x6, x7, x8, x9, x10, x11, x12, x13⟩ := X
  obtain ⟨i1, i2, i3, i4⟩ := sn_idx_iff hi
  have hw : -2147483648 ≤ i ∧ i ≤ 2147483647 := sn_wfH S.2.2.2
  have hgo := kk.go (locs := locs) S.1 S.2.1 S.2.2.1 (sn_wf1 (S.1.2.2.2.1 q i.toNat) (sn_wfT (sn_wfT S.2.2.2)))
  obtain ⟨a1, a2, a3, a4, a5, a6, a7, a8, a9⟩ := S.1
  by_cases h0 : q = 0
  · subst h0
    rw [a6] at i4
    have i4' : i < (sn_L G : Int) := i4
    refine va_ti (i := Int32.ofInt i) x1 x2 x10.1 S.2.1 (sn_inn i3 hw.2 i4') (v := sn_tr G (h.2.2.2 0 i.toNat)) ?_ hd hgo
    rw [sn_clamp i3 hw.2, a7 i.toNat (by omega)]
    show Value.int _ = Value.int (Int32.ofInt _)
    rw [Int32.ofInt_toInt]
  · by_cases h1 : q = 1
    · subst h1
      rw [a8] at i4
      have i4' : i < ((7 : Nat) : Int) := i4
      refine va_ti (i := Int32.ofInt i) x1 x2 x10.2.2.1 S.2.1 (sn_inn i3 hw.2 i4') (v := sn_tr G (h.2.2.2 1 i.toNat)) ?_ hd hgo
      rw [sn_clamp i3 hw.2, a9 i.toNat (by omega)]
      rfl
    · have hq := (a3 q (by omega) i1).arr i2
      refine W.iald (j := Int32.ofInt i) (v := sn_tr G (h.2.2.2 q i.toNat)) x1 x2 hq ((x9.2 0 _ rfl).1 _ _) (fun z => by cases z) (by rw [arrV_size]; exact sn_inn i3 hw.2 i4) (by rw [sn_clamp i3 hw.2, arrV_read _ _ (by omega)]) rfl rfl hd hgo
theorem sn_k_bald {q : Nat} {i : Int} (X : sn_Cx G M p R s m args meth c) (hd : decode (sn_bc M) pc = .ok (.baload, 1)) (S : sn_Sr G M s H locs ls lv (sn_i i :: sn_r q :: r) h) (hi : sn_idx h q i 101 = true) (kk : sn_K G M p l e R s m args below meth c cells slots Q h (pc + 1, lv, h.2.2.2 q i.toNat :: r, h)) :
    W p l e R s m args below meth c H locs cells slots Q (F0 m pc ls ((sn_i i :: sn_r q :: r).map (sn_tr G))) := by
  obtain ⟨x1, x2, x3, x4, x5, x6, x7, x8, x9, x10, x11, x12, x13⟩ := X
  obtain ⟨i1, i2, i3, i4⟩ := sn_idx_iff hi
  have hw : -2147483648 ≤ i ∧ i ≤ 2147483647 := sn_wfH S.2.2.2
  have hgo := kk.go (locs := locs) S.1 S.2.1 S.2.2.1 (sn_wf1 (S.1.2.2.2.1 q i.toNat) (sn_wfT (sn_wfT S.2.2.2)))
  obtain ⟨a1, a2, a3, a4, a5, a6, a7, a8, a9⟩ := S.1
  have h0 : 2 ≤ q := by
    rcases (show q = 0 ∨ q = 1 ∨ 2 ≤ q by omega) with rfl | rfl | h
    · rw [a6] at i2; cases i2
    · rw [a8] at i2; cases i2
    · exact h
  have hq := (a3 q h0 i1).arrZ i2
  exact W.zald (j := Int32.ofInt i) (v := sn_tr G (h.2.2.2 q i.toNat)) x1 x2 hq ((x9.2 1 _ rfl).1 _ _) (fun z => by cases z) (by rw [arrV_size]; exact sn_inn i3 hw.2 i4) (by rw [sn_clamp i3 hw.2, arrV_read _ _ (by omega)]) rfl rfl hd hgo
theorem sn_k_aald {q : Nat} {i : Int} (X : sn_Cx G M p R s m args meth c) (hd : decode (sn_bc M) pc = .ok (.aaload, 1)) (S : sn_Sr G M s H locs ls lv (sn_i i :: sn_r q :: r) h) (hi : sn_idx h q i 102 = true) (kk : sn_K G M p l e R s m args below meth c cells slots Q h (pc + 1, lv, h.2.2.2 q i.toNat :: r, h)) :
    W p l e R s m args below meth c H locs cells slots Q (F0 m pc ls ((sn_i i :: sn_r q :: r).map (sn_tr G))) := by
  obtain ⟨x1, x2, x3, x4, x5, x6, x7, x8, x9, x10, x11, x12, x13⟩ := X
  obtain ⟨i1, i2, i3, i4⟩ := sn_idx_iff hi
  have hw : -2147483648 ≤ i ∧ i ≤ 2147483647 := sn_wfH S.2.2.2
  have hgo := kk.go (locs := locs) S.1 S.2.1 S.2.2.1 (sn_wf1 (S.1.2.2.2.1 q i.toNat) (sn_wfT (sn_wfT S.2.2.2)))
  obtain ⟨a1, a2, a3, a4, a5, a6, a7, a8, a9⟩ := S.1
  have h0 : 2 ≤ q := by
    rcases (show q = 0 ∨ q = 1 ∨ 2 ≤ q by omega) with rfl | rfl | h
    · rw [a6] at i2; cases i2
    · rw [a8] at i2; cases i2
    · exact h
  have hq := (a3 q h0 i1).arrQ i2
  exact W.aald (j := Int32.ofInt i) (v := sn_tr G (h.2.2.2 q i.toNat)) (ty := .array .int) x1 x2 hq ((x9.2 2 _ rfl).1 _ _) rfl (fun z => by cases z) (by rw [arrV_size]; exact sn_inn i3 hw.2 i4) (by rw [sn_clamp i3 hw.2, arrV_read _ _ (by omega)]) rfl rfl hd hgo
theorem sn_k_alen {q : Nat} (X : sn_Cx G M p R s m args meth c) (hd : decode (sn_bc M) pc = .ok (.arraylength, 1)) (S : sn_Sr G M s H locs ls lv (sn_r q :: r) h) (h1 : q < h.1) (ht : (h.2.2.1 q).1 = 100 ∨ (h.2.2.1 q).1 = 101) (kk : sn_K G M p l e R s m args below meth c cells slots Q h (pc + 1, lv, sn_i ((h.2.2.1 q).2 : Int) :: r, h)) :
    W p l e R s m args below meth c H locs cells slots Q (F0 m pc ls ((sn_r q :: r).map (sn_tr G))) := by
  obtain ⟨x1, x2, x3, x4, x5, x6, x7, x8, x9, x10, x11, x12, x13⟩ := X
  have hgo := kk.go (locs := locs) S.1 S.2.1 S.2.2.1 (sn_wf1 (v := sn_i _) (show -2147483648 ≤ ((h.2.2.1 q).2 : Int) ∧ ((h.2.2.1 q).2 : Int) ≤ 2147483647 from ⟨by omega, S.1.2.2.2.2.1 q⟩) (sn_wfT S.2.2.2))
  obtain ⟨a1, a2, a3, a4, a5, a6, a7, a8, a9⟩ := S.1
  have ev : sn_tr G (sn_i ((h.2.2.1 q).2 : Int)) = .int (Int32.ofNat (h.2.2.1 q).2) := by
    show Value.int (Int32.ofInt _) = _
    rw [Int32.ofInt_eq_ofNat]
  rw [List.map_cons, ev] at hgo
  by_cases h0 : q = 0
  · subst h0
    rw [a6] at hgo
    exact va_tlen (v := Int32.ofNat (sn_L G)) x1 x2 x10.1 S.2.1 rfl hd hgo
  · by_cases h11 : q = 1
    · subst h11
      rw [a8] at hgo
      exact va_tlen (v := Int32.ofNat 7) x1 x2 x10.2.2.1 S.2.1 rfl hd hgo
    · rcases ht with ht | ht
      · exact W.alen (n := Int32.ofNat (h.2.2.1 q).2) x1 x2 ((a3 q (by omega) h1).arr ht) ((x9.2 0 _ rfl).1 _ _) (by rw [arrV_size]) rfl rfl hd hgo
      · exact W.alen (n := Int32.ofNat (h.2.2.1 q).2) x1 x2 ((a3 q (by omega) h1).arrZ ht) ((x9.2 1 _ rfl).1 _ _) (by rw [arrV_size]) rfl rfl hd hgo
theorem sn_k_iast {q : Nat} {i z : Int} (X : sn_Cx G M p R s m args meth c) (hd : decode (sn_bc M) pc = .ok (.iastore, 1)) (S : sn_Sr G M s H locs ls lv (sn_i z :: sn_i i :: sn_r q :: r) h) (hi : sn_idx h q i 100 = true) (h2 : 2 ≤ q) (kk : sn_K G M p l e R s m args below meth c cells slots Q h (pc + 1, lv, r, (h.1, h.2.1, h.2.2.1, sn_w h.2.2.2 q i.toNat (sn_i z)))) :
    W p l e R s m args below meth c H locs cells slots Q (F0 m pc ls ((sn_i z :: sn_i i :: sn_r q :: r).map (sn_tr G))) := by
  obtain ⟨x1, x2, x3, x4, x5, x6, x7, x8, x9, x10, x11, x12, x13⟩ := X
  obtain ⟨i1, i2, i3, i4⟩ := sn_idx_iff hi
  have hw : -2147483648 ≤ i ∧ i ≤ 2147483647 := sn_wfH (sn_wfT S.2.2.2)
  have hq := (S.1.ge h2 i1).arr i2
  refine W.iast (j := Int32.ofInt i) (x := Int32.ofInt z) x1 x2 hq ((x9.2 0 _ rfl).1 _ _) (fun z => by cases z) (by rw [arrV_size]; exact sn_inn i3 hw.2 i4) rfl rfl hd fun H' e1 e2 e3 => ?_
  refine kk.put (S.1.put h2 (sn_wfH S.2.2.2) e2 e3 ?_) (S.2.1.put e2 e3 (sn_adA G h2)) S.2.2.1 (sn_wfT (sn_wfT (sn_wfT S.2.2.2)))
  unfold sn_at
  dsimp only
  rw [i2, if_neg (by decide), if_pos rfl, e1, arrV_store, sn_clamp i3 hw.2, ← sn_upd_w]
  rfl
theorem sn_k_bast {q : Nat} {i z : Int} (X : sn_Cx G M p R s m args meth c) (hd : decode (sn_bc M) pc = .ok (.bastore, 1)) (S : sn_Sr G M s H locs ls lv (sn_i z :: sn_i i :: sn_r q :: r) h) (hi : sn_idx h q i 101 = true) (h2 : 2 ≤ q) (hz : z = 0 ∨ z = 1) (kk : sn_K G M p l e R s m args below meth c cells slots Q h (pc + 1, lv, r, (h.1, h.2.1, h.2.2.1, sn_w h.2.2.2 q i.toNat (sn_i z)))) :
    W p l e R s m args below meth c H locs cells slots Q (F0 m pc ls ((sn_i z :: sn_i i :: sn_r q :: r).map (sn_tr G))) := by
  obtain ⟨x1, x2, x3, x4, x5, x6, x7, x8, x9, x10, x11, x12, x13⟩ := X
  obtain ⟨i1, i2, i3, i4⟩ := sn_idx_iff hi
  have hw : -2147483648 ≤ i ∧ i ≤ 2147483647 := sn_wfH (sn_wfT S.2.2.2)
  have hq := (S.1.ge h2 i1).arrZ i2
  refine W.zast (j := Int32.ofInt i) (x := Int32.ofInt z) x1 x2 hq ((x9.2 1 _ rfl).1 _ _) (fun z => by cases z) (by rw [arrV_size]; exact sn_inn i3 hw.2 i4) rfl rfl hd fun H' e1 e2 e3 => ?_
  have hn : narrow .boolean (.int (Int32.ofInt z)) = sn_tr G (sn_i z) := by rcases hz with rfl | rfl <;> rfl
  refine kk.put (S.1.put h2 (sn_wfH S.2.2.2) e2 e3 ?_) (S.2.1.put e2 e3 (sn_adA G h2)) S.2.2.1 (sn_wfT (sn_wfT (sn_wfT S.2.2.2)))
  unfold sn_at
  dsimp only
  rw [i2, if_neg (by decide), if_neg (by decide), if_pos rfl, e1, hn, arrV_store, sn_clamp i3 hw.2, ← sn_upd_w]
end SNH
