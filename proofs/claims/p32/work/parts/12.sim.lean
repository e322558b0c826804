/-! ===== the real machine follows every run of the plain one ===== -/
theorem sn_lay_args (G : sn_P) : ∀ (as : List sn_V) (k i : Nat) (v : sn_V), (sn_lay as)[i]? = some v → v ≠ sn_u → (k + i, sn_tr G v) ∈ lv_args k (as.map (sn_tr G))
  | [], _, _, _, h, _ => by cases h
  | a :: as, k, i, v, h, hv => by
    have hc := sn_cat G a
    by_cases h2 : sn_two a = true
    · rw [if_pos h2] at hc
      have e : sn_lay (a :: as) = a :: sn_u :: sn_lay as := by show (if sn_two a then _ else _) = _; rw [if_pos h2]
      rw [e] at h
      show _ ∈ (k, sn_tr G a) :: lv_args (if (sn_tr G a).category = 2 then k + 2 else k + 1) (as.map (sn_tr G))
      rw [if_pos hc]
      match i, h with
      | 0, h => cases h; exact List.mem_cons_self
      | 1, h => cases h; exact absurd rfl hv
      | i + 2, h =>
        have := sn_lay_args G as (k + 2) i v h hv
        rw [show k + (i + 2) = k + 2 + i by omega]
        exact List.mem_cons_of_mem _ this
    · rw [if_neg h2] at hc
      have e : sn_lay (a :: as) = a :: sn_lay as := by show (if sn_two a then _ else _) = _; rw [if_neg h2]
      rw [e] at h
      show _ ∈ (k, sn_tr G a) :: lv_args (if (sn_tr G a).category = 2 then k + 2 else k + 1) (as.map (sn_tr G))
      rw [if_neg (by rw [hc]; decide)]
      match i, h with
      | 0, h => cases h; exact List.mem_cons_self
      | i + 1, h =>
        have := sn_lay_args G as (k + 1) i v h hv
        rw [show k + (i + 1) = k + 1 + i by omega]
        exact List.mem_cons_of_mem _ this
theorem sn_lay_len (G : sn_P) : ∀ as : List sn_V, (lg_sl (as.map (sn_tr G))).length = (sn_lay as).length
  | [] => rfl
  | a :: as => by
    have hc := sn_cat G a
    have ih := sn_lay_len G as
    rw [List.map_cons]
    unfold lg_sl at ih ⊢
    rw [List.flatMap_cons, List.length_append, ih]
    by_cases h2 : sn_two a = true
    · rw [if_pos h2] at hc
      have e : sn_lay (a :: as) = a :: sn_u :: sn_lay as := by show (if sn_two a then _ else _) = _; rw [if_pos h2]
      rw [if_pos hc, e]
      simp only [List.length_cons, List.length_nil]
      omega
    · rw [if_neg h2] at hc
      have e : sn_lay (a :: as) = a :: sn_lay as := by show (if sn_two a then _ else _) = _; rw [if_neg h2]
      rw [if_neg (by rw [hc]; decide), e]
      simp only [List.length_cons, List.length_nil]
      omega
theorem sn_lay_mem : ∀ (as : List sn_V) (v : sn_V), v ∈ sn_lay as → v ∈ as ∨ v = sn_u
  | [], _, h => by cases h
  | a :: as, v, h => by
    have h' : v ∈ (if sn_two a then a :: sn_u :: sn_lay as else a :: sn_lay as) := h
    split at h'
    · rcases List.mem_cons.mp h' with rfl | h1
      · exact Or.inl List.mem_cons_self
      · rcases List.mem_cons.mp h1 with rfl | h1
        · exact Or.inr rfl
        · exact (sn_lay_mem as v h1).imp (List.mem_cons_of_mem _) id
    · rcases List.mem_cons.mp h' with rfl | h1
      · exact Or.inl List.mem_cons_self
      · exact (sn_lay_mem as v h1).imp (List.mem_cons_of_mem _) id
theorem sn_ent_mem {j : Nat} {as : List sn_V} {v : sn_V} (h : v ∈ sn_ent j as) : v ∈ as ∨ v = sn_u := by
  unfold sn_ent at h
  rcases List.mem_append.mp h with h | h
  · exact sn_lay_mem as v h
  · exact Or.inr (List.mem_replicate.mp h).2
theorem sn_entry {G : sn_P} {j : Nat} {as : List sn_V} (hlen : (sn_lay as).length ≤ sn_ml j) (hwf : ∀ v ∈ as, sn_wf v) (h2 : sn_hl j = true ∨ ∀ v ∈ as, sn_two v = false) :
    sn_Ls G ((lg_sl (as.map (sn_tr G)) ++ List.replicate (sn_ml j - (lg_sl (as.map (sn_tr G))).length) Slot.unset).toArray) j (sn_ent j as) := by
  have h := lv_entry (as.map (sn_tr G)) (n := sn_ml j) (by rw [sn_lay_len]; exact hlen)
  refine ⟨⟨h.1, h.2.1, fun q hq => h.2.2 q ?_⟩, ?_, fun v hv => ?_, fun hM v hv => ?_⟩
  · obtain ⟨v, hv, hne, hq2⟩ := (sn_lvl_mem G _ q).mp hq
    obtain ⟨i, w⟩ := q
    dsimp only at hv hq2
    subst hq2
    unfold sn_ent at hv
    by_cases hi : i < (sn_lay as).length
    · rw [List.getElem?_append_left hi] at hv
      have := sn_lay_args G as 0 i v hv hne
      rw [Nat.zero_add] at this
      exact this
    · rw [List.getElem?_append_right (by omega)] at hv
      exact absurd (List.mem_replicate.mp (List.mem_of_getElem? hv)).2 hne
  · unfold sn_ent
    rw [List.length_append, List.length_replicate]
    omega
  · rcases sn_ent_mem hv with h | rfl
    · exact hwf v h
    · trivial
  · rcases sn_ent_mem hv with h | rfl
    · rcases h2 with h2 | h2
      · rw [h2] at hM; cases hM
      · exact h2 v h
    · rfl
theorem sn_cw_in {j : Nat} (hj : j < 129) : sn_cw j ∈ wsL_law := by
  unfold sn_cw
  by_cases h : j = 88
  · rw [if_pos h]; subst h; exact sn_code_88
  · rw [if_neg h]; exact sn_code_all j hj h
/-- a method's contract, out of what its body does -/
theorem sn_met {G : sn_P} {l : Launch} {j : Nat} {as : List sn_V} {h h' : sn_H} {r : Option sn_V} (hj : j < 129) (hpl : sn_oc j < 11) (hlen : (sn_lay as).length ≤ sn_ml j) (hwf : ∀ v ∈ as, sn_wf v) (h2 : sn_hl j = true ∨ ∀ v ∈ as, sn_two v = false)
    (hbody : ∀ {p : Program} {e : Env} {R : Room} {s : State} {m : MethodId} {args : Array Value} {below : List Frame} {meth : Method} {c : Code} {H : Heap} {locs : List Loc} {cells slots : Nat} {ls : Array Slot}, sn_Cx G j p R s m args meth c → sn_Sr G j s H locs ls (sn_ent j as) [] h → cells + (h'.1 - h.1) ≤ R.cells → slots + (h'.2.1 - h.2.1) ≤ R.slots → W p l e R s m args below meth c H locs cells slots (MQ below (sn_Q G r h') args s (cells + (h'.1 - h.1)) (slots + (h'.2.1 - h.2.1)) (sn_A G)) (F0 m 0 ls [])) : sn_MetJ G l j as h r h' := by
  have hcls := (sn_ycls j hj).1
  have key : ∀ p e s m args below meth c s₁, BodyLoose p l (sn_y j) (headSpec (sn_wj j) (sn_room j (h'.1 - h.1) (h'.2.1 - h.2.1))) (sn_bc j) (sn_ml j) (sn_rt j) e s m args below meth c s₁ → c.maxLocals = sn_ml j → va_Pc (as.map (sn_tr G)) (sn_PcU G h) args s →
      W p l e (headSpec (sn_wj j) (sn_room j (h'.1 - h.1) (h'.2.1 - h.2.1))).room s m args below meth c s.heap [] 0 0 (MQ below (sn_Q G r h') args s (h'.1 - h.1) (h'.2.1 - h.2.1) (sn_A G)) (entryFrame m args (sn_ml j)) := by
    intro p e s m args below meth c s₁ B hml hv
    obtain ⟨rfl, hR, hK, hW, hs0⟩ := hv
    have hts : ∀ w ∈ wsL_law, w.before (as.map (sn_tr G)).toArray s = true := fun w hw => atoms_spec (ws := sn_wj j) B.pre w (List.mem_cons_of_mem _ hw)
    have hown : s.vm.findClass (sn_y j).cls = some m.cls := findClass_of_methodNamed B.named
    rw [hcls] at hown
    have hnm : meth.name = (sn_y j).name := (name_of_methodNamed B.named B.method).1
    rw [lg_entry_eq]
    have k := hbody (p := p) (e := e) (R := (headSpec (sn_wj j) (sn_room j (h'.1 - h.1) (h'.2.1 - h.2.1))).room) (s := s) (m := m) (args := (as.map (sn_tr G)).toArray) (below := below) (meth := meth) (c := c) (H := s.heap) (locs := []) (cells := 0) (slots := 0)
      ⟨B.exec, B.bytes, hml, B.returns, B.notSynchronized, hown, fun hi => hnm.trans (sn_in_name j hi), hts, hK, hW, Nat.le_refl _, Nat.le_refl _, hs0⟩ ⟨hR, va_S.rf, sn_entry hlen hwf h2, fun v hv => by cases hv⟩ (by show 0 + _ ≤ (h'.1 - h.1); omega) (by show 0 + _ ≤ (h'.2.1 - h.2.1); omega)
    rw [Nat.zero_add, Nat.zero_add] at k
    exact k
  have hpn : plainName (sn_y j).cls = true := by rw [hcls]; exact sn_cn_plain1 _ hpl
  by_cases h88 : j = 88
  · exact va_MetW (hh := [(0, 14, 15, 110)]) hpn (by show sn_cw j :: wsL_law = _; unfold sn_cw; rw [if_pos h88]) key
  · exact Met.ofW hpn (by show sn_cw j :: wsL_law = _; unfold sn_cw; rw [if_neg h88]) key
theorem sn_sub {L : List Cond} (h : ∀ w ∈ L, w ∈ wsL_law) : GoodIn wsL_law L := fun w hw => ⟨h w hw, (sn_gl w (h w hw)).2⟩
section SNE
variable {G : sn_P} {p : Program} {l : Launch} {e : Env} {R : Room} {s : State} {m : MethodId} {args : Array Value} {below : List Frame} {meth : Method} {c : Code} {H : Heap} {locs : List Loc} {cells slots : Nat} {Q : State → Prop} {M pc : Nat} {ls : Array Slot} {lv st : List sn_V} {h : sn_H}
/-- a call, by the callee's contract -/
theorem sn_callW {ins : Instr} {len : Nat} {d : Nat × List sn_V × Nat × List sn_V × List sn_V × sn_H} {r1 : Option sn_V} {h1 : sn_H} (hd : decode (sn_bc M) pc = .ok (ins, len)) (hlen : len = sn_len ins ∨ sn_len ins = 0) (hg : sn_do M pc ins lv st h = some (.inr (.inr d))) (hmet : d.1 < 129 → sn_oc d.1 < 11 → (sn_lay d.2.1).length ≤ sn_ml d.1 → (∀ v ∈ d.2.1, sn_wf v) → (sn_hl d.1 = true ∨ ∀ v ∈ d.2.1, sn_two v = false) → sn_MetJ G l d.1 d.2.1 h r1 h1)
    (X : sn_Cx G M p R s m args meth c) (S : sn_Sr G M s H locs ls lv st h) (hc : cells + (h1.1 - h.1) ≤ R.cells) (hs : slots + (h1.2.1 - h.2.1) ≤ R.slots)
    (kk : ∀ (H' : Heap) (locs' : List Loc), sn_Sr G M s H' locs' ls lv (r1.toList ++ d.2.2.2.2.1) h1 → W p l e R s m args below meth c H' locs' (cells + (h1.1 - h.1)) (slots + (h1.2.1 - h.2.1)) Q (F0 m d.2.2.1 ls ((r1.toList ++ d.2.2.2.2.1).map (sn_tr G)))) :
    W p l e R s m args below meth c H locs cells slots Q (F0 m pc ls (st.map (sn_tr G))) := by
  obtain ⟨x1, x2, x3, x4, x5, x6, x7, x8, x9, x10, x11, x12, x13⟩ := X
  obtain ⟨a, c1, c2, c3, c4, c5, c6, c7, c8, hk⟩ := sn_callinv hg
  have L : ∀ {k : Nat}, sn_len ins = k → k ≠ 0 → len = k := fun h1 h2 => hlen.elim (fun h => h.trans h1) (fun h => absurd (h1.symm.trans h) h2)
  obtain ⟨j, as, d2⟩ := d
  dsimp only at c1 c2 c5 c6 c7 c8 hk hmet kk
  subst c7; subst c8
  dsimp only at kk
  have hwas : ∀ v ∈ (st.take a).reverse, sn_wf v := fun v hv => S.2.2.2 v (List.mem_of_mem_take (List.mem_reverse.mp hv))
  have h2as : sn_hl j = true ∨ ∀ v ∈ (st.take a).reverse, sn_two v = false := c6.imp id (fun h v hv => h v (List.mem_reverse.mp hv))
  have hPc : ∀ U : State, U.heap = H → s.WarmedH U.vm → sn_PcU G h U := fun U hU hW => ⟨by rw [hU]; exact S.1, va_K.moved hW.alike x9, x10.to S.2.1 hW hU, by rw [hU]; exact Nat.le_trans x13 S.2.1.1⟩
  have hroom : 2 * (F0 m pc ls (st.map (sn_tr G))).monitorRoom + (((st.drop a).map (sn_tr G)).map fun v => v.category).sum ≤ 8 := by
    have := sn_catsum (G := G) (st.drop a)
    exact lv_room (by omega)
  have hRm : (sn_room j (h1.1 - h.1) (h1.2.1 - h.2.1)).frames + 1 ≤ R.frames ∧ 8 + (sn_ml j + 11) + (sn_room j (h1.1 - h.1) (h1.2.1 - h.2.1)).locals ≤ R.locals := ⟨Nat.le_trans c1 x11, by show 8 + (sn_ml j + 11) + sn_lo j ≤ _; omega⟩
  have fin : ∀ {b : Array Value}, va_Run p l e R s m args below meth c H locs cells slots (h1.1 - h.1) (h1.2.1 - h.2.1) (F0 m pc ls (st.map (sn_tr G))) ((st.drop a).map (sn_tr G)) (sn_Q G r1 h1 b) (sn_A G) → W p l e R s m args below meth c H locs cells slots Q (F0 m pc ls (st.map (sn_tr G))) := fun {b} hr => by
    refine sn_runW hr S.2.1 (fun H' locs' hwf hRp hS => ?_)
    have k := kk H' locs' ⟨hRp, hS, S.2.2.1, fun v hv => ?_⟩
    · have e : (r1.toList ++ st.drop a).map (sn_tr G) = (r1.map (sn_tr G)).toList ++ (st.drop a).map (sn_tr G) := by cases r1 <;> rfl
      rw [e] at k
      exact k
    · rcases List.mem_append.mp hv with h | h
      · exact hwf v (by cases r1 with
          | none => cases h
          | some w => rw [List.mem_singleton.mp h])
      · exact S.2.2.2 v (List.mem_of_mem_drop h)
  have shape : ∀ {b q : Nat} {r : List sn_V}, a = b + 1 → st.drop b = sn_r q :: r → (st.take a).reverse.map (sn_tr G) = Value.ref (sn_ad G q) :: ((st.take b).reverse.map (sn_tr G)) ∧ st.map (sn_tr G) = ((st.take b).reverse.map (sn_tr G)).reverse ++ Value.ref (sn_ad G q) :: (st.drop a).map (sn_tr G) ∧ ((st.take b).reverse.map (sn_tr G)).length = b := fun {b q r} hab hdr => by
    subst hab
    have hlt : b < st.length := by omega
    have hb : st[b]? = some (sn_r q) := by
      have := congrArg (fun l => l[0]?) hdr
      simpa using this
    have e1 : st.take (b + 1) = st.take b ++ [sn_r q] := by rw [List.take_succ, hb]; rfl
    have e2 : st.drop (b + 1) = r := by rw [← List.tail_drop, hdr]; rfl
    refine ⟨by rw [e1, List.reverse_append]; rfl, ?_, ?_⟩
    · rw [← List.map_reverse, List.reverse_reverse, e2]
      conv => lhs; rw [← List.take_append_drop b st, hdr]
      rw [List.map_append]
      rfl
    · rw [List.length_map, List.length_reverse, List.length_take]
      omega
  rcases hk with ⟨i, b, q, r, rfl, hp, hab, hdr, q2, q1, ht⟩ | ⟨i, rfl, hp⟩ | ⟨i, b, q, r, rfl, hp, hj2, hab, hdr, q2, q1⟩
  · obtain rfl := L (k := 3) rfl (by decide)
    obtain ⟨v1, v2, v3, v4, v5, v6, v7, v8, v9⟩ := sn_pvl_ok _ (sn_find (o := sn_oc M) (i := i) (x := (j, b)) hp)
    dsimp only at v1 v2 v3 v4 v5 v6 v7 v8 v9
    obtain ⟨s1, s2, s3⟩ := shape hab hdr
    have hM := hmet v1 (by omega) c5 hwas h2as
    unfold sn_MetJ at hM
    rw [s1] at hM
    obtain ⟨-, cell, g1, g2, g3, -⟩ := (S.1.ge q2 q1).obj v3 ht
    have hfc := (x9.1 _ _ (sn_cls_at v3)).2.1
    refine fin (b := (Value.ref (sn_ad G q) :: ((st.take b).reverse.map (sn_tr G))).toArray) ?_
    exact va_runV (C := (sn_y j).cls) ⟨x1, x2, x3, x6, x8⟩ hM
      (cwV (bytes := sn_bc j) (maxL := sn_ml j) (ret := sn_rt j) b x8 (sn_sub (fun w hw => by
        unfold wsV at hw
        simp only [List.cons_append, List.nil_append, List.mem_cons] at hw
        rcases hw with rfl | rfl | rfl | rfl | rfl | hw
        · exact v6
        · exact v7
        · exact v8
        · exact v9
        · exact sn_cw_in v1
        · exact hw)) (by show sn_cw j :: wsL_law = _; unfold sn_cw; rw [if_neg v2]) rfl rfl ⟨rfl, (sn_plain j v1).1, (sn_plain j v1).2, v5⟩ hRm)
      ⟨sn_blind G h _, ⟨cell, g1, by rw [g3]; rfl, by rw [v4, g2]; exact hfc⟩, fun U hU hW => ⟨rfl, hPc U hU hW⟩⟩ rfl s3 S.2.2.1.1.1 s2 hroom hd ⟨hc, hs⟩
  · obtain rfl := L (k := 3) rfl (by decide)
    obtain ⟨v1, v2, v3, v4, v5, v6⟩ := sn_psl_ok _ (sn_find (o := sn_oc M) (i := i) (x := (j, a)) hp)
    dsimp only at v1 v2 v3 v4 v5 v6
    have hM := hmet v1 v2 c5 hwas h2as
    unfold sn_MetJ at hM
    have hn : ((st.take a).reverse.map (sn_tr G)).length = a := by
      rw [List.length_map, List.length_reverse, List.length_take]
      omega
    have hst : st.map (sn_tr G) = ((st.take a).reverse.map (sn_tr G)).reverse ++ (st.drop a).map (sn_tr G) := by
      rw [← List.map_reverse, List.reverse_reverse, ← List.map_append, List.take_append_drop]
    refine fin (b := ((st.take a).reverse.map (sn_tr G)).toArray) ?_
    rcases v4 with v4 | v4
    · have hG : GoodIn wsL_law (va_wsS (sn_cn (sn_oc M)) i (sn_y j) (sn_wj j)) := sn_sub (fun w hw => by
        unfold va_wsS at hw
        simp only [List.cons_append, List.nil_append, List.mem_cons] at hw
        rcases hw with rfl | rfl | rfl | rfl | hw
        · exact v4
        · exact v5
        · exact v6
        · exact sn_cw_in v1
        · exact hw)
      by_cases h88 : j = 88
      · exact vx_runSW (hh := [(0, 14, 15, 110)]) ⟨x1, x2, x3, x6, x8⟩ hM (vx_cwSW (bytes := sn_bc j) (maxL := sn_ml j) (ret := sn_rt j) a x8 hG (by show sn_cw j :: wsL_law = _; unfold sn_cw; rw [if_pos h88]) rfl rfl ⟨(sn_plain j v1).1, (sn_plain j v1).2, v3⟩ hRm)
          ⟨sn_blind G h _, fun U hU hW => ⟨rfl, hPc U hU hW⟩⟩ rfl hn S.2.2.1.1.1 hst hroom hd ⟨hc, hs⟩
      · exact va_runS ⟨x1, x2, x3, x6, x8⟩ hM (va_cwS (bytes := sn_bc j) (maxL := sn_ml j) (ret := sn_rt j) a x8 hG (by show sn_cw j :: wsL_law = _; unfold sn_cw; rw [if_neg h88]) rfl rfl ⟨(sn_plain j v1).1, (sn_plain j v1).2, v3⟩ hRm)
          ⟨sn_blind G h _, fun U hU hW => ⟨rfl, hPc U hU hW⟩⟩ rfl hn S.2.2.1.1.1 hst hroom hd ⟨hc, hs⟩
    · have h88 : j ≠ 88 := fun e => by
        subst e
        simp only [sn_nl, List.mem_cons, Prod.mk.injEq, List.not_mem_nil, or_false] at v4
        omega
      have hnl : va_Nw (.methodLinkNest (sn_cn (sn_oc M)) i (sn_y j) "Songnations") s := x10.2.2.2.2.2.2.1 (sn_oc M, i, j) v4
      have hws : GoodIn wsL_law (sn_wj j) := sn_sub (fun w hw => by
        rcases List.mem_cons.mp hw with rfl | hw
        · exact sn_cw_in v1
        · exact hw)
      have hwe : sn_wj j = Cond.code (sn_y j) (sn_bc j) (sn_ml j) (sn_rt j) :: wsL_law := by
        show sn_cw j :: wsL_law = _
        unfold sn_cw
        rw [if_neg h88]
      exact va_runSN (host := "Songnations") ⟨x1, x2, x3, x6, x8⟩ hM ⟨va_cnB (bytes := sn_bc j) (maxL := sn_ml j) (ret := sn_rt j) a x8 hws hwe rfl rfl hnl (x8 _ v6) ⟨(sn_plain j v1).1, (sn_plain j v1).2, v3⟩ hRm, x8 _ v5, trivial⟩
        ⟨sn_blind G h _, fun U hU hW => ⟨rfl, hPc U hU hW⟩⟩ rfl hn S.2.2.1.1.1 hst hroom hd ⟨hc, hs⟩
  · obtain rfl := L (k := 3) rfl (by decide)
    rcases sn_pcl_ok _ (sn_find (o := sn_oc M) (i := i) (x := (j, b)) hp) with h9 | ⟨v1, v2, v3, v4, v5, v6⟩
    · exact absurd h9.1 hj2
    dsimp only at v1 v2 v3 v4 v5 v6
    have v0 : j < 129 := by omega
    have hoc : sn_oc j < 11 := by
      rcases sn_lt10 v1 with rfl | rfl | rfl | rfl | rfl | rfl | rfl | rfl | rfl | rfl <;> decide
    have hrt : sn_rt j = none := by
      rcases sn_lt10 v1 with rfl | rfl | rfl | rfl | rfl | rfl | rfl | rfl | rfl | rfl <;> rfl
    obtain ⟨s1, s2, s3⟩ := shape hab hdr
    have hM := hmet v0 hoc c5 hwas h2as
    unfold sn_MetJ at hM
    rw [s1] at hM
    refine fin (b := (Value.ref (sn_ad G q) :: ((st.take b).reverse.map (sn_tr G))).toArray) ?_
    have hws : GoodIn wsL_law (sn_wj j) := sn_sub (fun w hw => by
      rcases List.mem_cons.mp hw with rfl | hw
      · exact sn_cw_in v0
      · exact hw)
    have hwe : sn_wj j = Cond.code (sn_y j) (sn_bc j) (sn_ml j) none :: wsL_law := by
      show sn_cw j :: wsL_law = _
      unfold sn_cw
      rw [if_neg (by omega), hrt]
    rcases v4 with v4 | v4
    · exact va_runI (b := sn_ad G q) ⟨x1, x2, x3, x6, x8⟩ hM
        (cwI (bytes := sn_bc j) (maxL := sn_ml j) b x8 hws hwe rfl rfl (x8 _ v6) (x8 _ v4) (x8 _ v5) v2 ⟨(sn_plain j v0).1, (sn_plain j v0).2, v3⟩ hRm)
        ⟨sn_blind G h _, fun U hU hW => ⟨rfl, hPc U hU hW⟩⟩ rfl s3 S.2.2.1.1.1 s2 hroom hd ⟨hc, hs⟩
    · have hnl : va_Nw (.methodLinkNest (sn_cn (sn_oc M)) i (sn_y j) "Songnations") s := x10.2.2.2.2.2.2.1 (sn_oc M, i, j) v4
      exact va_runIN (host := "Songnations") (b := sn_ad G q) ⟨x1, x2, x3, x6, x8⟩ hM
        ⟨va_cnB (bytes := sn_bc j) (maxL := sn_ml j) (ret := none) b x8 hws hwe rfl rfl hnl (x8 _ v6) ⟨(sn_plain j v0).1, (sn_plain j v0).2, v3⟩ hRm, v2, x8 _ v5⟩
        ⟨sn_blind G h _, fun U hU hW => ⟨rfl, hPc U hU hW⟩⟩ rfl s3 S.2.2.1.1.1 s2 hroom hd ⟨hc, hs⟩
end SNE
theorem sn_ret_same {M pc : Nat} {ins : Instr} {lv st : List sn_V} {h : sn_H} {o : Option sn_V × sn_H} (hg : sn_do M pc ins lv st h = some (.inr (.inl o))) : o.2 = h := by
  have C : ∀ {j a pc' : Nat}, sn_call M j a pc' lv st h = some (.inr (.inl o)) → False := fun hc => by
    unfold sn_call at hc
    split at hc <;> cases hc
  rcases sn_kinds hg with ⟨d, hx⟩ | rfl | rfl | rfl | rfl | ⟨i, rfl⟩ | ⟨i, rfl⟩ | ⟨i, rfl⟩
  · cases hx
  all_goals
    unfold sn_do at hg
    dsimp only at hg
    (repeat' (split at hg))
    all_goals first | exact (C hg).elim | (cases hg; done) | (cases hg; rfl)
/-- what is asked of 'has' where it catches -/
def sn_Has (G : sn_P) (l : Launch) : Prop := ∀ (as : List sn_V) (h : sn_H) (o : Option sn_V × sn_H), sn_hs as h = some o → sn_MetJ G l 88 as h o.1 o.2
theorem sn_hs_mono {as : List sn_V} {h : sn_H} {o : Option sn_V × sn_H} (hg : sn_hs as h = some o) : h.1 ≤ o.2.1 ∧ h.2.1 ≤ o.2.2.1 := by
  unfold sn_hs at hg
  repeat' (split at hg)
  all_goals first
    | (cases hg; exact ⟨Nat.le_succ _, Nat.le_add_right _ _⟩)
    | cases hg
/-- THE SIMULATION -/
theorem sn_sim {G : sn_P} {l : Launch} (hhas : sn_Has G l) : ∀ (f M pc : Nat) (lv st : List sn_V) (h : sn_H) (r : Option sn_V) (h' : sn_H), sn_ex f M pc lv st h = some (r, h') →
    (h.1 ≤ h'.1 ∧ h.2.1 ≤ h'.2.1) ∧ ∀ {p : Program} {e : Env} {R : Room} {s : State} {m : MethodId} {args : Array Value} {below : List Frame} {meth : Method} {c : Code} {H : Heap} {locs : List Loc} {cells slots : Nat} {ls : Array Slot}, sn_Cx G M p R s m args meth c → sn_Sr G M s H locs ls lv st h → cells + (h'.1 - h.1) ≤ R.cells → slots + (h'.2.1 - h.2.1) ≤ R.slots →
      W p l e R s m args below meth c H locs cells slots (MQ below (sn_Q G r h') args s (cells + (h'.1 - h.1)) (slots + (h'.2.1 - h.2.1)) (sn_A G)) (F0 m pc ls (st.map (sn_tr G))) := by
  intro f
  induction f with
  | zero => intro M pc lv st h r h' hx; cases hx
  | succ f ih =>
    intro M pc lv st h r h' hx
    unfold sn_ex at hx
    cases hgo : sn_go M pc lv st h with
    | none => rw [hgo] at hx; cases hx
    | some o =>
      rw [hgo] at hx
      obtain ⟨ins, len, hd, hlen, hg⟩ : ∃ ins len, decode (sn_bc M) pc = .ok (ins, len) ∧ (len = sn_len ins ∨ sn_len ins = 0) ∧ sn_do M pc ins lv st h = some o := by
        unfold sn_go at hgo
        cases hdc : decode (sn_bc M) pc with
        | error z => rw [hdc] at hgo; cases hgo
        | ok z =>
          obtain ⟨ins, len⟩ := z
          rw [hdc] at hgo
          dsimp only at hgo
          split at hgo
          · rename_i hl
            simp only [Bool.or_eq_true, decide_eq_true_eq] at hl
            exact ⟨ins, len, rfl, hl, hgo⟩
          · cases hgo
      rcases o with d | o | d
      · dsimp only at hx
        obtain ⟨⟨m1, m2⟩, step⟩ := sn_next (G := G) hd hlen hg
        obtain ⟨⟨n1, n2⟩, go⟩ := ih _ _ _ _ _ _ _ hx
        have e1 : (d.2.2.2.1 - h.1) + (h'.1 - d.2.2.2.1) = h'.1 - h.1 := by omega
        have e2 : (d.2.2.2.2.1 - h.2.1) + (h'.2.1 - d.2.2.2.2.1) = h'.2.1 - h.2.1 := by omega
        refine ⟨⟨Nat.le_trans m1 n1, Nat.le_trans m2 n2⟩, ?_⟩
        intro p e R s m args below meth c H locs cells slots ls X S hc hs
        refine step X S (by omega) (by omega) (fun H' locs' ls' S' => ?_)
        have k := go (e := e) (below := below) X S' (by rw [Nat.add_assoc, e1]; exact hc) (by rw [Nat.add_assoc, e2]; exact hs)
        rw [Nat.add_assoc, Nat.add_assoc, e1, e2] at k
        exact k
      · dsimp only at hx
        cases hx
        have hh : h' = h := sn_ret_same hg
        subst hh
        refine ⟨⟨Nat.le_refl _, Nat.le_refl _⟩, ?_⟩
        intro p e R s m args below meth c H locs cells slots ls X S hc hs
        obtain ⟨-, k⟩ := sn_retW (below := below) (e := e) (l := l) hd hlen hg X S
        rw [Nat.sub_self, Nat.sub_self, Nat.add_zero, Nat.add_zero]
        exact k
      · dsimp only at hx
        have hdh : d.2.2.2.2.2 = h := by
          obtain ⟨a, -, -, -, -, -, -, -, c8, -⟩ := sn_callinv hg
          exact congrArg (fun z => z.2.2.2) c8
        have hdl : d.2.2.2.1 = lv := by
          obtain ⟨a, -, -, -, -, -, -, -, c8, -⟩ := sn_callinv hg
          exact congrArg (fun z => z.2.1) c8
        rw [hdh, hdl] at hx
        have done : ∀ (r1 : Option sn_V) (h1 : sn_H), (h.1 ≤ h1.1 ∧ h.2.1 ≤ h1.2.1) → (d.1 < 129 → sn_oc d.1 < 11 → (sn_lay d.2.1).length ≤ sn_ml d.1 → (∀ v ∈ d.2.1, sn_wf v) → (sn_hl d.1 = true ∨ ∀ v ∈ d.2.1, sn_two v = false) → sn_MetJ G l d.1 d.2.1 h r1 h1) → sn_ex f M d.2.2.1 lv (r1.toList ++ d.2.2.2.2.1) h1 = some (r, h') →
            (h.1 ≤ h'.1 ∧ h.2.1 ≤ h'.2.1) ∧ ∀ {p : Program} {e : Env} {R : Room} {s : State} {m : MethodId} {args : Array Value} {below : List Frame} {meth : Method} {c : Code} {H : Heap} {locs : List Loc} {cells slots : Nat} {ls : Array Slot}, sn_Cx G M p R s m args meth c → sn_Sr G M s H locs ls lv st h → cells + (h'.1 - h.1) ≤ R.cells → slots + (h'.2.1 - h.2.1) ≤ R.slots →
              W p l e R s m args below meth c H locs cells slots (MQ below (sn_Q G r h') args s (cells + (h'.1 - h.1)) (slots + (h'.2.1 - h.2.1)) (sn_A G)) (F0 m pc ls (st.map (sn_tr G))) := by
          intro r1 h1 hm hmet hx1
          obtain ⟨⟨n1, n2⟩, go⟩ := ih _ _ _ _ _ _ _ hx1
          have e1 : (h1.1 - h.1) + (h'.1 - h1.1) = h'.1 - h.1 := by omega
          have e2 : (h1.2.1 - h.2.1) + (h'.2.1 - h1.2.1) = h'.2.1 - h.2.1 := by omega
          refine ⟨⟨Nat.le_trans hm.1 n1, Nat.le_trans hm.2 n2⟩, ?_⟩
          intro p e R s m args below meth c H locs cells slots ls X S hc hs
          refine sn_callW hd hlen hg hmet X S (by omega) (by omega) (fun H' locs' S' => ?_)
          have k := go (e := e) (below := below) X S' (by rw [Nat.add_assoc, e1]; exact hc) (by rw [Nat.add_assoc, e2]; exact hs)
          rw [Nat.add_assoc, Nat.add_assoc, e1, e2] at k
          exact k
        cases hhs : (if d.1 = 88 then sn_hs d.2.1 h else none) with
        | some o =>
          rw [hhs] at hx
          by_cases h88 : d.1 = 88
          · rw [if_pos h88] at hhs
            refine done o.1 o.2 (sn_hs_mono hhs) (fun _ _ _ _ _ => ?_) hx
            rw [h88]
            exact hhas _ _ _ hhs
          · rw [if_neg h88] at hhs; cases hhs
        | none =>
          rw [hhs] at hx
          dsimp only at hx
          cases hcl : sn_ex f d.1 0 (sn_ent d.1 d.2.1) [] h with
          | none => rw [hcl] at hx; cases hx
          | some o =>
            rw [hcl] at hx
            obtain ⟨o1, o2⟩ := o
            obtain ⟨hm, go⟩ := ih _ _ _ _ _ _ _ hcl
            exact done o1 o2 hm (fun a1 a2 a3 a4 a5 => sn_met a1 a2 a3 a4 a5 (fun X S hc hs => go X S hc hs)) hx
