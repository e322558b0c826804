/-! ===== ends and calls ===== -/
theorem sn_kinds {M pc : Nat} {ins : Instr} {lv st : List sn_V} {h : sn_H} {x : sn_O} (hg : sn_do M pc ins lv st h = some x) : (∃ d, x = .inl d) ∨ ins = .ireturn ∨ ins = .lreturn ∨ ins = .dreturn ∨ ins = .return_ ∨ (∃ i, ins = .invokevirtual i) ∨ (∃ i, ins = .invokestatic i) ∨ (∃ i, ins = .invokespecial i) := by
  cases ins
  case ireturn => exact Or.inr (Or.inl rfl)
  case lreturn => exact Or.inr (Or.inr (Or.inl rfl))
  case dreturn => exact Or.inr (Or.inr (Or.inr (Or.inl rfl)))
  case return_ => exact Or.inr (Or.inr (Or.inr (Or.inr (Or.inl rfl))))
  case invokevirtual i => exact Or.inr (Or.inr (Or.inr (Or.inr (Or.inr (Or.inl ⟨i, rfl⟩)))))
  case invokestatic i => exact Or.inr (Or.inr (Or.inr (Or.inr (Or.inr (Or.inr (Or.inl ⟨i, rfl⟩))))))
  case invokespecial i => exact Or.inr (Or.inr (Or.inr (Or.inr (Or.inr (Or.inr (Or.inr ⟨i, rfl⟩))))))
  all_goals left
  all_goals (unfold sn_do at hg; dsimp only [sn_ld, sn_so, sn_so2, sn_goto] at hg; (repeat' (split at hg)) <;> (cases hg) <;> exact ⟨_, rfl⟩)
def sn_Q (G : sn_P) (r : Option sn_V) (h' : sn_H) : Array Value → State → Outcome → State → Prop := fun _ st o t => o = .returned (r.map (sn_tr G)) ∧ sn_Rp G h' t.heap ∧ va_F (sn_A G) st t ∧ ∀ v, r = some v → sn_wf v
def sn_PcU (G : sn_P) (h : sn_H) : State → Prop := fun U => sn_Rp G h U.heap ∧ va_K (sn_D G) sn_cls (sn_ty G) U ∧ sn_Wd G U U.heap ∧ sn_s0 G ≤ U.heap.size
abbrev sn_room (j mc ms : Nat) : Room := { frames := sn_fr j, cells := mc, slots := ms, locals := sn_lo j }
def sn_cw (j : Nat) : Cond := if j = 88 then Cond.codeWith (sn_y j) (sn_bc j) (sn_ml j) (sn_rt j) [(0, 14, 15, 110)] else Cond.code (sn_y j) (sn_bc j) (sn_ml j) (sn_rt j)
abbrev sn_wj (j : Nat) : List Cond := sn_cw j :: wsL_law
/-- method j's contract on these arguments and this heap -/
def sn_MetJ (G : sn_P) (l : Launch) (j : Nat) (as : List sn_V) (h : sn_H) (r : Option sn_V) (h' : sn_H) : Prop :=
  Met l (sn_y j) (sn_wj j) (sn_room j (h'.1 - h.1) (h'.2.1 - h.2.1)) (va_Pc (as.map (sn_tr G)) (sn_PcU G h)) (sn_Q G r h') (h'.1 - h.1) (h'.2.1 - h.2.1) (sn_A G)
theorem sn_Wd.same {G : sn_P} {u U : State} (hv : U.vm = u.vm) (hh : U.heap = u.heap) (h : sn_Wd G u u.heap) : sn_Wd G U U.heap := by
  have ha : u.vm.Alike U.vm := by rw [hv]; exact Vm.Alike.refl u.vm
  obtain ⟨h1, h2, h3, h4, h5, h7, h8, sa, h6⟩ := h
  rw [hh]
  exact ⟨h1.moved ha, h2.moved ha, h3.moved ha, h4.moved ha, h5.moved ha, arrayOver_alikeB ha h7, fun e he => (h8 e he).same rfl hv.symm, sa, h6.1.same hv, fun w hw => sn_nw_to ha (sn_nw_dc w hw) (h6.2 w hw)⟩
theorem sn_blind (G : sn_P) (h : sn_H) (av : List Value) : FrameBlind (va_Pc av (sn_PcU G h)) := fun a U g mk q => by
  obtain ⟨q1, qR, qK, qW, qs⟩ := q
  exact ⟨q1, qR, va_K.moved (u := U) (U := U.calling g mk a) (Vm.Alike.refl U.vm) qK, sn_Wd.same (u := U) (U := U.calling g mk a) rfl rfl qW, qs⟩
section SNC
variable {G : sn_P} {p : Program} {l : Launch} {e : Env} {R : Room} {s : State} {m : MethodId} {args : Array Value} {below : List Frame} {meth : Method} {c : Code} {H : Heap} {locs : List Loc} {cells slots : Nat} {Q : State → Prop} {M pc : Nat} {ls : Array Slot} {lv st : List sn_V} {h : sn_H}
theorem sn_retW {ins : Instr} {len : Nat} {o : Option sn_V × sn_H} (hd : decode (sn_bc M) pc = .ok (ins, len)) (hlen : len = sn_len ins ∨ sn_len ins = 0) (hg : sn_do M pc ins lv st h = some (.inr (.inl o))) (X : sn_Cx G M p R s m args meth c) (S : sn_Sr G M s H locs ls lv st h) :
    o.2 = h ∧ W p l e R s m args below meth c H locs cells slots (MQ below (sn_Q G o.1 h) args s cells slots (sn_A G)) (F0 m pc ls (st.map (sn_tr G))) := by
  obtain ⟨x1, x2, x3, x4, x5, x6, x7, x8, x9, x10, x11, x12, x13⟩ := X
  have hQ : ∀ (r : Option sn_V) (v : Option Value), r.map (sn_tr G) = v → (∀ w, r = some w → w ∈ st) → ∀ t : State, t.heap = H → s.WarmedH t.vm → sn_Q G r h args s (.returned v) t := fun r v hv hw t ht hW => by
    exact ⟨by rw [hv], by rw [ht]; exact S.1, S.2.1.F ht, fun w e => S.2.2.2 w (hw w e)⟩
  have hm : ∀ v w : sn_V, some v = some w → w ∈ [v] := fun v w e => by cases e; exact List.mem_cons_self
  have Z : ∀ x : sn_O, (none : Option sn_O) = some x → False := fun _ h => nomatch h
  have L : ∀ {k : Nat}, sn_len ins = k → k ≠ 0 → len = k := fun h1 h2 => hlen.elim (fun h => h.trans h1) (fun h => absurd (h1.symm.trans h) h2)
  have C : ∀ {j a pc' : Nat}, sn_call M j a pc' lv st h = some (.inr (.inl o)) → False := fun hc => by
    unfold sn_call at hc
    split at hc <;> cases hc
  rcases sn_kinds hg with ⟨d, hx⟩ | rfl | rfl | rfl | rfl | ⟨i, rfl⟩ | ⟨i, rfl⟩ | ⟨i, rfl⟩
  · cases hx
  · obtain rfl := L (k := 1) rfl (by decide)
    rcases st with _ | ⟨v, _ | ⟨w, r⟩⟩
    · exact (Z _ hg).elim
    · by_cases hv : sn_rets (sn_rk M) v = true
      · replace hg := (if_pos hv).symm.trans hg
        cases hg
        refine ⟨rfl, ?_⟩
        have hk : (∃ z, v = .inl z ∧ sn_rk M = 0) ∨ (∃ z, v = .inl z ∧ (z = 0 ∨ z = 1) ∧ sn_rk M = 1) := by
          generalize sn_rk M = t at hv
          match t, v, hv with
          | 0, .inl z, _ => exact Or.inl ⟨z, rfl, rfl⟩
          | 1, .inl z, hv => exact Or.inr ⟨z, rfl, by simpa [sn_rets] using hv, rfl⟩
        rcases hk with ⟨z, rfl, hk⟩ | ⟨z, rfl, hz, hk⟩
        · have hr : meth.sig.returnType = some .int := by rw [x4]; unfold sn_rt; rw [hk]; rfl
          exact W.iret x1 x2 hr (hQ _ _ rfl (hm _)) S.2.1.2.2 hd x5
        · have hr : meth.sig.returnType = some .boolean := by rw [x4]; unfold sn_rt; rw [hk]; rfl
          exact W.zret x1 x2 hr (by rcases hz with rfl | rfl <;> rfl) (hQ _ _ rfl (hm _)) S.2.1.2.2 hd x5
      · replace hg := (if_neg hv).symm.trans hg; cases hg
    · exact (Z _ hg).elim
  · obtain rfl := L (k := 1) rfl (by decide)
    rcases st with _ | ⟨v | v | v | v, _ | ⟨w, r⟩⟩ <;> first | (exact (Z _ hg).elim) | skip
    by_cases hk : sn_rk M = 2
    · replace hg := (if_pos hk).symm.trans hg
      cases hg
      have hr : meth.sig.returnType = some .long := by rw [x4]; unfold sn_rt; rw [hk]; rfl
      exact ⟨rfl, W.lret x1 x2 hr (hQ _ _ rfl (hm _)) S.2.1.2.2 hd x5⟩
    · replace hg := (if_neg hk).symm.trans hg; cases hg
  · obtain rfl := L (k := 1) rfl (by decide)
    rcases st with _ | ⟨v | v | v | v | v, _ | ⟨w, r⟩⟩ <;> first | (exact (Z _ hg).elim) | skip
    by_cases hk : sn_rk M = 3
    · replace hg := (if_pos hk).symm.trans hg
      cases hg
      have hr : meth.sig.returnType = some .double := by rw [x4]; unfold sn_rt; rw [hk]; rfl
      exact ⟨rfl, W.dret x1 x2 hr (hQ _ _ rfl (hm _)) S.2.1.2.2 hd x5⟩
    · replace hg := (if_neg hk).symm.trans hg; cases hg
  · obtain rfl := L (k := 1) rfl (by decide)
    rcases st with _ | ⟨v, r⟩
    · by_cases hk : sn_rk M = 4
      · replace hg := (if_pos hk).symm.trans hg
        cases hg
        have hr : meth.sig.returnType = none := by rw [x4]; unfold sn_rt; rw [hk]; rfl
        exact ⟨rfl, W.vret x1 x2 hr (hQ _ _ rfl (fun w e => by cases e)) S.2.1.2.2 hd x5⟩
      · replace hg := (if_neg hk).symm.trans hg; cases hg
    · exact (Z _ hg).elim
  · exfalso
    unfold sn_do at hg
    dsimp only at hg
    repeat' (split at hg)
    all_goals first | exact C hg | cases hg
  · exfalso
    unfold sn_do at hg
    dsimp only at hg
    repeat' (split at hg)
    all_goals first | exact C hg | cases hg
  · exfalso
    unfold sn_do at hg
    dsimp only at hg
    repeat' (split at hg)
    all_goals first | exact C hg | cases hg
/-- behind a call -/
theorem sn_runW {mc ms : Nat} {a : Array Value} {r : Option sn_V} {h' : sn_H} {st0 rest : List Value} (hr : va_Run p l e R s m args below meth c H locs cells slots mc ms (F0 m pc ls st0) rest (sn_Q G r h' a) (sn_A G)) (hS : va_S (sn_A G) s.heap H locs)
    (kk : ∀ (H' : Heap) (locs' : List Loc), (∀ v, r = some v → sn_wf v) → sn_Rp G h' H' → va_S (sn_A G) s.heap H' locs' → W p l e R s m args below meth c H' locs' (cells + mc) (slots + ms) Q (F0 m (pc + 3) ls ((r.map (sn_tr G)).toList ++ rest))) : W p l e R s m args below meth c H locs cells slots Q (F0 m pc ls st0) := by
  intro T hT X
  obtain ⟨v, st₀, t, T', L, h0, X', hL, e1, e2, ⟨hv, hRp, ⟨hz, hk⟩, hwf⟩, st⟩ := hr T hT X
  have hv := Outcome.returned.inj hv
  subst hv
  rw [h0] at hz hk
  obtain ⟨t2, a1, b1⟩ := kk T'.heap (locs ++ L) hwf (by rw [e1]; exact hRp)
    ⟨Nat.le_trans hS.1 (by rw [e1]; exact hz), fun q h1 h2 => by rw [e1, hk q (Nat.lt_of_lt_of_le h1 hS.1) h2]; exact hS.2.1 q h1 h2, fun q hq => by
      rcases List.mem_append.mp hq with h | h
      · exact hS.2.2 q h
      · exact hL q h⟩ T' rfl X'
  exact ⟨t2, st t2 a1, b1⟩
/-- what a call is -/
theorem sn_callinv {ins : Instr} {d : Nat × List sn_V × Nat × List sn_V × List sn_V × sn_H} (hg : sn_do M pc ins lv st h = some (.inr (.inr d))) :
    ∃ a : Nat, sn_fr d.1 + 1 ≤ sn_fr M ∧ sn_lo d.1 + sn_ml d.1 + 19 ≤ sn_lo M ∧ a ≤ st.length ∧ (st.drop a).length ≤ 4 ∧ (sn_lay (st.take a).reverse).length ≤ sn_ml d.1 ∧ (sn_hl d.1 = true ∨ ∀ v ∈ st.take a, sn_two v = false) ∧ d.2.1 = (st.take a).reverse ∧ d.2.2 = (pc + 3, lv, st.drop a, h) ∧
    ((∃ i b q r, ins = .invokevirtual i ∧ sn_pv (sn_oc M) i = some (d.1, b) ∧ a = b + 1 ∧ st.drop b = sn_r q :: r ∧ 2 ≤ q ∧ q < h.1 ∧ (h.2.2.1 q).1 = sn_oc d.1) ∨
     (∃ i, ins = .invokestatic i ∧ sn_ps (sn_oc M) i = some (d.1, a)) ∨
     (∃ i b q r, ins = .invokespecial i ∧ sn_pc (sn_oc M) i = some (d.1, b) ∧ d.1 ≠ 200 ∧ a = b + 1 ∧ st.drop b = sn_r q :: r ∧ 2 ≤ q ∧ q < h.1)) := by
  have Z : ∀ x : sn_O, (none : Option sn_O) = some x → False := fun _ h => nomatch h
  have C : ∀ {j a : Nat}, sn_call M j a (pc + 3) lv st h = some (.inr (.inr d)) → d.1 = j ∧ sn_fr j + 1 ≤ sn_fr M ∧ sn_lo j + sn_ml j + 19 ≤ sn_lo M ∧ a ≤ st.length ∧ (st.drop a).length ≤ 4 ∧ (sn_lay (st.take a).reverse).length ≤ sn_ml j ∧ (sn_hl j = true ∨ ∀ v ∈ st.take a, sn_two v = false) ∧ d.2.1 = (st.take a).reverse ∧ d.2.2 = (pc + 3, lv, st.drop a, h) := fun {j a} hc => by
    unfold sn_call at hc
    split at hc
    · rename_i hv
      cases hc
      simp only [Bool.and_eq_true, Bool.or_eq_true, decide_eq_true_eq, List.all_eq_true, Bool.not_eq_true'] at hv
      exact ⟨rfl, hv.1.1.1.1.1, hv.1.1.1.1.2, hv.1.1.1.2, hv.1.1.2, hv.1.2, hv.2, rfl, rfl⟩
    · cases hc
  rcases sn_kinds hg with ⟨d, hx⟩ | rfl | rfl | rfl | rfl | ⟨i, rfl⟩ | ⟨i, rfl⟩ | ⟨i, rfl⟩
  · cases hx
  · unfold sn_do at hg
    dsimp only at hg
    repeat' (split at hg)
    all_goals cases hg
  · unfold sn_do at hg
    dsimp only at hg
    repeat' (split at hg)
    all_goals cases hg
  · unfold sn_do at hg
    dsimp only at hg
    repeat' (split at hg)
    all_goals cases hg
  · unfold sn_do at hg
    dsimp only at hg
    repeat' (split at hg)
    all_goals cases hg
  · unfold sn_do at hg
    dsimp only at hg
    cases hp : sn_pv (sn_oc M) i with
    | none => rw [hp] at hg; cases hg
    | some z =>
      obtain ⟨j, b⟩ := z
      rw [hp] at hg
      try dsimp only at hg
      split at hg
      · rename_i q r hdr
        split at hg
        · rename_i hv
          simp only [Bool.and_eq_true, decide_eq_true_eq] at hv
          obtain ⟨rfl, c1, c2, c3, c4, c5, c6, c7, c8⟩ := C hg
          exact ⟨b + 1, c1, c2, c3, c4, c5, c6, c7, c8, Or.inl ⟨i, b, q, r, rfl, hp, rfl, hdr, hv.1.1, hv.1.2, hv.2⟩⟩
        · cases hg
      · cases hg
  · unfold sn_do at hg
    dsimp only at hg
    cases hp : sn_px (sn_oc M) i with
    | some k =>
      rw [hp] at hg
      obtain ⟨k3, hw⟩ := sn_pxl_ok _ (sn_find (o := sn_oc M) (i := i) (x := k) hp)
      dsimp only at k3
      rcases (show k = 0 ∨ k = 1 ∨ k = 2 by omega) with rfl | rfl | rfl
      · rcases st with _ | ⟨x | x, r⟩ <;> first | (exact (Z _ hg).elim) | skip
        by_cases hv : (decide (1 ≤ sn_fr M) && decide (21 ≤ sn_lo M) && decide (r.length ≤ 4)) = true
        · replace hg := (if_pos hv).symm.trans hg; cases hg
        · replace hg := (if_neg hv).symm.trans hg; exact (Z _ hg).elim
      · rcases st with _ | ⟨y | y, _ | ⟨x | x, r⟩⟩ <;> first | (exact (Z _ hg).elim) | skip
        by_cases hv : (decide (1 ≤ sn_fr M) && decide (21 ≤ sn_lo M) && decide (r.length ≤ 4)) = true
        · replace hg := (if_pos hv).symm.trans hg; cases hg
        · replace hg := (if_neg hv).symm.trans hg; exact (Z _ hg).elim
      · rcases st with _ | ⟨y | y, _ | ⟨x | x, r⟩⟩ <;> first | (exact (Z _ hg).elim) | skip
        by_cases hv : (decide (1 ≤ sn_fr M) && decide (21 ≤ sn_lo M) && decide (r.length ≤ 4)) = true
        · replace hg := (if_pos hv).symm.trans hg; cases hg
        · replace hg := (if_neg hv).symm.trans hg; exact (Z _ hg).elim
    | none =>
      rw [hp] at hg
      try dsimp only at hg
      cases hq : sn_ps (sn_oc M) i with
      | none => rw [hq] at hg; cases hg
      | some z =>
        obtain ⟨j, a⟩ := z
        rw [hq] at hg
        try dsimp only at hg
        obtain ⟨rfl, c1, c2, c3, c4, c5, c6, c7, c8⟩ := C hg
        exact ⟨a, c1, c2, c3, c4, c5, c6, c7, c8, Or.inr (Or.inl ⟨i, rfl, hq⟩)⟩
  · unfold sn_do at hg
    dsimp only at hg
    cases hp : sn_pc (sn_oc M) i with
    | none => rw [hp] at hg; cases hg
    | some z =>
      obtain ⟨j, b⟩ := z
      rw [hp] at hg
      by_cases hj : j = 200
      · subst hj
        rcases st with _ | ⟨y | (_ | q) | y, r⟩ <;> first | (exact (Z _ hg).elim) | skip
        by_cases hv : (decide (2 ≤ q) && decide (q < h.1) && decide (1 ≤ sn_fr M) && decide (20 ≤ sn_lo M) && decide (r.length ≤ 4)) = true
        · replace hg := (if_pos hv).symm.trans hg; cases hg
        · replace hg := (if_neg hv).symm.trans hg; exact (Z _ hg).elim
      · try dsimp only at hg
        split at hg
        · rename_i e1
          cases e1
          exact absurd rfl hj
        · rename_i j' b' hne e1
          cases e1
          split at hg
          · rename_i q r hdr
            split at hg
            · rename_i hv
              simp only [Bool.and_eq_true, decide_eq_true_eq] at hv
              obtain ⟨rfl, c1, c2, c3, c4, c5, c6, c7, c8⟩ := C hg
              exact ⟨b + 1, c1, c2, c3, c4, c5, c6, c7, c8, Or.inr (Or.inr ⟨i, b, q, r, rfl, hp, hj, rfl, hdr, hv.1, hv.2⟩)⟩
            · cases hg
          · cases hg
        · cases hg
end SNC
