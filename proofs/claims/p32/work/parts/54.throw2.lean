/-! a throw that tells how much was made: the kit's, with that -/
section SKX
variable {p : Program} {l : Launch} {e : Env} {R : Room} {s : State} {m : MethodId} {args : Array Value} {below : List Frame} {meth : Method} {c : Code} {H : Heap} {locs : List Loc} {cells slots : Nat} {Q : State → Prop}
variable {mc ms : Nat} {free : Addr → Prop} {ls : Array Slot} {rest : List Value} {Qc : Array Value → State → Outcome → State → Prop} {XC : String → State → State → Prop}
theorem sk_throwSW {cc : ByteArray} {pc : Nat} (hexec : p.tables.exec = Jvm.exec) (hb : c.code = cc) (hl : l.stackTraces = false) {own cls text : String} {names : List String} {ik is ic mc ms sa : Nat} {A : Nat → Prop}
    (hown : s.vm.findClass own = some m.cls) (hcls : Bundle.fit cls = true) (hnames : ∀ n ∈ names, Bundle.fit n = true)
    (hk : (Cond.classLink own ik cls).before args s = true) (hini : (Cond.initialized cls).before args s = true) (hstr : vk_R own is text sa s) (hat : ∀ w ∈ vx_atS own ic cls names, w.before args s = true)
    (hgood : ∀ w ∈ Cond.classLink own ik cls :: Cond.initialized cls :: vx_atS own ic cls names, vx_ot w = true)
    (hU : vx_Zq Bundle.tN "UNASSIGNED_STACK" Bundle.steD A s s.heap) (hN : vx_Zq Bundle.tN "SUPPRESSED_SENTINEL" Bundle.listD A s s.heap) (hS : va_S A s.heap H locs) (hsize : ls.size = c.maxLocals)
    (d0 : decode cc pc = .ok (.new ik, 3)) (d3 : decode cc (pc + 3) = .ok (.dup, 1)) (d4 : decode cc (pc + 4) = .ok (.ldc_w is, 3)) (d7 : decode cc (pc + 7) = .ok (.invokespecial ic, 3)) (d10 : decode cc (pc + 10) = .ok (.athrow, 1))
    (hout : ∀ x ∈ c.exceptionTable.toList, covers x (pc + 10) = false)
    (hRframes : names.length + 3 < R.frames) (hRlocals : (rest.map fun v => v.category).sum + (13 * (names.length + 1) + 43) ≤ R.locals) (hRcells : cells + 1 ≤ R.cells) (hRslots : slots + 6 ≤ R.slots) (hlocks : meth.locks = false)
    (hx : ∀ t : State, s.vm.Alike t.vm → t.heap.size = H.size + 1 → (∀ q : Nat, q < H.size → t.heap[q]? = H[q]?) → XC cls s t)
    (hf : ∀ z ∈ locs, free z.base) (hc : cells + 1 ≤ mc) (hs : slots + 6 ≤ ms) :
    W p l e R s m args below meth c H locs cells slots (vx_MQ below Qc XC args s mc ms free) (F0 m pc ls rest) := by
  intro T hT X
  have htr : e.platform.stackTraces = false := (show e.platform.stackTraces = l.stackTraces by rw [X.admits.platform]).trans hl
  have Y := vx_rebase X (R' := { frames := R.frames, locals := R.locals, cells := 1, slots := 6 }) (Nat.le_refl _) (Nat.le_refl _) hRcells hRslots
  obtain ⟨s', hA⟩ : ∃ z, z = (T.setVm s.vm).setFrames (.invoking m args :: below) := ⟨_, rfl⟩
  rw [← hA] at Y
  have hvm : s'.vm = s.vm := by rw [hA]; rfl
  have hhp : s'.heap = H := by rw [hA]; exact hT
  have hW0 : s.WarmedH s'.vm := by rw [hvm]; exact State.WarmedH.refl s
  have hat' : ∀ w ∈ vx_atS own ic cls names, w.before args s' = true := fun w hw => vx_ot_at hW0 hvm.symm (hgood w (List.mem_cons_of_mem _ (List.mem_cons_of_mem _ hw))) (hat w hw)
  have hk' : (Cond.classLink own ik cls).before args s' = true := vx_ot_at hW0 hvm.symm (hgood _ List.mem_cons_self) hk
  have hini' : (Cond.initialized cls).before args s' = true := vx_ot_at hW0 hvm.symm (hgood _ (List.mem_cons_of_mem _ List.mem_cons_self)) hini
  have hU' : vx_Zq Bundle.tN "UNASSIGNED_STACK" Bundle.steD A s' s'.heap := by rw [hhp]; exact vx_Zq.moved hW0.alike (hU.kept hS.2.1)
  have hN' : vx_Zq Bundle.tN "SUPPRESSED_SENTINEL" Bundle.listD A s' s'.heap := by rw [hhp]; exact vx_Zq.moved hW0.alike (hN.kept hS.2.1)
  have h : ∀ w ∈ Bundle.ownAtoms own ic cls names, w.before args s' = true := vx_own hat' (vx_isRefq hU'.1) (vx_isRefq hN'.1) hU'.2.word hN'.2.word
  have hown' : s'.vm.findClass own = some m.cls := by rw [hvm]; exact hown
  have hins : (Cond.instantiable cls 6).before args s' = true := h _ (by simp [Bundle.ownAtoms])
  obtain ⟨vm₁, cX, kX, hfX, hkX, -, -, X₁, st1⟩ := Y.newCold hexec (own := own) (C := cls) (index := ik) (n := 6) hown' hk' hins hini'
    (g := F0 m pc ls rest) rfl (by rw [hb]; exact d0) (Nat.le_refl _) (Nat.le_refl _)
  generalize hT1 : (T.setVm vm₁).pushCell { cls := cX, slots := kX.instanceTypes.map defaultValue, vm := .none } = T1 at X₁ st1
  have hcat : (Value.ref T.heap.size).category = 1 := rfl
  have hcellA : T1.heap[T.heap.size]? = some (freshCell cX kX) := by rw [← hT1]; exact State.heap_pushCell_size _ _
  have d3' : decode c.code (pc + 3) = .ok (.dup, 1) := by rw [hb]; exact d3
  have d4' : decode c.code (pc + 4) = .ok (.ldc_w is, 3) := by rw [hb]; exact d4
  have hstr' : vk_R own is text sa s' := vk_R.warm hW0 hstr
  obtain ⟨U, hsteps, hrun, hend, hW, hsame, ce, hce, hO⟩ := X₁.ctorThrowS hexec htr (own := own) (cls := cls) (names := names) (ic := ic) hown' hcls hnames h (fun x hx => nomatch hx) hfX hkX hcellA (by rw [hhp, hT]; exact Nat.le_refl _) (msg := .ref sa) rfl
    (g := { method := m, pc := pc + 7, locals := ls, stack := .ref sa :: .ref T.heap.size :: .ref T.heap.size :: rest, locked := none }) rfl hsize rfl rfl (rest := rest) rfl
    (by rw [hb]; exact d7) (by rw [hb]; exact d10) hout hRframes (by simp only [List.map_cons, List.sum_cons, hcat]; omega) hlocks
  obtain ⟨f1, f2⟩ := vx_frame hsame
  rw [hhp] at f1 f2
  have hWs : s.WarmedH U.vm := State.WarmedH.trans hW0 hW
  have hcl : s.vm.findClass cls = some ce.cls := by
    have h9 := hO.cls
    rw [hvm] at h9
    exact h9
  have hall : s.sameButNew ({ U with vm := s.vm } : State) locs mc ms := by
    subst hA
    obtain ⟨e1, e2⟩ := hsame
    rw [State.setFrames_setFrames] at e1
    have h2 : (T.setVm s.vm).sameButNew ({ U with vm := s.vm } : State) [] (0 + 1) (0 + 6) := ⟨e1, e2⟩
    have h3 := X.same.trans h2
    rw [List.append_nil] at h3
    exact h3.mono hc hs
  have f3 : U.heap.size = H.size + 1 := by
    have g1 : T.heap.size < U.heap.size := (Array.getElem?_eq_some_iff.mp hce).1
    have g2 : U.heap.size ≤ s'.heap.size + 1 := hsame.2.2.1
    rw [hT] at g1
    rw [hhp] at g2
    omega
  refine ⟨U, ?_, .threw T.heap.size, hrun, hend, Or.inr ⟨T.heap.size, rfl, cls, ce, locs, hx U hWs.alike f3 (fun q hq => f2 q hq (fun z hz => nomatch hz)), hce, hO.vm, hcl, hWs, hall, hf⟩⟩
  refine st1 _ ?_
  show Steps p.tables e below (T1.setTop { method := m, pc := pc + 3, locals := ls, stack := .ref T.heap.size :: rest, locked := none }) _
  jvm_step X₁.here [X₁.here.top, hexec, d3', Value.category]
  exact X₁.ldcStringW hexec (own := own) (text := text) (index := is) (a := sa) hown' hstr'.1 hstr'.2
    (g := { method := m, pc := pc + 4, locals := ls, stack := .ref T.heap.size :: .ref T.heap.size :: rest, locked := none }) rfl d4' _ hsteps
end SKX
/-- where it was thrown -/
def sk_XC (G : sn_P) (h' : sn_H) : String → State → State → Prop := fun E st t => E = "java/lang/IndexOutOfBoundsException" ∧ sn_Rp G h' t.heap ∧ va_F (sn_A G) st t
theorem sk_Rp_new {G : sn_P} {h : sn_H} {H H' : Heap} (hR : sn_Rp G h H) (hz : H'.size = H.size + 1) (hk : ∀ q : Nat, q < H.size → H'[q]? = H[q]?) : sn_Rp G (sn_pu h 103 6 (fun _ => sn_n)) H' := by
  obtain ⟨r1, r2, r3, r4, r5, r6, r7, r8, r9⟩ := hR
  have h0 : ∀ q, q ≠ h.1 → (sn_pu h 103 6 (fun _ => sn_n)).2.2.1 q = h.2.2.1 q := fun q hq => if_neg hq
  have h9 : ∀ q, q ≠ h.1 → (sn_pu h 103 6 (fun _ => sn_n)).2.2.2 q = h.2.2.2 q := fun q hq => funext fun i => if_neg hq
  have e1 : (sn_pu h 103 6 (fun _ => sn_n)).2.2.1 h.1 = (103, 6) := if_pos rfl
  refine ⟨by show 2 ≤ h.1 + 1; omega, by show H'.size = sn_s0 G + (h.1 + 1 - 2); omega, fun q q2 q1 => ?_, fun q i => ?_, fun q => ?_, by rw [h0 0 (by omega)]; exact r6, fun j hj => by rw [h9 0 (by omega)]; exact r7 j hj, by rw [h0 1 (by omega)]; exact r8, fun j hj => by rw [h9 1 (by omega)]; exact r9 j hj⟩
  · have q1 : q < h.1 + 1 := q1
    by_cases e : q = h.1
    · subst e
      unfold sn_at
      rw [e1]
      rw [if_neg (by decide), if_neg (by decide), if_neg (by decide), if_neg (by decide)]
      trivial
    · have ha := r3 q q2 (by omega)
      have hlt : sn_ad G q < H.size := by rw [sn_ad2 G q2]; omega
      unfold sn_at at ha ⊢
      rw [h0 q e, h9 q e]
      split
      · rename_i c1
        rw [if_pos c1] at ha
        refine ⟨ha.1, ?_⟩
        obtain ⟨cell, g1, g2⟩ := ha.2
        exact ⟨cell, (hk _ hlt).trans g1, g2⟩
      · rename_i c1
        rw [if_neg c1] at ha
        split
        · rename_i c2
          rw [if_pos c2] at ha
          exact (hk _ hlt).trans ha
        · rename_i c2
          rw [if_neg c2] at ha
          split
          · rename_i c3
            rw [if_pos c3] at ha
            exact (hk _ hlt).trans ha
          · rename_i c3
            rw [if_neg c3] at ha
            split
            · rename_i c4
              rw [if_pos c4] at ha
              exact (hk _ hlt).trans ha
            · trivial
  · by_cases e : q = h.1
    · show sn_wf (if q = h.1 then sn_n else h.2.2.2 q i)
      rw [if_pos e]; trivial
    · rw [h9 q e]; exact r4 q i
  · by_cases e : q = h.1
    · rw [e, e1]; decide
    · rw [h0 q e]; exact r5 q
/-- a method's frame, at its entry -/
theorem sk_entryX {G : sn_P} {l : Launch} {j : Nat} {as : List sn_V} {h : sn_H} {mc ms : Nat} {p : Program} {e : Env} {s s₁ : State} {m : MethodId} {args : Array Value} {below : List Frame} {meth : Method} {c : Code} (hj : j < 129) (hlen : (sn_lay as).length ≤ sn_ml j) (hwf : ∀ v ∈ as, sn_wf v) (h2 : sn_hl j = true ∨ ∀ v ∈ as, sn_two v = false) (B : BodyLoose p l (sn_y j) (headSpec (sn_wj j) (sn_room j mc ms)) (sn_bc j) (sn_ml j) (sn_rt j) e s m args below meth c s₁) (hml : c.maxLocals = sn_ml j) (hv : va_Pc (as.map (sn_tr G)) (sn_PcU G h) args s) :
    args = (as.map (sn_tr G)).toArray ∧ sn_Cx G j p (headSpec (sn_wj j) (sn_room j mc ms)).room s m args meth c ∧ ∃ ls : Array Slot, entryFrame m args (sn_ml j) = F0 m 0 ls [] ∧ sn_Sr G j s s.heap [] ls (sn_ent j as) [] h := by
  obtain ⟨rfl, hR, hK, hW, hs0⟩ := hv
  have hts : ∀ w ∈ wsL_law, w.before (as.map (sn_tr G)).toArray s = true := fun w hw => atoms_spec (ws := sn_wj j) B.pre w (List.mem_cons_of_mem _ hw)
  have hown : s.vm.findClass (sn_y j).cls = some m.cls := findClass_of_methodNamed B.named
  rw [(sn_ycls j hj).1] at hown
  have hnm : meth.name = (sn_y j).name := (name_of_methodNamed B.named B.method).1
  exact ⟨rfl, ⟨B.exec, B.bytes, hml, B.returns, B.notSynchronized, hown, fun hi => hnm.trans (sn_in_name j hi), hts, hK, hW, Nat.le_refl _, Nat.le_refl _, hs0⟩, _, lg_entry_eq _ _ _, hR, va_S.rf, sn_entry hlen hwf h2, fun v hv => by cases hv⟩
