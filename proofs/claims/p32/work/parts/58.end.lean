/-! THE CLAIM OUT OF ONE WALK OF THE LAW'S BODY. Your part is whole_start (and what it stands on); all else here is the same for every law, but numbers. -/
def R_law : String := "SongnationsLaw"
def lw_P (b : Addr) (xs : List Int32) (args : Array Value) (s : State) : Prop := args = #[.ref b] ∧ s.IntsAt b xs ∧ xs.length ≤ 260 ∧ (Jvm.Cond.and given_1 narrow_1).before args s = true
/-- what a walk over the start with the record d0 says of its end, said of the start itself -/
theorem lw_closed {s t : State} {o : Outcome} {d0 : Drawn} {L : List Loc} {k n : Nat} (hd0 : s.drawn.sameBut d0 lw_cs) (hv : ∃ v, o = .returned v) (hW : (s.setDrawn d0).WarmedH t.vm) (hs : (s.setDrawn d0).sameButNew ({ t with vm := s.vm } : State) L k n) : State.butDraws s t lw_cs (fun t1 => Framed s o t1 L k n) := by
  have h2 : t.drawn = d0 := congrArg State.drawn hs.1
  refine ⟨⟨hv, hW, State.sameButNew.setDrawn hs s.drawn⟩, ?_, by decide⟩
  rw [h2]
  exact hd0
def lw_Q (_ : Array Value) (s : State) (o : Outcome) (t : State) : Prop := o = .returned (some (.int 1)) ∧ State.butDraws s t lw_cs (fun t1 => Framed s o t1 [] 600086 7301442)
def lw_Z (below : List Frame) (a : Array Value) (s : State) : State → Prop := fun t => ∃ o, t.status = .running ∧ Ended t below o ∧ lw_Q a s o t
/-- the law's own end, with 1 on the stack, nothing written that was there before, its room as the claim has it; d0: the record of draws at this point (at the entry s.drawn: begin with 'refine W.base ?_' and 'have hd0 := Drawn.sameBut.refl s.drawn lw_cs') -/
theorem lw_ret {p : Program} {l : Launch} {e : Env} {s : State} {m : MethodId} {below : List Frame} {meth : Method} {c : Code} {b : Nat} {d0 : Drawn} (hd0 : s.drawn.sameBut d0 lw_cs) (hx : p.tables.exec = Jvm.exec) (hb : c.code = code) (hr : meth.sig.returnType = ret) (hlocks : meth.locks = false) {pc : Nat} {H : Heap} {ls : Array Slot} (hdg : decode code pc = .ok (.ireturn, 1)) : W p l e room_1 (s.setDrawn d0) m #[Value.ref b] below meth c H [] 600086 7301442 (lw_Z below #[Value.ref b] s) (F0 m pc ls [.int 1]) := by
  intro T hT X
  obtain ⟨fs, hret, hrun, hended, hW, hframe⟩ := X.leave (v := some (.int 1)) (hlocks := hlocks) (fun h => by rw [hr] at h; cases h)
  have hmeth' : T.vm.method? m = some meth := X.method'
  refine ⟨T.setFrames fs, ?_, .returned (some (.int 1)), hrun, hended, rfl, lw_closed hd0 ⟨_, rfl⟩ hW hframe⟩
  jvm_step X.here [X.here.top, hx, hb, hdg, hmeth', hr, ret, narrow_b1]
  (try refine ⟨rfl, ?_⟩); (try refine ⟨rfl, ?_⟩)
  first | (intro acts; rw [hret _ acts rfl rfl rfl]) | rw [hret _ _ rfl rfl rfl]
  exact Steps.refl _
/-- what holds at the law's entry: the machine, the code, the tables' words (any of lw_tbl by 'hts w (by decide +kernel)'), the script of L ints xs at the cell b, what the Statement gives of the start (any of its parts by flat_of_before) -/
def lw_At (p : Program) (s : State) (m : MethodId) (meth : Method) (c : Code) (b L : Nat) (xs : Nat → Int32) : Prop :=
  p.tables.exec = Jvm.exec ∧ c.code = code ∧ meth.sig.returnType = ret ∧ c.maxLocals = 19 ∧ s.vm.findClass R_law = some m.cls ∧ (∀ w ∈ lw_tbl, w.before #[Value.ref b] s = true) ∧ va_X b L xs s s.heap ∧ b < s.heap.size ∧ meth.locks = false ∧ (Jvm.Cond.and given_1 narrow_1).before #[Value.ref b] s = true
-- ===== YOUR PART BEGINS =====
theorem whole_start {p : Program} {e : Env} {s : State} {m : MethodId} {below : List Frame} {meth : Method} {c : Code} (l : Launch) (hflags : l.flags = flags0) {b L : Nat} {xs : Nat → Int32} (hL : L ≤ 260) (C0 : lw_At p s m meth c b L xs) : W p l e room_1 s m #[Value.ref b] below meth c s.heap [] 0 0 (lw_Z below #[Value.ref b] s) (entryFrame m ([Value.ref b] : List Value).toArray 19) := by
  obtain ⟨hx, hbd, hr, hml, hown, hts, hX, hbl, hlk, hg⟩ := C0
  have hs := flat_of_before _ hg
  have hl : l.stackTraces = false := by
    show (!l.flags.contains noTraceFlag) = false
    rw [hflags]
    decide +kernel
  have hw : ∀ w ∈ wsL_law, w.before #[Value.ref b] s = true := fun w h => hts w (sk_sub w h)
  have hA : ∀ a : Nat, a < s.heap.size → ¬ s.heap.size ≤ a := fun a h1 => by omega
  obtain ⟨f, hf⟩ := Classical.axiomOfChoice (sk_cls_at hts)
  obtain ⟨cI, cZ, cQ, harr⟩ := sk_arr_at hts
  -- WEIGHTS
  obtain ⟨wa, hwa, hwt⟩ := va_Tof (args := #[Value.ref b]) (s := s) (tm := .static "Songnations" "WEIGHTS" "[I") (ty := .int) (N := 7) (f := fun j => .int (Int32.ofInt (sn_wt j))) (A := fun a => s.heap.size ≤ a) (by decide) (hs (Cond.arrayOf (.static "Songnations" "WEIGHTS" "[I") .int) (by decide +kernel)) (va_eqt (hs (Cond.eq (.length (.static "Songnations" "WEIGHTS" "[I")) (.int 7)) (by decide +kernel))) (fun j hj => by
    match j, hj with
    | 0, _ => exact va_eqt (hs (Cond.eq (.elem (.static "Songnations" "WEIGHTS" "[I") (.int 0)) (.int 12)) (by decide +kernel))
    | 1, _ => exact va_eqt (hs (Cond.eq (.elem (.static "Songnations" "WEIGHTS" "[I") (.int 1)) (.int 10)) (by decide +kernel))
    | 2, _ => exact va_eqt (hs (Cond.eq (.elem (.static "Songnations" "WEIGHTS" "[I") (.int 2)) (.int 8)) (by decide +kernel))
    | 3, _ => exact va_eqt (hs (Cond.eq (.elem (.static "Songnations" "WEIGHTS" "[I") (.int 3)) (.int 7)) (by decide +kernel))
    | 4, _ => exact va_eqt (hs (Cond.eq (.elem (.static "Songnations" "WEIGHTS" "[I") (.int 4)) (.int 6)) (by decide +kernel))
    | 5, _ => exact va_eqt (hs (Cond.eq (.elem (.static "Songnations" "WEIGHTS" "[I") (.int 5)) (.int 5)) (by decide +kernel))
    | 6, _ => exact va_eqt (hs (Cond.eq (.elem (.static "Songnations" "WEIGHTS" "[I") (.int 6)) (.int 4)) (by decide +kernel))
    | _ + 7, hj => omega) hA
  have hwz := va_Zof (args := #[Value.ref b]) (s := s) (C := "Songnations") (n := "WEIGHTS") (d := "[I") (A := fun a => s.heap.size ≤ a) (hts _ (by decide +kernel)) (hts _ (by decide +kernel)) hwa hA
  have hzu := vx_Zqof (args := #[Value.ref b]) (s := s) (C := Bundle.tN) (n := "UNASSIGNED_STACK") (d := Bundle.steD) (A := fun a => s.heap.size ≤ a) (hts _ (by decide +kernel)) (hts _ (by decide +kernel)) (hs _ (by decide +kernel)) hA
  have hzs := vx_Zqof (args := #[Value.ref b]) (s := s) (C := Bundle.tN) (n := "SUPPRESSED_SENTINEL") (d := Bundle.listD) (A := fun a => s.heap.size ≤ a) (hts _ (by decide +kernel)) (hts _ (by decide +kernel)) (hs _ (by decide +kernel)) hA
  obtain ⟨sa, -, -, -, hsa, -⟩ := Cond.exactly_spec (hs (Cond.exactly (.string "Songnations" 441) "java/lang/String") (by decide +kernel))
  have hstr : vk_R RX9 441 "there is no such song in this year" sa s := vk_R.of (hts _ (by decide +kernel)) hsa
  obtain ⟨G, hG⟩ : ∃ G : sn_P, G = ((fun c => (f c).1, fun c => (f c).2), (cI, cZ, cQ), (b, L, wa, s.heap.size), xs) := ⟨_, rfl⟩
  have g1 : sn_b G = b := by rw [hG]
  have g2 : sn_L G = L := by rw [hG]
  have g3 : sn_s0 G = s.heap.size := by rw [hG]
  have g4 : sn_xs G = xs := by rw [hG]
  have hscr : va_T .int b L (fun j => .int (xs j)) (fun a => s.heap.size ≤ a) s s.heap := by
    obtain ⟨scr, h1, h2, h3, h4, h5⟩ := hX
    exact ⟨scr, h1, h2, h3, by omega, by rw [h4], h5, hA b hbl⟩
  have hWd : sn_Wd G s s.heap := by
    rw [hG]
    exact ⟨hscr, hwz, hwt, hzu, hzs, hts (Cond.arrayOver (.array .int)) (by decide +kernel), fun e he => va_Nw.of rfl (hts _ (sk_nl_sub e he)), sa, hstr, fun w hw => va_any (sk_w_on (sn_nw_dc w hw)) (hts w (sk_nw_sub w hw))⟩
  have hKK : va_K (sn_D G) sn_cls (sn_ty G) s := by
    rw [hG]
    exact ⟨fun c q hq => hf c q hq, harr⟩
  have X : sn_Cx G 129 p room_1 s m #[Value.ref b] meth c := ⟨hx, hbd, hml, hr, hlk, hown, fun h => (by cases h), hw, hKK, hWd, by decide, by decide, by rw [g3]; exact Nat.le_refl _⟩
  obtain ⟨h0, hh0⟩ : ∃ h, h = sk_K 2 0 (sk_Y0 (sn_L G)) (sk_c0 (sn_xs G)) := ⟨_, rfl⟩
  have hRp : sn_Rp G h0 s.heap := by rw [hh0]; exact sk_Rp0 g3.symm (by rw [g2]; exact hL)
  have hLs := sn_entry (G := G) (j := 129) (as := [sn_r 0]) (by show 1 ≤ 19; decide) (fun v hv => by
    rw [List.mem_singleton.mp hv]; trivial) (Or.inl rfl)
  have S : sn_Sr G 129 s s.heap [] _ (sn_ent 129 [sn_r 0]) [] h0 := ⟨hRp, va_S.rf, hLs, fun v hv => nomatch hv⟩
  have hrun : sn_Wp 129 0 (sn_ent 129 [sn_r 0]) [] h0 (fun r h => r = some (sn_i 1) ∧ h.1 ≤ 1000 ∧ h.2.1 ≤ 10000) := by
    rw [hh0]
    exact sk_law (k0 := 0) (Y := sk_Y0 (sn_L G)) (c := sk_c0 (sn_xs G)) ⟨rfl, fun j _ => rfl⟩ ⟨rfl, fun j _ => rfl⟩ (fun n' k' Y X σ h1 h2 => ⟨rfl, by show 231 + n' ≤ 1000; omega, by show k' ≤ 10000; omega⟩)
  unfold sn_Wp at hrun
  obtain ⟨fu, o, he, ho1, ho2, ho3⟩ := hrun
  have k := (sn_sim (G := G) (sk_Has hl) fu 129 0 _ [] h0 o.1 o.2 he).2 (e := e) (below := below) (cells := 0) (slots := 0) X S (by show 0 + _ ≤ 600086; omega) (by show 0 + _ ≤ 7301442; omega)
  have eF : entryFrame m ([Value.ref b] : List Value).toArray 19 = F0 m 0 ((lg_sl ([sn_r 0].map (sn_tr G)) ++ List.replicate (sn_ml 129 - (lg_sl ([sn_r 0].map (sn_tr G))).length) Slot.unset).toArray) (([] : List sn_V).map (sn_tr G)) := by
    have e1 : [sn_r 0].map (sn_tr G) = [Value.ref b] := by
      show [Value.ref (sn_ad G 0)] = _
      rw [show sn_ad G 0 = b from g1]
    rw [e1]
    exact lg_entry_eq _ _ _
  rw [eF]
  intro T hT XT
  obtain ⟨t, a1, o', b1, b2, b3, L', b4, b5⟩ := k T hT XT
  obtain ⟨q1, -, -, -⟩ := b3
  rw [ho1] at q1
  refine ⟨t, a1, o', b1, b2, q1, lw_closed (d0 := s.drawn) (Drawn.sameBut.refl s.drawn lw_cs) b4.1 b4.2.1 ?_⟩
  have hd : s.sameButNew ({ t with vm := s.vm } : State) [] _ _ := State.sameButNew.drop_fresh (L := []) (J := L') b4.2.2 (fun x hx => by
    have := b5 x hx
    show s.heap.size ≤ x.base
    rw [← g3]; exact this)
  exact State.sameButNew.mono hd (by omega) (by omega)
-- ===== YOUR PART ENDS =====
set_option maxHeartbeats 4000000 in
theorem lw_walk (l : Launch) (hflags : l.flags = flags0) (b : Addr) (xs : List Int32) : MetFree l x (headSpec (Jvm.Cond.code x code maxLocals ret :: tables_1) room_1) (lw_P b xs) (fun _ _ _ _ _ => True) lw_Q := by
  refine MetFree.of_bodyS (code := code) (maxLocals := maxLocals) (ret := ret) (by decide) ?_ ?_
  · intro args s m h hn
    obtain ⟨meth, c, h1, h2, h3, h4, h5, h6, -, -⟩ := Cond.code_spec hn (atoms_spec (ws := Jvm.Cond.code x code maxLocals ret :: tables_1) h _ List.mem_cons_self)
    exact ⟨meth, c, h1, h2, h3, h4, h5, h6⟩
  · intro p e s m args below meth c s₁ B hml0 hP _
    obtain ⟨rfl, hx, hbd, hgv⟩ := hP
    obtain ⟨scr, harrAt, hlist, hof, hsmall⟩ := hx
    obtain ⟨hcb, hkn, -, -⟩ := State.arrayAt?_spec harrAt
    have hown : s.vm.findClass R_law = some m.cls := findClass_of_methodNamed B.named
    have hts0 : ∀ c ∈ (Jvm.Cond.code x code maxLocals ret :: tables_1), c.before #[Value.ref b] s = true := atoms_spec (ws := Jvm.Cond.code x code maxLocals ret :: tables_1) B.pre
    have hts : ∀ w ∈ lw_tbl, w.before #[Value.ref b] s = true := k2_hts_sels lw_privs (fun w hw => hts0 w (List.mem_cons_of_mem _ hw)) lw_privs_ok
    have hml : c.maxLocals = 19 := B.maxLocals_eq (hts0 _ List.mem_cons_self)
    have X₀ : Stand p l e room_1 s m #[Value.ref b] below meth c s₁ [] 0 0 := Stand.of_body B
    have hh0 : s₁.heap = s.heap := by rw [B.state]; rfl
    have hsz : scr.slots.size = xs.length := by rw [← Array.length_toList, hlist, List.length_map]
    have hval : ∀ j : Nat, j < xs.length → scr.slots[j]? = some (.int (xs.getD j 0)) := fun j hj => by
      rw [← Array.getElem?_toList, hlist]
      simp [hj]
    have hbl : b < s.heap.size := (Array.getElem?_eq_some_iff.mp hcb).1
    have hX : va_X b xs.length (fun j => xs.getD j 0) s s.heap := ⟨scr, hcb, hof, hkn, hsz, hval⟩
    have K : W p l e room_1 s m #[Value.ref b] below meth c s₁.heap [] 0 0 (lw_Z below #[Value.ref b] s) (entryFrame m ([Value.ref b] : List Value).toArray 19) := by
      rw [hh0]
      exact whole_start l hflags hbd ⟨B.exec, B.bytes, B.returns, hml, hown, hts, hX, hbl, B.notSynchronized, hgv⟩
    obtain ⟨t, a1, o, b1, b2, b3⟩ := K s₁ rfl X₀
    exact ⟨t, o, a1, b1, b2, b3⟩
theorem lw_pre_spec {args : Array Value} {s : State} (h : (Jvm.Cond.and given_1 narrow_1).before args s = true) (hr : rest_1_c.before args s = true) : ∃ (b : Addr) (xs : List Int32), lw_P b xs args s := by
  have hs := flat_of_before _ h
  have hq := flat_of_before _ hr
  have hc : (Cond.count 1).before args s = true := hs _ (by decide +kernel)
  have harr : (Cond.arrayOf (.arg 0) .int).before args s = true := hs _ (by decide +kernel)
  have hle : (Cond.le (.length (.arg 0)) (.int 260)).before args s = true := hs _ (by decide +kernel)
  have hlen : (Cond.isInt (.length (.arg 0))).before args s = true := hq _ (by decide +kernel)
  have hall : (Cond.all (.arg 0) (.isInt (.elem (.arg 0) (.index 0)))).before args s = true := hq _ (by decide +kernel)
  obtain ⟨b, xs, hb, hx⟩ := State.ints_of_pre rfl harr hlen hall
  have hsm : xs.length < 2 ^ 31 := hx.choose_spec.2.2.2
  have hev : (Term.length (.arg 0)).eval args s none [] s = some (.int xs.length.toInt32) := hx.length_eval hb
  have hv := Cond.le_ints hev (show (Term.int 260).eval args s none [] s = some (.int 260) from rfl)
  have hd : xs.length.toInt32 ≤ 260 := by
    simpa [Cond.before, Cond.holds, hv] using hle
  have hN : xs.length ≤ 260 := (Int32.ofNat_le_ofNat hsm (by decide)).mp (show Int32.ofNat xs.length ≤ Int32.ofNat 260 from hd)
  exact ⟨b, xs, Cond.one_arg hc (show args[0]? = some (.ref b) from hb), hx, hN, h⟩
theorem lw_comes (l : Launch) (hflags : l.flags = flags0) : Comes l x (Jvm.Cond.code x code maxLocals ret :: tables_1) room_1 (fun tb e args s => Calls_1 tb e args s ∧ rest_1 tb e args s ∧ Pre_1 tb e args s)
    (fun _ _ args s o t => lw_Q args s o t) := by
  intro p e ha hc hk s m args below hf hfit hheap happ hpre
  obtain ⟨b, xs, hP⟩ := lw_pre_spec hpre.2.2 hpre.2.1
  obtain ⟨k, o, h1, h2, h3, hQ⟩ := lw_walk l hflags b xs p e ha hc hk s m args below hf ((Spec.applies_iff_loose hf).mp happ).1 hP trivial
  exact ⟨k, o, h1, h2, h3, hQ⟩
theorem lw_frame {s t : State} {o : Outcome} {args : Array Value} (h : State.butDraws s t lw_cs (fun t1 => Framed s o t1 [] 600086 7301442)) :
    State.butDraws s t [Jvm.Choice.named "NaN.bits"] (fun t1 => Framed s o t1 (fieldLocs frame_1_writes args s ++ arrayLocs frame_1_arrays args s ++ staticLocs frame_1_statics s) 600086 7301442) := h
theorem lw_limb (L : Cond) (hL : ∀ (args : Array Value) (s t : State), L.after args s (.returned (some (.int 1))) t = true) :
    ArmFor flags0 classFile x code maxLocals ret World_1 tables_1 room_1 Calls_1 rest_1 Pre_1
      (fun tb e a s o t => postC L tb e a s o t ∧ State.butDraws s t [Jvm.Choice.named "NaN.bits"] (fun t1 => Framed s o t1 (fieldLocs frame_1_writes a s ++ arrayLocs frame_1_arrays a s ++ staticLocs frame_1_statics s) 600086 7301442)) := by
  intro l hflags _ _ p e ha hc hk s m args below hf hfit hheap happ hpre
  obtain ⟨k, o, h1, h2, h3, rfl, hF⟩ := lw_comes l hflags p e ha hc hk s m args below hf hfit hheap happ hpre
  exact ⟨k, _, h1, h2, h3, hL args s _, lw_frame hF⟩
theorem i_vc : Claimed_1_1 ∧ Claimed_1_2 := ⟨lw_limb limb_1_1 (fun args s t => by simp [limb_1_1, Cond.after, Cond.holds, Cond.value]), lw_limb limb_1_2 (fun args s t => Cond.after_iff.mpr (by
  first | (rw [show limb_1_2 = Cond.eq .result (.int 1) from rfl, Cond.eq_ints (x := 1) (y := 1) rfl rfl]; simp; done) | (simp [limb_1_2, Cond.value, Term.eval]; done)))⟩
