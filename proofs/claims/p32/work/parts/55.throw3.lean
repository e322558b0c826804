theorem sk_w_on {w : Cond} (h : sn_dcw w = true) : w.onTables = true := by
  match w, h with
  | .declares x, _ => rfl
  | .castable a b, _ => rfl
theorem sk_at_good : ∀ w ∈ (vx_atS RX9 205 "java/lang/IndexOutOfBoundsException" ["java/lang/RuntimeException", "java/lang/Exception"]).filter goodWord, w ∈ wsL_law := by
  intro w hw
  unfold wsL_law
  exact List.mem_append_right _ hw
theorem sk_at_ot : ∀ w ∈ Cond.classLink RX9 201 "java/lang/IndexOutOfBoundsException" :: Cond.initialized "java/lang/IndexOutOfBoundsException" :: vx_atS RX9 205 "java/lang/IndexOutOfBoundsException" ["java/lang/RuntimeException", "java/lang/Exception"], vx_ot w = true := by decide +kernel
theorem sk_w1 : Cond.classLink RX9 201 "java/lang/IndexOutOfBoundsException" ∈ wsL_law := by decide +kernel
theorem sk_w2 : Cond.initialized "java/lang/IndexOutOfBoundsException" ∈ wsL_law := by decide +kernel
theorem sk_w3 : Cond.classLink RL 110 "java/lang/IndexOutOfBoundsException" ∈ wsL_law := by decide +kernel
theorem sk_w4 : Cond.castable "java/lang/IndexOutOfBoundsException" "java/lang/IndexOutOfBoundsException" ∈ sn_nw := by decide +kernel
theorem sk_as2 {p : Nat} {z : Int} (h0 : 0 ≤ z) (h8 : z < 8) : ∀ v ∈ [sn_r p, sn_i z], sn_wf v := fun v hv => by
  simp only [List.mem_cons, List.not_mem_nil, or_false] at hv
  rcases hv with rfl | rfl
  · trivial
  · exact ⟨by omega, by omega⟩
theorem sk_as3 {p : Nat} {z : Int} (h0 : 0 ≤ z) (h8 : z < 8) : ∀ v ∈ [sn_r p, sn_i z, sn_i 3], sn_wf v := fun v hv => by
  simp only [List.mem_cons, List.not_mem_nil, or_false] at hv
  rcases hv with rfl | rfl | rfl
  · trivial
  · exact ⟨by omega, by omega⟩
  · exact ⟨by omega, by omega⟩
/-- needSong throws -/
theorem sk_nS {G : sn_P} {l : Launch} {h : sn_H} {p pl ps pi : Nat} {n z : Int} (hl : l.stackTraces = false) (hc : sk_hc h p pl ps pi n z) : vx_Met l (sn_y 76) (sn_wj 76) (sn_room 76 1 6) (va_Pc ([sn_r p, sn_i z].map (sn_tr G)) (sn_PcU G h)) (fun _ _ _ _ => False) (sk_XC G (sn_pu h 103 6 (fun _ => sn_n))) 1 6 (sn_A G) := by
  obtain ⟨e1, e2, e3, e4, ⟨a1, a2, a3⟩, -, ⟨c1, c2, c3⟩, hix, hz, -, hz8, e5⟩ := hc
  refine vx_ofW (cc := sn_bc 76) (maxL := sn_ml 76) (ret := sn_rt 76) (ws' := wsL_law) (by rw [(sn_ycls 76 (by decide)).1]; exact sn_cn_plain1 _ (by decide)) (by show sn_cw 76 :: wsL_law = _; unfold sn_cw; rw [if_neg (by decide)]) (fun p' e s m args below meth c s₁ B hml ht hv => ?_)
  obtain ⟨-, X, ls, el, S⟩ := sk_entryX (by decide) (by show 2 ≤ 2; decide) (sk_as2 hz hz8) (Or.inr (fun v hv => by
    simp only [List.mem_cons, List.not_mem_nil, or_false] at hv
    rcases hv with rfl | rfl <;> rfl)) B hml hv
  rw [el]
  have t : sk_To G l 76 h 0 (sn_ent 76 [sn_r p, sn_i z]) [] 22 [sn_r p, sn_i z] [] := by
    show sk_To G l 76 h 0 [sn_r p, sn_i z] [] 22 [sn_r p, sn_i z] []
    refine sk_t_il sn_bc_76 dX9_needSong_0 rfl ?_
    refine sk_t_ic sn_bc_76 dX9_needSong_1 rfl ?_
    refine sk_t_bp sn_bc_76 dX9_needSong_2 rfl ?_
    refine sk_t_invS (r1 := some (sn_i 1)) sn_bc_76 dX9_needSong_4 sn_oc_76 sn_px_9_103 sn_ps_9_103 rfl (sk_mW (z := z) (a := 0) (b := 7) hz (by omega) (by omega) (by omega)) ?_
    refine sk_t_if0 (tt := 22) sn_bc_76 dX9_needSong_7 rfl (by decide) ?_
    refine sk_t_al sn_bc_76 dX9_needSong_10 rfl ?_
    refine sk_t_get sn_bc_76 dX9_needSong_11 sn_oc_76 sn_pf_9_42 a1 a2 a3 e2 ?_
    refine sk_t_get sn_bc_76 dX9_needSong_14 sn_oc_76 sn_pf_9_157 c1 c2 c3 e4 ?_
    refine sk_t_il sn_bc_76 dX9_needSong_17 rfl ?_
    refine sk_t_bald sn_bc_76 dX9_needSong_18 hix e5 ?_
    refine sk_t_if0 (tt := 33) sn_bc_76 dX9_needSong_19 rfl (by decide) ?_
    exact .rf
  refine sk_simTo t X (Nat.zero_le _) (Nat.zero_le _) (fun H' locs' ls' S' => ?_) S
  obtain ⟨x1, x2, x3, x4, x5, x6, x7, x8, x9, x10, x11, x12, x13⟩ := X
  obtain ⟨w1, w2, w3, w4, w5, w6, w7, sa, w8, w9⟩ := x10
  exact sk_throwSW (cc := sn_bc 76) (own := RX9) (cls := "java/lang/IndexOutOfBoundsException") (text := "there is no such song in this year") (names := ["java/lang/RuntimeException", "java/lang/Exception"]) (ik := 201) (is := 441) (ic := 205) (sa := sa) (A := sn_A G) x1 x2 hl x6 (by decide +kernel) (by decide +kernel) (x8 _ sk_w1) (x8 _ sk_w2) w8
    (vx_hat (B := sn_nw) (fun w hw => x8 w (sk_at_good w hw)) (fun w hw => hw) (fun w hw => va_any (sk_w_on (sn_nw_dc w hw)) (w9 w hw))) sk_at_ot w4 w5 S'.2.1 (S'.2.2.1.1.1.trans x3.symm)
    (by rw [sn_bc_76]; exact dX9_needSong_22) (by rw [sn_bc_76]; exact dX9_needSong_25) (by rw [sn_bc_76]; exact dX9_needSong_26) (by rw [sn_bc_76]; exact dX9_needSong_29) (by rw [sn_bc_76]; exact dX9_needSong_32)
    (fun x hx => (ht x hx).elim) (show (2 : Nat) + 3 < 6 from by decide) (show (0 : Nat) + (13 * (2 + 1) + 43) ≤ 90 from by decide) (Nat.le_refl _) (Nat.le_refl _) x5
    (fun t hA hzz hk => ⟨rfl, sk_Rp_new S'.1 hzz hk, Nat.le_trans S'.2.1.1 (by omega), fun q q1 q2 => (hk q (Nat.lt_of_lt_of_le q1 S'.2.1.1)).trans (S'.2.1.2.1 q q1 q2)⟩) S'.2.1.2.2 (Nat.le_refl _) (Nat.le_refl _)
/-- a call of what throws -/
theorem sk_callX {G : sn_P} {p : Program} {l : Launch} {e : Env} {R : Room} {s : State} {m : MethodId} {args : Array Value} {below : List Frame} {meth : Method} {c : Code} {H : Heap} {locs : List Loc} {cells slots : Nat} {Q : State → Prop} {M pc i j b mc ms : Nat} {ls : Array Slot} {lv st : List sn_V} {h h1 : sn_H} (hd : decode (sn_bc M) pc = .ok (.invokevirtual i, 3)) (hp : sn_pv (sn_oc M) i = some (j, b)) (hg : sn_do M pc (.invokevirtual i) lv st h = some (.inr (.inr (j, (st.take (b + 1)).reverse, pc + 3, lv, st.drop (b + 1), h)))) (hM : vx_Met l (sn_y j) (sn_wj j) (sn_room j mc ms) (va_Pc ((st.take (b + 1)).reverse.map (sn_tr G)) (sn_PcU G h)) (fun _ _ _ _ => False) (sk_XC G h1) mc ms (sn_A G)) (X : sn_Cx G M p R s m args meth c) (S : sn_Sr G M s H locs ls lv st h) (hc : cells + mc ≤ R.cells) (hs : slots + ms ≤ R.slots)
    (kx : ∀ (H' : Heap) (locs' : List Loc) (q : Addr) (ce : Cell), sn_Rp G h1 H' → va_S (sn_A G) s.heap H' locs' → H'[q]? = some ce → ce.vm = .none → s.vm.findClass "java/lang/IndexOutOfBoundsException" = some ce.cls → vx_W p l e R s m args below meth c H' locs' (cells + mc) (slots + ms) Q (F0 m pc ls ((st.drop (b + 1)).map (sn_tr G))) q) :
    W p l e R s m args below meth c H locs cells slots Q (F0 m pc ls (st.map (sn_tr G))) := by
  obtain ⟨x1, x2, x3, x4, x5, x6, x7, x8, x9, x10, x11, x12, x13⟩ := X
  obtain ⟨a, c1, c2, c3, c4, c5, c6, -, -, hk⟩ := sn_callinv hg
  dsimp only at c1 c2 c5 c6 hk
  rcases hk with ⟨i', b', q, r, hi, hp', hab, hdr, q2, q1, ht⟩ | ⟨i', hi, -⟩ | ⟨i', b', q, r, hi, -⟩
  · cases hi
    rw [hp] at hp'
    cases hp'
    subst hab
    have hPc : ∀ U : State, U.heap = H → s.WarmedH U.vm → sn_PcU G h U := fun U hU hW => ⟨by rw [hU]; exact S.1, va_K.moved hW.alike x9, x10.to S.2.1 hW hU, by rw [hU]; exact Nat.le_trans x13 S.2.1.1⟩
    have hroom : 2 * (F0 m pc ls (st.map (sn_tr G))).monitorRoom + (((st.drop (b + 1)).map (sn_tr G)).map fun v => v.category).sum ≤ 8 := by
      have := sn_catsum (G := G) (st.drop (b + 1))
      exact lv_room (by omega)
    have hRm : (sn_room j mc ms).frames + 1 ≤ R.frames ∧ 8 + (sn_ml j + 11) + (sn_room j mc ms).locals ≤ R.locals := ⟨Nat.le_trans c1 x11, by show 8 + (sn_ml j + 11) + sn_lo j ≤ _; omega⟩
    have hlt : b < st.length := by omega
    have hb : st[b]? = some (sn_r q) := by
      have := congrArg (fun l => l[0]?) hdr
      simpa using this
    have e1 : st.take (b + 1) = st.take b ++ [sn_r q] := by rw [List.take_succ, hb]; rfl
    have e2 : st.drop (b + 1) = r := by rw [← List.tail_drop, hdr]; rfl
    have s1 : (st.take (b + 1)).reverse.map (sn_tr G) = Value.ref (sn_ad G q) :: ((st.take b).reverse.map (sn_tr G)) := by rw [e1, List.reverse_append]; rfl
    have s2 : st.map (sn_tr G) = ((st.take b).reverse.map (sn_tr G)).reverse ++ Value.ref (sn_ad G q) :: (st.drop (b + 1)).map (sn_tr G) := by
      rw [← List.map_reverse, List.reverse_reverse, e2]
      conv => lhs; rw [← List.take_append_drop b st, hdr]
      rw [List.map_append]
      rfl
    have s3 : ((st.take b).reverse.map (sn_tr G)).length = b := by
      rw [List.length_map, List.length_reverse, List.length_take]
      omega
    obtain ⟨v1, v2, v3, v4, v5, v6, v7, v8, v9⟩ := sn_pvl_ok _ (sn_find (o := sn_oc M) (i := i) (x := (j, b)) hp)
    dsimp only at v1 v2 v3 v4 v5 v6 v7 v8 v9
    rw [s1] at hM
    obtain ⟨-, cell, g1, g2, g3, -⟩ := (S.1.ge q2 q1).obj v3 ht
    have hfc := (x9.1 _ _ (sn_cls_at v3)).2.1
    have hr := vx_runV (C := (sn_y j).cls) ⟨x1, x2, x3, x6, x8⟩ hM
      (cwV (bytes := sn_bc j) (maxL := sn_ml j) (ret := sn_rt j) b x8 (sn_sub (fun w hw => by
        unfold wsV at hw
        simp only [List.cons_append, List.nil_append, List.mem_cons] at hw
        rcases hw with rfl | rfl | rfl | rfl | rfl | hw
        · exact v6
        · exact v7
        · exact v8
        · exact v9
        · exact sn_cw_in v1
        · exact hw)) (by show sn_cw j :: wsL_law = _; unfold sn_cw; rw [if_neg v2]) rfl rfl ⟨rfl, (sn_plain j v1).1, (sn_plain j v1).2, v5⟩ hRm)
      ⟨sn_blind G h _, ⟨cell, g1, by rw [g3]; rfl, by rw [v4, g2]; exact hfc⟩, fun U hU hW => ⟨rfl, hPc U hU hW⟩⟩ (g := F0 m pc ls (st.map (sn_tr G))) (rest := (st.drop (b + 1)).map (sn_tr G)) (locs := locs) (cells := cells) (slots := slots) (l := l) (e := e) (below := below) (meth := meth) (p := p) rfl s3 S.2.2.1.1.1 s2 hroom hd ⟨hc, hs⟩
    intro T hT XT
    rcases hr T hT XT with ⟨v, st₀, t, T', L, h0, X', hL, e1, e2, hF, st⟩ | ⟨q9, st₀, t, T', L, E, ce, h0, X', hL, e1, e2, ⟨hE, hRp, hz, hk⟩, hce, hcv, hcl, st⟩
    · exact hF.elim
    · subst hE
      rw [h0] at hz hk
      obtain ⟨t2, a1, b1⟩ := kx T'.heap (locs ++ L) q9 ce (by rw [e1]; exact hRp)
        ⟨Nat.le_trans S.2.1.1 (by rw [e1]; exact hz), fun q h1 h2 => by rw [e1, hk q (Nat.lt_of_lt_of_le h1 S.2.1.1) h2]; exact S.2.1.2.1 q h1 h2, fun q hq => by
          rcases List.mem_append.mp hq with h | h
          · exact S.2.1.2.2 q h
          · exact hL q h⟩ (by rw [e1]; exact hce) hcv hcl T' rfl X'
      exact ⟨t2, st.trans a1, b1⟩
  · cases hi
  · cases hi
/-- ofSong throws -/
theorem sk_oS {G : sn_P} {l : Launch} {h : sn_H} {p pl ps pi : Nat} {n z : Int} (hl : l.stackTraces = false) (hc : sk_hc h p pl ps pi n z) : vx_Met l (sn_y 75) (sn_wj 75) (sn_room 75 1 6) (va_Pc ([sn_r p, sn_i z, sn_i 3].map (sn_tr G)) (sn_PcU G h)) (fun _ _ _ _ => False) (sk_XC G (sn_pu h 103 6 (fun _ => sn_n))) 1 6 (sn_A G) := by
  have hc0 := hc
  obtain ⟨e1, e2, e3, e4, ⟨a1, a2, a3⟩, -, ⟨c1, c2, c3⟩, hix, hz, -, hz8, e5⟩ := hc0
  refine vx_ofW (cc := sn_bc 75) (maxL := sn_ml 75) (ret := sn_rt 75) (ws' := wsL_law) (by rw [(sn_ycls 75 (by decide)).1]; exact sn_cn_plain1 _ (by decide)) (by show sn_cw 75 :: wsL_law = _; unfold sn_cw; rw [if_neg (by decide)]) (fun p' e s m args below meth c s₁ B hml ht hv => ?_)
  obtain ⟨-, X, ls, el, S⟩ := sk_entryX (by decide) (by show 3 ≤ 3; decide) (sk_as3 hz hz8) (Or.inr (fun v hv => by
    simp only [List.mem_cons, List.not_mem_nil, or_false] at hv
    rcases hv with rfl | rfl | rfl <;> rfl)) B hml hv
  rw [el]
  have hn : n ≤ 2147483647 := by
    have := S.1.2.2.2.1 pl 0
    rw [e3] at this
    exact this.2
  have t : sk_To G l 75 h 0 (sn_ent 75 [sn_r p, sn_i z, sn_i 3]) [] 7 [sn_r p, sn_i z, sn_i 3] [sn_i z, sn_r p] := by
    show sk_To G l 75 h 0 [sn_r p, sn_i z, sn_i 3] [] 7 [sn_r p, sn_i z, sn_i 3] [sn_i z, sn_r p]
    refine sk_t_al sn_bc_75 dX9_ofSong_0 rfl ?_
    refine sk_t_il sn_bc_75 dX9_ofSong_1 rfl ?_
    refine sk_t_invV (r1 := none) (q := p) (r := []) sn_bc_75 dX9_ofSong_2 sn_oc_75 sn_pv_9_152 rfl a1 a2 a3 rfl (sk_mL hc hn) ?_
    refine sk_t_al sn_bc_75 dX9_ofSong_5 rfl ?_
    refine sk_t_il sn_bc_75 dX9_ofSong_6 rfl ?_
    exact .rf
  refine sk_simTo t X (Nat.zero_le _) (Nat.zero_le _) (fun H' locs' ls' S' => ?_) S
  refine sk_callX (M := 75) (b := 1) (h1 := sn_pu h 103 6 (fun _ => sn_n)) (by rw [sn_bc_75]; exact dX9_ofSong_7) sn_pv_9_222 (sk_invV_do (q := p) (r := []) sn_oc_75 sn_pv_9_222 rfl a1 a2 a3 rfl) (sk_nS hl hc) X S' (Nat.le_refl _) (Nat.le_refl _) (fun H1 locs1 q ce hRp hS hce hcv hcl => ?_)
  exact vx_out (fun x hx => (ht x hx).elim) X.2.2.2.2.1 hce hcv hcl (fun t hT _ => ⟨rfl, by rw [hT]; exact hRp, hS.F hT⟩) hS.2.2 (Nat.le_refl _) (Nat.le_refl _)
/-- has answers no -/
theorem sk_Has {G : sn_P} {l : Launch} (hl : l.stackTraces = false) : sn_Has G l := by
  intro as h o hg
  obtain ⟨p, pl, ps, pi, n, z, rfl, rfl, hc⟩ := sk_hs_inv hg
  obtain ⟨e1, e2, e3, e4, ⟨a1, a2, a3⟩, -, ⟨c1, c2, c3⟩, hix, hz, -, hz8, e5⟩ := id hc
  show sn_MetJ G l 88 [sn_r p, sn_i z] h (some (sn_i 0)) (sn_pu h 103 6 (fun _ => sn_n))
  unfold sn_MetJ
  rw [show (sn_pu h 103 6 (fun _ => sn_n)).1 - h.1 = 1 by show h.1 + 1 - h.1 = 1; omega, show (sn_pu h 103 6 (fun _ => sn_n)).2.1 - h.2.1 = 6 by show h.2.1 + 6 - h.2.1 = 6; omega]
  refine va_MetW (hh := [(0, 14, 15, 110)]) (ws' := wsL_law) (cc := sn_bc 88) (maxL := sn_ml 88) (ret := sn_rt 88) (by rw [(sn_ycls 88 (by decide)).1]; exact sn_cn_plain1 _ (by decide)) (by show sn_cw 88 :: wsL_law = _; unfold sn_cw; rw [if_pos rfl]) (fun p' e s m args below meth c s₁ B hml hv => ?_)
  obtain ⟨-, X, ls, el, S⟩ := sk_entryX (by decide) (by show 2 ≤ 3; decide) (sk_as2 hz hz8) (Or.inr (fun v hv => by
    simp only [List.mem_cons, List.not_mem_nil, or_false] at hv
    rcases hv with rfl | rfl <;> rfl)) B hml hv
  have hts := X.2.2.2.2.2.2.2.1
  have htb : c.exceptionTable.toList = tableOf [(0, 14, 15, 110)] := vx_table (x := sn_y 88) B (hts _ sn_code_88)
  rw [el]
  have t : sk_To G l 88 h 0 (sn_ent 88 [sn_r p, sn_i z]) [] 3 [sn_r p, sn_i z, sn_u] [sn_i 3, sn_i z, sn_r p] := by
    show sk_To G l 88 h 0 [sn_r p, sn_i z, sn_u] [] 3 [sn_r p, sn_i z, sn_u] [sn_i 3, sn_i z, sn_r p]
    refine sk_t_al sn_bc_88 dL_has_0 rfl ?_
    refine sk_t_il sn_bc_88 dL_has_1 rfl ?_
    refine sk_t_ic sn_bc_88 dL_has_2 rfl ?_
    exact .rf
  refine sk_simTo t X (Nat.zero_le _) (Nat.zero_le _) (fun H' locs' ls' S' => ?_) S
  refine sk_callX (M := 88) (b := 2) (h1 := sn_pu h 103 6 (fun _ => sn_n)) (by rw [sn_bc_88]; exact dL_has_3) sn_pv_10_54 (sk_invV_do (q := p) (r := []) sn_oc_88 sn_pv_10_54 rfl a1 a2 a3 rfl) (sk_oS hl hc) X S' (Nat.le_refl _) (Nat.le_refl _) (fun H1 locs1 q ce hRp hS hce hcv hcl => ?_)
  obtain ⟨x1, x2, x3, x4, x5, x6, x7, x8, x9, x10, x11, x12, x13⟩ := id X
  obtain ⟨w1, w2, w3, w4, w5, w6, w7, sa, w8, w9⟩ := x10
  refine vx_catch (own := RL) (name := "java/lang/IndexOutOfBoundsException") (E := "java/lang/IndexOutOfBoundsException") (ce := ce) x6 [] ⟨0, 14, 15, 110⟩ [] htb (fun z hz => nomatch hz) rfl (by decide) (hts _ sk_w3) (va_any rfl (w9 _ sk_w4)) hce hcv hcl ?_
  refine lv_astore_n x1 x2 (by rw [sn_bc_88]; exact dL_has_15) rfl S'.2.2.1.1 (by decide) rfl (fun ls2 hl2 => ?_)
  have S2 : sn_Sr G 88 s H1 locs1 ls2 [sn_u, sn_u, sn_u] [] (sn_pu h 103 6 (fun _ => sn_n)) := by
    have hu : ∀ v ∈ [sn_u, sn_u, sn_u], v = sn_u := fun v hv => by
      simp only [List.mem_cons, List.not_mem_nil, or_false, or_self] at hv
      exact hv
    refine ⟨hRp, hS, ⟨⟨hl2.1, hl2.2.1, fun q hq => ?_⟩, rfl, fun v hv => by rw [hu v hv]; trivial, fun _ v hv => by rw [hu v hv]; rfl⟩, fun v hv => nomatch hv⟩
    obtain ⟨v, hv, hne, -⟩ := (sn_lvl_mem G _ q).mp hq
    exact absurd (hu v (List.mem_of_getElem? hv)) hne
  have t2 : sk_To G l 88 (sn_pu h 103 6 (fun _ => sn_n)) 16 [sn_u, sn_u, sn_u] [] 17 [sn_u, sn_u, sn_u] [sn_i 0] := by
    refine sk_t_ic sn_bc_88 dL_has_16 rfl ?_
    exact .rf
  exact sk_simTo t2 X (Nat.le_refl _) (Nat.le_refl _) (fun H3 locs3 ls3 S3 => (sn_retW (by rw [sn_bc_88]; exact dL_has_17) (Or.inl rfl) (o := (some (sn_i 0), sn_pu h 103 6 (fun _ => sn_n))) rfl X S3).2) S2
