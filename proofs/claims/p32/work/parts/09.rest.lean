/-! ===== what is left of the steps that go on: constants of the pool, switches, Math, Object.<init> ===== -/
section SNR
variable {G : sn_P} {p : Program} {l : Launch} {e : Env} {R : Room} {s : State} {m : MethodId} {args : Array Value} {below : List Frame} {meth : Method} {c : Code} {H : Heap} {locs : List Loc} {cells slots : Nat} {Q : State → Prop} {M pc : Nat} {ls : Array Slot} {lv r st : List sn_V} {h : sn_H}
theorem sn_ld_eq {k : Nat} {ok : sn_V → Bool} {d : Nat × List sn_V × List sn_V × sn_H} (hg : sn_ld pc lv st h k ok = some (.inl d)) : ∃ v, lv[k]? = some v ∧ ok v = true ∧ d = (pc, lv, v :: st, h) := by
  unfold sn_ld at hg
  cases hv : lv[k]? with
  | none => rw [hv] at hg; cases hg
  | some v =>
    rw [hv] at hg
    dsimp only at hg
    by_cases ho : ok v = true
    · rw [if_pos ho] at hg
      cases hg
      exact ⟨v, rfl, ho, rfl⟩
    · rw [if_neg ho] at hg
      cases hg
theorem sn_so_eq {k : Nat} {v : sn_V} {d : Nat × List sn_V × List sn_V × sn_H} (hg : sn_so M pc lv st h k v = some (.inl d)) : k < lv.length ∧ (sn_hl M && decide (0 < k) && sn_two (lv.getD (k - 1) sn_u)) = false ∧ d = (pc, lv.set k v, st, h) := by
  unfold sn_so at hg
  by_cases h1 : k < lv.length
  · rw [if_pos h1] at hg
    by_cases h2 : (sn_hl M && decide (0 < k) && sn_two (lv.getD (k - 1) sn_u)) = true
    · rw [if_pos h2] at hg
      cases hg
    · rw [if_neg h2] at hg
      cases hg
      exact ⟨h1, by simpa using h2, rfl⟩
  · rw [if_neg h1] at hg
    cases hg
theorem sn_so2_eq {k : Nat} {v : sn_V} {d : Nat × List sn_V × List sn_V × sn_H} (hg : sn_so2 M pc lv st h k v = some (.inl d)) : sn_hl M = true ∧ k + 1 < lv.length ∧ (decide (0 < k) && sn_two (lv.getD (k - 1) sn_u)) = false ∧ d = (pc, (lv.set k v).set (k + 1) sn_u, st, h) := by
  unfold sn_so2 at hg
  by_cases h1 : (sn_hl M && decide (k + 1 < lv.length)) = true
  · rw [if_pos h1] at hg
    by_cases h2 : (decide (0 < k) && sn_two (lv.getD (k - 1) sn_u)) = true
    · rw [if_pos h2] at hg
      cases hg
    · rw [if_neg h2] at hg
      cases hg
      rw [Bool.and_eq_true, decide_eq_true_eq] at h1
      exact ⟨h1.1, h1.2, by simpa using h2, rfl⟩
  · rw [if_neg h1] at hg
    cases hg
theorem sn_k_ldc {i : Nat} {z : Int} (X : sn_Cx G M p R s m args meth c) (hd : decode (sn_bc M) pc = .ok (.ldc i, 2)) (S : sn_Sr G M s H locs ls lv r h) (hp : sn_pi (sn_oc M) i = some z) (hn : sn_inR z = true) (kk : sn_K G M p l e R s m args below meth c cells slots Q h (pc + 2, lv, sn_i z :: r, h)) :
    W p l e R s m args below meth c H locs cells slots Q (F0 m pc ls (r.map (sn_tr G))) := by
  obtain ⟨x1, x2, x3, x4, x5, x6, x7, x8, x9, x10, x11, x12, x13⟩ := X
  have h1 := sn_pil_ok _ (sn_find (o := sn_oc M) (i := i) (x := z) hp)
  refine lv_ldc (v := Int32.ofInt z) x1 x2 x6 (x8 _ h1) hd ?_
  exact kk.go S.1 S.2.1 S.2.2.1 (sn_wf1 (sn_inR_iff hn) S.2.2.2)
theorem sn_k_ldc2 {i : Nat} {z : Int} (X : sn_Cx G M p R s m args meth c) (hd : decode (sn_bc M) pc = .ok (.ldc2_w i, 3)) (S : sn_Sr G M s H locs ls lv r h) (hp : sn_pl (sn_oc M) i = some z) (hn : sn_wl z = z) (kk : sn_K G M p l e R s m args below meth c cells slots Q h (pc + 3, lv, sn_l z :: r, h)) :
    W p l e R s m args below meth c H locs cells slots Q (F0 m pc ls (r.map (sn_tr G))) := by
  obtain ⟨x1, x2, x3, x4, x5, x6, x7, x8, x9, x10, x11, x12, x13⟩ := X
  have h1 := sn_pll_ok _ (sn_find (o := sn_oc M) (i := i) (x := z) hp)
  refine lv_ldc2 (v := Int64.ofInt z) x1 x2 x6 (x8 _ h1) hd ?_
  exact kk.go S.1 S.2.1 S.2.2.1 (sn_wf1 (v := sn_l z) hn S.2.2.2)
theorem sn_k_swO {dflt lo hi x : Int} {offs : Array Int} {len : Nat} (X : sn_Cx G M p R s m args meth c) (hd : decode (sn_bc M) pc = .ok (.tableswitch dflt lo hi offs, len)) (S : sn_Sr G M s H locs ls lv (sn_i x :: r) h) (hx : x < lo ∨ hi < x) (ht : (pc : Int) + dflt = ((((pc : Int) + dflt).toNat : Nat) : Int)) (kk : sn_K G M p l e R s m args below meth c cells slots Q h (((pc : Int) + dflt).toNat, lv, r, h)) :
    W p l e R s m args below meth c H locs cells slots Q (F0 m pc ls ((sn_i x :: r).map (sn_tr G))) := by
  have e : (Int32.ofInt x).toInt = x := sn_to (sn_wfH S.2.2.2)
  refine lv_tableOut (x := Int32.ofInt x) X.1 X.2.1 hd (by rw [e]; exact hx) ht ?_
  exact kk.go S.1 S.2.1 S.2.2.1 (sn_wfT S.2.2.2)
theorem sn_k_swI {dflt lo hi x off : Int} {offs : Array Int} {len : Nat} (X : sn_Cx G M p R s m args meth c) (hd : decode (sn_bc M) pc = .ok (.tableswitch dflt lo hi offs, len)) (S : sn_Sr G M s H locs ls lv (sn_i x :: r) h) (h1 : ¬ x < lo) (h2 : ¬ hi < x) (ho : offs[(x - lo).toNat]? = some off) (ht : (pc : Int) + off = ((((pc : Int) + off).toNat : Nat) : Int)) (kk : sn_K G M p l e R s m args below meth c cells slots Q h (((pc : Int) + off).toNat, lv, r, h)) :
    W p l e R s m args below meth c H locs cells slots Q (F0 m pc ls ((sn_i x :: r).map (sn_tr G))) := by
  have e : (Int32.ofInt x).toInt = x := sn_to (sn_wfH S.2.2.2)
  refine lv_tableIn (x := Int32.ofInt x) X.1 X.2.1 hd (by rw [e]; exact h1) (by rw [e]; exact h2) (by rw [e]; exact ho) ht ?_
  exact kk.go S.1 S.2.1 S.2.2.1 (sn_wfT S.2.2.2)
theorem sn_catsum (r : List sn_V) : ((r.map (sn_tr G)).map fun v => v.category).sum ≤ 2 * r.length := by
  induction r with
  | nil => exact Nat.le_refl _
  | cons v r ih =>
    rw [List.map_cons, List.map_cons, List.sum_cons, List.length_cons, sn_cat]
    split <;> omega
theorem sn_call_no {j a pc' : Nat} {d : Nat × List sn_V × List sn_V × sn_H} (hg : sn_call M j a pc' lv st h = some (.inl d)) : False := by
  unfold sn_call at hg
  split at hg <;> cases hg
theorem sn_not_next_v {i : Nat} {d : Nat × List sn_V × List sn_V × sn_H} (hg : sn_do M pc (.invokevirtual i) lv st h = some (.inl d)) : False := by
  have hg : (match sn_pv (sn_oc M) i with | some (j, a) => (match st.drop a with | .inr (.inl (some p)) :: _ => if decide (2 ≤ p) && decide (p < h.1) && decide ((h.2.2.1 p).1 = sn_oc j) then sn_call M j (a + 1) (pc + 3) lv st h else none | _ => none) | none => none : Option sn_O) = some (.inl d) := hg
  cases hp : sn_pv (sn_oc M) i with
  | none => rw [hp] at hg; cases hg
  | some z =>
    rw [hp] at hg
    obtain ⟨j, a⟩ := z
    dsimp only at hg
    split at hg
    · split at hg
      · exact sn_call_no hg
      · cases hg
    · cases hg
theorem sn_next_s {i len : Nat} {d : Nat × List sn_V × List sn_V × sn_H} (hl : len = 3) (hd : decode (sn_bc M) pc = .ok (.invokestatic i, len)) (hg : sn_do M pc (.invokestatic i) lv st h = some (.inl d)) :
    (h.1 ≤ d.2.2.2.1 ∧ h.2.1 ≤ d.2.2.2.2.1) ∧ ∀ {p : Program} {l : Launch} {e : Env} {R : Room} {s : State} {m : MethodId} {args : Array Value} {below : List Frame} {meth : Method} {c : Code} {H : Heap} {locs : List Loc} {cells slots : Nat} {Q : State → Prop} {ls : Array Slot} (X : sn_Cx G M p R s m args meth c) (S : sn_Sr G M s H locs ls lv st h) (hc : cells + (d.2.2.2.1 - h.1) ≤ R.cells) (hs : slots + (d.2.2.2.2.1 - h.2.1) ≤ R.slots) (kk : sn_K G M p l e R s m args below meth c cells slots Q h d), W p l e R s m args below meth c H locs cells slots Q (F0 m pc ls (st.map (sn_tr G))) := by
  subst hl
  unfold sn_do at hg
  dsimp only at hg
  have Z : ∀ x : sn_O, (none : Option sn_O) = some x → False := fun _ h => nomatch h
  cases hp : sn_px (sn_oc M) i with
  | none =>
    rw [hp] at hg
    dsimp only at hg
    cases hq : sn_ps (sn_oc M) i with
    | none => rw [hq] at hg; cases hg
    | some z => rw [hq] at hg; exact (sn_call_no hg).elim
  | some k =>
    rw [hp] at hg
    obtain ⟨k3, hw⟩ := sn_pxl_ok _ (sn_find (o := sn_oc M) (i := i) (x := k) hp)
    dsimp only at k3 hw
    obtain ⟨⟨w1, w2, w3⟩, w4, w5, w6, w7⟩ := sn_ws_math
    rcases (show k = 0 ∨ k = 1 ∨ k = 2 by omega) with rfl | rfl | rfl
    · rcases st with _ | ⟨x | x, r⟩ <;> first | (exact (Z _ hg).elim) | skip
      by_cases hv : (decide (1 ≤ sn_fr M) && decide (21 ≤ sn_lo M) && decide (r.length ≤ 4)) = true
      · replace hg := (if_pos hv).symm.trans hg
        cases hg
        simp only [Bool.and_eq_true, decide_eq_true_eq] at hv
        refine ⟨⟨Nat.le_refl _, Nat.le_refl _⟩, fun X S hc hs kk => ?_⟩
        obtain ⟨x1, x2, x3, x4, x5, x6, x7, x8, x9, x10, x11, x12, x13⟩ := X
        have hx : -2147483648 ≤ x ∧ x ≤ 2147483647 := sn_wfH S.2.2.2
        have hsum := sn_catsum (G := G) r
        refine va_mabs (x := Int32.ofInt x) x1 x2 (by rw [S.2.2.1.1.1]; exact x3) x6 (x8 _ hw) (x8 _ w1) (x8 _ w4) (x8 _ w5) (by omega) (by omega) (by simpa using hc) (by simpa using hs) hd ?_
        have k := kk.go (locs := _) S.1 S.2.1 S.2.2.1 (sn_wf1 (v := sn_i _) (sn_wr_in _) (sn_wfT S.2.2.2))
        have e : (if 0 ≤ Int32.ofInt x then Int32.ofInt x else 0 - Int32.ofInt x) = Int32.ofInt (sn_wr (if 0 ≤ x then x else 0 - x)) := by
          rw [sn_wr_eq]
          have h0 : (0 ≤ Int32.ofInt x) ↔ 0 ≤ x := sn_le_iff (x := 0) (by decide) hx
          by_cases h9 : 0 ≤ x
          · rw [if_pos h9, if_pos (h0.mpr h9)]
          · rw [if_neg h9, if_neg (fun z => h9 (h0.mp z)), Int32.ofInt_sub]
            rfl
        rw [e]
        exact k
      · replace hg := (if_neg hv).symm.trans hg; exact (Z _ hg).elim
    · rcases st with _ | ⟨y | y, _ | ⟨x | x, r⟩⟩ <;> first | (exact (Z _ hg).elim) | skip
      by_cases hv : (decide (1 ≤ sn_fr M) && decide (21 ≤ sn_lo M) && decide (r.length ≤ 4)) = true
      · replace hg := (if_pos hv).symm.trans hg
        cases hg
        simp only [Bool.and_eq_true, decide_eq_true_eq] at hv
        refine ⟨⟨Nat.le_refl _, Nat.le_refl _⟩, fun X S hc hs kk => ?_⟩
        obtain ⟨x1, x2, x3, x4, x5, x6, x7, x8, x9, x10, x11, x12, x13⟩ := X
        have hy : -2147483648 ≤ y ∧ y ≤ 2147483647 := sn_wfH S.2.2.2
        have hx : -2147483648 ≤ x ∧ x ≤ 2147483647 := sn_wfH (sn_wfT S.2.2.2)
        have hsum := sn_catsum (G := G) r
        refine va_mmax (x := Int32.ofInt x) (y := Int32.ofInt y) x1 x2 (by rw [S.2.2.1.1.1]; exact x3) x6 (x8 _ hw) (x8 _ w2) (x8 _ w4) (x8 _ w6) (by omega) (by omega) (by simpa using hc) (by simpa using hs) hd ?_
        have k := kk.go (locs := _) S.1 S.2.1 S.2.2.1 (sn_wf1 (v := sn_i (if x < y then y else x)) (by show _ ∧ _; split <;> omega) (sn_wfT (sn_wfT S.2.2.2)))
        have e : (if Int32.ofInt x < Int32.ofInt y then Int32.ofInt y else Int32.ofInt x) = Int32.ofInt (if x < y then y else x) := by
          by_cases h9 : x < y
          · rw [if_pos h9, if_pos ((sn_lt_iff hx hy).mpr h9)]
          · rw [if_neg h9, if_neg (fun z => h9 ((sn_lt_iff hx hy).mp z))]
        rw [e]
        exact k
      · replace hg := (if_neg hv).symm.trans hg; exact (Z _ hg).elim
    · rcases st with _ | ⟨y | y, _ | ⟨x | x, r⟩⟩ <;> first | (exact (Z _ hg).elim) | skip
      by_cases hv : (decide (1 ≤ sn_fr M) && decide (21 ≤ sn_lo M) && decide (r.length ≤ 4)) = true
      · replace hg := (if_pos hv).symm.trans hg
        cases hg
        simp only [Bool.and_eq_true, decide_eq_true_eq] at hv
        refine ⟨⟨Nat.le_refl _, Nat.le_refl _⟩, fun X S hc hs kk => ?_⟩
        obtain ⟨x1, x2, x3, x4, x5, x6, x7, x8, x9, x10, x11, x12, x13⟩ := X
        have hy : -2147483648 ≤ y ∧ y ≤ 2147483647 := sn_wfH S.2.2.2
        have hx : -2147483648 ≤ x ∧ x ≤ 2147483647 := sn_wfH (sn_wfT S.2.2.2)
        have hsum := sn_catsum (G := G) r
        refine va_mmin (x := Int32.ofInt x) (y := Int32.ofInt y) x1 x2 (by rw [S.2.2.1.1.1]; exact x3) x6 (x8 _ hw) (x8 _ w3) (x8 _ w4) (x8 _ w7) (by omega) (by omega) (by simpa using hc) (by simpa using hs) hd ?_
        have k := kk.go (locs := _) S.1 S.2.1 S.2.2.1 (sn_wf1 (v := sn_i (if y < x then y else x)) (by show _ ∧ _; split <;> omega) (sn_wfT (sn_wfT S.2.2.2)))
        have e : (if Int32.ofInt y < Int32.ofInt x then Int32.ofInt y else Int32.ofInt x) = Int32.ofInt (if y < x then y else x) := by
          by_cases h9 : y < x
          · rw [if_pos h9, if_pos ((sn_lt_iff hy hx).mpr h9)]
          · rw [if_neg h9, if_neg (fun z => h9 ((sn_lt_iff hy hx).mp z))]
        rw [e]
        exact k
      · replace hg := (if_neg hv).symm.trans hg; exact (Z _ hg).elim
theorem sn_next_c {i len : Nat} {d : Nat × List sn_V × List sn_V × sn_H} (hl : len = 3) (hd : decode (sn_bc M) pc = .ok (.invokespecial i, len)) (hg : sn_do M pc (.invokespecial i) lv st h = some (.inl d)) :
    (h.1 ≤ d.2.2.2.1 ∧ h.2.1 ≤ d.2.2.2.2.1) ∧ ∀ {p : Program} {l : Launch} {e : Env} {R : Room} {s : State} {m : MethodId} {args : Array Value} {below : List Frame} {meth : Method} {c : Code} {H : Heap} {locs : List Loc} {cells slots : Nat} {Q : State → Prop} {ls : Array Slot} (X : sn_Cx G M p R s m args meth c) (S : sn_Sr G M s H locs ls lv st h) (hc : cells + (d.2.2.2.1 - h.1) ≤ R.cells) (hs : slots + (d.2.2.2.2.1 - h.2.1) ≤ R.slots) (kk : sn_K G M p l e R s m args below meth c cells slots Q h d), W p l e R s m args below meth c H locs cells slots Q (F0 m pc ls (st.map (sn_tr G))) := by
  subst hl
  have Z : ∀ x : sn_O, (none : Option sn_O) = some x → False := fun _ h => nomatch h
  cases hp : sn_pc (sn_oc M) i with
  | none =>
    unfold sn_do at hg
    dsimp only at hg
    rw [hp] at hg
    cases hg
  | some z =>
    obtain ⟨j, a⟩ := z
    by_cases hj : j = 200
    · subst hj
      unfold sn_do at hg
      dsimp only at hg
      rw [hp] at hg
      rcases st with _ | ⟨y | (_ | q) | y, r⟩ <;> first | (exact (Z _ hg).elim) | skip
      by_cases hv : (decide (2 ≤ q) && decide (q < h.1) && decide (1 ≤ sn_fr M) && decide (20 ≤ sn_lo M) && decide (r.length ≤ 4)) = true
      · replace hg := (if_pos hv).symm.trans hg
        cases hg
        simp only [Bool.and_eq_true, decide_eq_true_eq] at hv
        refine ⟨⟨Nat.le_refl _, Nat.le_refl _⟩, fun X S hc hs kk => ?_⟩
        obtain ⟨x1, x2, x3, x4, x5, x6, x7, x8, x9, x10, x11, x12, x13⟩ := X
        have hsum := sn_catsum (G := G) r
        have hw : Cond.methodLink (sn_cn (sn_oc M)) i objectInit ∈ wsL_law := by
          rcases sn_pcl_ok _ (sn_find (o := sn_oc M) (i := i) (x := (200, a)) hp) with h1 | h1
          · exact h1.2
          · exact absurd h1.1 (by dsimp only; decide)
        refine W.objInit x1 x2 x6 (x8 _ hw) (x8 _ sn_ws_obj.1) (x8 _ sn_ws_obj.2) rfl (by exact S.2.2.1.1.1.trans x3.symm) rfl hd (by omega) (by show 2 * 0 + _ + 12 ≤ _; omega) ?_
        exact kk.go S.1 S.2.1 S.2.2.1 (sn_wfT S.2.2.2)
      · replace hg := (if_neg hv).symm.trans hg; exact (Z _ hg).elim
    · exfalso
      unfold sn_do at hg
      dsimp only at hg
      rw [hp] at hg
      split at hg
      · rename_i e1
        cases e1
        exact hj rfl
      · rename_i e1 e2
        split at hg
        · split at hg
          · exact sn_call_no hg
          · cases hg
        · cases hg
      · cases hg
end SNR
