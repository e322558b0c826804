/-! ===== has, of a song that isn't in: thrown, caught ===== -/
/-- steps of one method that leave the heap as it is -/
def sk_To (G : sn_P) (l : Launch) (M : Nat) (h : sn_H) (pc : Nat) (lv st : List sn_V) (pc2 : Nat) (lv2 st2 : List sn_V) : Prop :=
  ∀ P : Nat → List sn_V → List sn_V → Prop, P pc2 lv2 st2 →
    (∀ (pc pc1 len : Nat) (lv st lv1 st1 : List sn_V) (ins : Instr), decode (sn_bc M) pc = .ok (ins, len) → (len = sn_len ins ∨ sn_len ins = 0) → sn_do M pc ins lv st h = some (.inl (pc1, lv1, st1, h)) → P pc1 lv1 st1 → P pc lv st) →
    (∀ (pc pc1 len j : Nat) (lv st as st1 : List sn_V) (ins : Instr) (r1 : Option sn_V), decode (sn_bc M) pc = .ok (ins, len) → (len = sn_len ins ∨ sn_len ins = 0) → sn_do M pc ins lv st h = some (.inr (.inr (j, as, pc1, lv, st1, h))) → sn_MetJ G l j as h r1 h → P pc1 lv (r1.toList ++ st1) → P pc lv st) → P pc lv st
theorem sk_To.rf {G : sn_P} {l : Launch} {M : Nat} {h : sn_H} {pc : Nat} {lv st : List sn_V} : sk_To G l M h pc lv st pc lv st := fun _ a _ _ => a
theorem sk_To.go {G : sn_P} {l : Launch} {M : Nat} {h : sn_H} {pc pc1 pc2 len : Nat} {lv st lv1 st1 lv2 st2 : List sn_V} {ins : Instr} (hd : decode (sn_bc M) pc = .ok (ins, len)) (hl : len = sn_len ins ∨ sn_len ins = 0) (hg : sn_do M pc ins lv st h = some (.inl (pc1, lv1, st1, h))) (k : sk_To G l M h pc1 lv1 st1 pc2 lv2 st2) : sk_To G l M h pc lv st pc2 lv2 st2 := fun P a b c => b _ _ _ _ _ _ _ _ hd hl hg (k P a b c)
theorem sk_To.call {G : sn_P} {l : Launch} {M : Nat} {h : sn_H} {pc pc1 pc2 len j : Nat} {lv st as st1 lv2 st2 : List sn_V} {ins : Instr} {r1 : Option sn_V} (hd : decode (sn_bc M) pc = .ok (ins, len)) (hl : len = sn_len ins ∨ sn_len ins = 0) (hg : sn_do M pc ins lv st h = some (.inr (.inr (j, as, pc1, lv, st1, h)))) (hm : sn_MetJ G l j as h r1 h) (k : sk_To G l M h pc1 lv (r1.toList ++ st1) pc2 lv2 st2) : sk_To G l M h pc lv st pc2 lv2 st2 := fun P a b c => c _ _ _ _ _ _ _ _ _ _ hd hl hg hm (k P a b c)
theorem sk_simTo {G : sn_P} {l : Launch} {M pc pc2 : Nat} {h : sn_H} {lv st lv2 st2 : List sn_V} (t : sk_To G l M h pc lv st pc2 lv2 st2) {p : Program} {e : Env} {R : Room} {s : State} {m : MethodId} {args : Array Value} {below : List Frame} {meth : Method} {c : Code} {cells slots : Nat} {Q : State → Prop} (X : sn_Cx G M p R s m args meth c) (hc : cells ≤ R.cells) (hs : slots ≤ R.slots)
    (K : ∀ (H' : Heap) (locs' : List Loc) (ls' : Array Slot), sn_Sr G M s H' locs' ls' lv2 st2 h → W p l e R s m args below meth c H' locs' cells slots Q (F0 m pc2 ls' (st2.map (sn_tr G)))) :
    ∀ {H : Heap} {locs : List Loc} {ls : Array Slot}, sn_Sr G M s H locs ls lv st h → W p l e R s m args below meth c H locs cells slots Q (F0 m pc ls (st.map (sn_tr G))) := by
  intro H locs ls S
  refine t (fun pc lv st => ∀ (H : Heap) (locs : List Loc) (ls : Array Slot), sn_Sr G M s H locs ls lv st h → W p l e R s m args below meth c H locs cells slots Q (F0 m pc ls (st.map (sn_tr G)))) K ?_ ?_ H locs ls S
  · intro pc pc1 len lv st lv1 st1 ins hd hl hg ih H locs ls S
    refine (sn_next (G := G) hd hl hg).2 X S (by dsimp only; omega) (by dsimp only; omega) (fun H' locs' ls' S' => ?_)
    dsimp only at S' ⊢
    rw [Nat.sub_self, Nat.sub_self, Nat.add_zero, Nat.add_zero]
    exact ih _ _ _ S'
  · intro pc pc1 len j lv st as st1 ins r1 hd hl hg hm ih H locs ls S
    refine sn_callW hd hl hg (fun _ _ _ _ _ => hm) X S (by omega) (by omega) (fun H' locs' S' => ?_)
    dsimp only at S' ⊢
    rw [Nat.sub_self, Nat.sub_self, Nat.add_zero, Nat.add_zero]
    exact ih _ _ _ S'
section SKT
variable {G : sn_P} {l : Launch} {M pc pc2 j : Nat} {h : sn_H} {lv st lv2 st2 : List sn_V} {cc : ByteArray} {x y : Int} {q i : Nat}
theorem sk_t_il {k : Fin 4} (hb : sn_bc M = cc) (hd : decode cc pc = .ok (.iload_n k, 1)) (hk : lv[k.val]? = some (sn_i x)) (t : sk_To G l M h (pc + 1) lv (sn_i x :: st) pc2 lv2 st2) : sk_To G l M h pc lv st pc2 lv2 st2 := .go (by rw [hb]; exact hd) (Or.inl rfl) (by show sn_ld _ lv st h _ _ = _; unfold sn_ld; rw [hk]; rfl) t
theorem sk_t_al {k : Fin 4} (hb : sn_bc M = cc) (hd : decode cc pc = .ok (.aload_n k, 1)) (hk : lv[k.val]? = some (sn_r q)) (t : sk_To G l M h (pc + 1) lv (sn_r q :: st) pc2 lv2 st2) : sk_To G l M h pc lv st pc2 lv2 st2 := .go (by rw [hb]; exact hd) (Or.inl rfl) (by show sn_ld _ lv st h _ _ = _; unfold sn_ld; rw [hk]; rfl) t
theorem sk_t_ic (hb : sn_bc M = cc) (hd : decode cc pc = .ok (.iconst x, 1)) (hn : sn_inR x = true) (t : sk_To G l M h (pc + 1) lv (sn_i x :: st) pc2 lv2 st2) : sk_To G l M h pc lv st pc2 lv2 st2 := .go (by rw [hb]; exact hd) (Or.inl rfl) (by unfold sn_do; dsimp only; rw [if_pos hn]) t
theorem sk_t_bp (hb : sn_bc M = cc) (hd : decode cc pc = .ok (.bipush x, 2)) (hn : (decide (-128 ≤ x) && decide (x ≤ 127)) = true) (t : sk_To G l M h (pc + 2) lv (sn_i x :: st) pc2 lv2 st2) : sk_To G l M h pc lv st pc2 lv2 st2 := .go (by rw [hb]; exact hd) (Or.inl rfl) (by unfold sn_do; dsimp only; rw [if_pos hn]) t
theorem sk_t_sub (hb : sn_bc M = cc) (hd : decode cc pc = .ok (.isub, 1)) (h1 : -2147483648 ≤ x - y) (h2 : x - y ≤ 2147483647) (t : sk_To G l M h (pc + 1) lv (sn_i (x - y) :: st) pc2 lv2 st2) : sk_To G l M h pc lv (sn_i y :: sn_i x :: st) pc2 lv2 st2 := .go (by rw [hb]; exact hd) (Or.inl rfl) rfl (by rw [sn_wr_id h1 h2]; exact t)
theorem sk_t_goto {n : Int} {tt : Nat} (hb : sn_bc M = cc) (hd : decode cc pc = .ok (.goto n, 3)) (ht : (pc : Int) + n = (tt : Int)) (t : sk_To G l M h tt lv st pc2 lv2 st2) : sk_To G l M h pc lv st pc2 lv2 st2 := .go (by rw [hb]; exact hd) (Or.inl rfl) (by show sn_goto pc n lv st h = _; unfold sn_goto; rw [ht, if_pos (Int.natCast_nonneg tt)]; rfl) t
theorem sk_t_if1 {n : Int} {tt : Nat} {c : ClassFile.Cond} (hb : sn_bc M = cc) (hd : decode cc pc = .ok (.ifCond c n, 3)) (ht : (pc : Int) + n = (tt : Int)) (hc : sn_cmp c x 0 = true) (t : sk_To G l M h tt lv st pc2 lv2 st2) : sk_To G l M h pc lv (sn_i x :: st) pc2 lv2 st2 := .go (by rw [hb]; exact hd) (Or.inl rfl) (by unfold sn_do; dsimp only; rw [ht, if_pos (Int.natCast_nonneg tt), if_pos hc]; rfl) t
theorem sk_t_if0 {n : Int} {tt : Nat} {c : ClassFile.Cond} (hb : sn_bc M = cc) (hd : decode cc pc = .ok (.ifCond c n, 3)) (ht : (pc : Int) + n = (tt : Int)) (hc : ¬ sn_cmp c x 0 = true) (t : sk_To G l M h (pc + 3) lv st pc2 lv2 st2) : sk_To G l M h pc lv (sn_i x :: st) pc2 lv2 st2 := .go (by rw [hb]; exact hd) (Or.inl rfl) (by unfold sn_do; dsimp only; rw [ht, if_pos (Int.natCast_nonneg tt), if_neg hc]) t
theorem sk_t_ii0 {n : Int} {tt : Nat} {c : ClassFile.Cond} (hb : sn_bc M = cc) (hd : decode cc pc = .ok (.if_icmp c n, 3)) (ht : (pc : Int) + n = (tt : Int)) (hc : ¬ sn_cmp c x y = true) (t : sk_To G l M h (pc + 3) lv st pc2 lv2 st2) : sk_To G l M h pc lv (sn_i y :: sn_i x :: st) pc2 lv2 st2 := .go (by rw [hb]; exact hd) (Or.inl rfl) (by unfold sn_do; dsimp only; rw [ht, if_pos (Int.natCast_nonneg tt), if_neg hc]) t
theorem sk_t_get {o ci k : Nat} {v : sn_V} (hb : sn_bc M = cc) (hd : decode cc pc = .ok (.getfield i, 3)) (ho : sn_oc M = o) (hf : sn_pf o i = some (ci, k)) (h2 : 2 ≤ q) (h1 : q < h.1) (ht : (h.2.2.1 q).1 = ci) (hv : h.2.2.2 q k = v) (t : sk_To G l M h (pc + 3) lv (v :: st) pc2 lv2 st2) : sk_To G l M h pc lv (sn_r q :: st) pc2 lv2 st2 := .go (by rw [hb]; exact hd) (Or.inl rfl) (by
  unfold sn_do
  dsimp only
  rw [ho, hf]
  dsimp only
  rw [decide_eq_true h2, decide_eq_true h1, decide_eq_true ht, hv]
  rfl) t
theorem sk_t_bald {v : sn_V} (hb : sn_bc M = cc) (hd : decode cc pc = .ok (.baload, 1)) (hi : sn_idx h q x 101 = true) (hv : h.2.2.2 q x.toNat = v) (t : sk_To G l M h (pc + 1) lv (v :: st) pc2 lv2 st2) : sk_To G l M h pc lv (sn_i x :: sn_r q :: st) pc2 lv2 st2 := .go (by rw [hb]; exact hd) (Or.inl rfl) (by
  unfold sn_do
  dsimp only
  rw [hi, hv]
  rfl) t
theorem sk_t_invS {o a : Nat} {r1 : Option sn_V} (hb : sn_bc M = cc) (hd : decode cc pc = .ok (.invokestatic i, 3)) (ho : sn_oc M = o) (hx : sn_px o i = none) (hf : sn_ps o i = some (j, a)) (hc : (decide (sn_fr j + 1 ≤ sn_fr M) && decide (sn_lo j + sn_ml j + 19 ≤ sn_lo M) && decide (a ≤ st.length) && decide ((st.drop a).length ≤ 4) && decide ((sn_lay (st.take a).reverse).length ≤ sn_ml j) && (sn_hl j || (st.take a).all (fun v => !sn_two v))) = true) (hm : sn_MetJ G l j (st.take a).reverse h r1 h) (t : sk_To G l M h (pc + 3) lv (r1.toList ++ st.drop a) pc2 lv2 st2) : sk_To G l M h pc lv st pc2 lv2 st2 := .call (by rw [hb]; exact hd) (Or.inl rfl) (by
  unfold sn_do
  dsimp only
  rw [ho, hx]
  dsimp only
  rw [hf]
  exact if_pos hc) hm t
theorem sk_invV_do {o a : Nat} {r : List sn_V} (ho : sn_oc M = o) (hf : sn_pv o i = some (j, a)) (hq : st.drop a = sn_r q :: r) (h2 : 2 ≤ q) (h1 : q < h.1) (ht : (h.2.2.1 q).1 = sn_oc j) (hc : (decide (sn_fr j + 1 ≤ sn_fr M) && decide (sn_lo j + sn_ml j + 19 ≤ sn_lo M) && decide (a + 1 ≤ st.length) && decide ((st.drop (a + 1)).length ≤ 4) && decide ((sn_lay (st.take (a + 1)).reverse).length ≤ sn_ml j) && (sn_hl j || (st.take (a + 1)).all (fun v => !sn_two v))) = true) : sn_do M pc (.invokevirtual i) lv st h = some (.inr (.inr (j, (st.take (a + 1)).reverse, pc + 3, lv, st.drop (a + 1), h))) := by
  unfold sn_do
  dsimp only
  rw [ho, hf]
  dsimp only
  rw [hq]
  dsimp only
  rw [decide_eq_true h2, decide_eq_true h1, decide_eq_true ht]
  exact if_pos hc
theorem sk_t_invV {o a : Nat} {r1 : Option sn_V} {r : List sn_V} (hb : sn_bc M = cc) (hd : decode cc pc = .ok (.invokevirtual i, 3)) (ho : sn_oc M = o) (hf : sn_pv o i = some (j, a)) (hq : st.drop a = sn_r q :: r) (h2 : 2 ≤ q) (h1 : q < h.1) (ht : (h.2.2.1 q).1 = sn_oc j) (hc : (decide (sn_fr j + 1 ≤ sn_fr M) && decide (sn_lo j + sn_ml j + 19 ≤ sn_lo M) && decide (a + 1 ≤ st.length) && decide ((st.drop (a + 1)).length ≤ 4) && decide ((sn_lay (st.take (a + 1)).reverse).length ≤ sn_ml j) && (sn_hl j || (st.take (a + 1)).all (fun v => !sn_two v))) = true) (hm : sn_MetJ G l j (st.take (a + 1)).reverse h r1 h) (t : sk_To G l M h (pc + 3) lv (r1.toList ++ st.drop (a + 1)) pc2 lv2 st2) : sk_To G l M h pc lv st pc2 lv2 st2 := .call (by rw [hb]; exact hd) (Or.inl rfl) (sk_invV_do ho hf hq h2 h1 ht hc) hm t
end SKT
theorem sk_met0 {G : sn_P} {l : Launch} {j : Nat} {as : List sn_V} {h : sn_H} {r : Option sn_V} {pc len : Nat} {ins : Instr} {lv st : List sn_V} (hj : j < 129) (hpl : sn_oc j < 11) (hlen : (sn_lay as).length ≤ sn_ml j) (hwf : ∀ v ∈ as, sn_wf v) (h2 : sn_hl j = true ∨ ∀ v ∈ as, sn_two v = false) (t : sk_To G l j h 0 (sn_ent j as) [] pc lv st) (hd : decode (sn_bc j) pc = .ok (ins, len)) (hl : len = sn_len ins ∨ sn_len ins = 0) (hg : sn_do j pc ins lv st h = some (.inr (.inl (r, h)))) : sn_MetJ G l j as h r h := by
  refine sn_met hj hpl hlen hwf h2 (fun X S hc hs => ?_)
  rw [Nat.sub_self, Nat.sub_self, Nat.add_zero, Nat.add_zero] at *
  exact sk_simTo t X hc hs (fun H' locs' ls' S' => (sn_retW hd hl hg X S').2) S
/-- isWithin, of what lies within -/
theorem sk_mW {G : sn_P} {l : Launch} {h : sn_H} {z a b : Int} (h1 : a ≤ z) (h2 : z ≤ b) (ha : -2147483648 ≤ a) (hb : b ≤ 2147483647) : sn_MetJ G l 13 [sn_i z, sn_i a, sn_i b] h (some (sn_i 1)) h := by
  refine sk_met0 (pc := 15) (lv := [sn_i z, sn_i a, sn_i b]) (st := [sn_i 1]) (by decide) (by decide) (by show 3 ≤ 3; decide) (fun v hv => ?_) (Or.inr (fun v hv => ?_)) ?_ (by rw [sn_bc_13]; exact dX9_isWithin_15) (Or.inl rfl) rfl
  · simp only [List.mem_cons, List.not_mem_nil, or_false] at hv
    rcases hv with rfl | rfl | rfl
    · exact ⟨by omega, by omega⟩
    · exact ⟨by omega, by omega⟩
    · exact ⟨by omega, by omega⟩
  · simp only [List.mem_cons, List.not_mem_nil, or_false] at hv
    rcases hv with rfl | rfl | rfl <;> rfl
  · refine sk_t_il sn_bc_13 dX9_isWithin_0 rfl ?_
    refine sk_t_il sn_bc_13 dX9_isWithin_1 rfl ?_
    refine sk_t_ii0 (tt := 14) sn_bc_13 dX9_isWithin_2 rfl (fun q => by have := of_decide_eq_true q; omega) ?_
    refine sk_t_il sn_bc_13 dX9_isWithin_5 rfl ?_
    refine sk_t_il sn_bc_13 dX9_isWithin_6 rfl ?_
    refine sk_t_ii0 (tt := 14) sn_bc_13 dX9_isWithin_7 rfl (fun q => by have := of_decide_eq_true q; omega) ?_
    refine sk_t_ic sn_bc_13 dX9_isWithin_10 rfl ?_
    refine sk_t_goto (tt := 15) sn_bc_13 dX9_isWithin_11 rfl ?_
    exact .rf
/-- the song z isn't in, though its land is one -/
def sk_hc (h : sn_H) (p pl ps pi : Nat) (n z : Int) : Prop := h.2.2.2 p 1 = sn_r pl ∧ h.2.2.2 p 2 = sn_r ps ∧ h.2.2.2 pl 0 = sn_i n ∧ h.2.2.2 ps 2 = sn_r pi ∧ (2 ≤ p ∧ p < h.1 ∧ (h.2.2.1 p).1 = 9) ∧ (2 ≤ pl ∧ pl < h.1 ∧ (h.2.2.1 pl).1 = 3) ∧ (2 ≤ ps ∧ ps < h.1 ∧ (h.2.2.1 ps).1 = 7) ∧ sn_idx h pi z 101 = true ∧ 0 ≤ z ∧ z < n ∧ z < 8 ∧ h.2.2.2 pi z.toNat = sn_i 0
theorem sk_hs_inv {as : List sn_V} {h : sn_H} {o : Option sn_V × sn_H} (hg : sn_hs as h = some o) : ∃ (p pl ps pi : Nat) (n z : Int), as = [sn_r p, sn_i z] ∧ o = (some (sn_i 0), sn_pu h 103 6 (fun _ => sn_n)) ∧ sk_hc h p pl ps pi n z := by
  unfold sn_hs at hg
  split at hg
  · rename_i p z
    split at hg
    · rename_i pl ps e1 e2
      split at hg
      · rename_i n pi e3 e4
        split at hg
        · rename_i hv
          simp only [Bool.and_eq_true, decide_eq_true_eq] at hv
          obtain ⟨⟨⟨⟨⟨⟨⟨⟨⟨⟨⟨⟨⟨a1, a2⟩, a3⟩, a4⟩, a5⟩, a6⟩, a7⟩, a8⟩, a9⟩, a10⟩, a11⟩, a12⟩, a13⟩, a14⟩ := hv
          have hz : 0 ≤ z := by
            have := a11
            unfold sn_idx at this
            simp only [Bool.and_eq_true, decide_eq_true_eq] at this
            exact this.1.2
          refine ⟨p, pl, ps, pi, n, z, rfl, (Option.some.inj hg).symm, e1, e2, e3, e4, ⟨a1, a2, a3⟩, ⟨a4, a5, a6⟩, ⟨a7, a8, a9⟩, a11, hz, a12, a13, a14⟩
        · cases hg
      · cases hg
    · cases hg
  · cases hg
/-- needLand, of a land -/
theorem sk_mL {G : sn_P} {l : Launch} {h : sn_H} {p pl ps pi : Nat} {n z : Int} (hc : sk_hc h p pl ps pi n z) (hn : n ≤ 2147483647) : sn_MetJ G l 18 [sn_r p, sn_i z] h none h := by
  obtain ⟨e1, e2, e3, e4, ⟨a1, a2, a3⟩, ⟨b1, b2, b3⟩, -, -, hz, hzn, hz8, -⟩ := hc
  refine sk_met0 (pc := 28) (lv := [sn_r p, sn_i z]) (st := []) (by decide) (by decide) (by show 2 ≤ 2; decide) (fun v hv => ?_) (Or.inr (fun v hv => ?_)) ?_ (by rw [sn_bc_18]; exact dX9_needLand_28) (Or.inl rfl) rfl
  · simp only [List.mem_cons, List.not_mem_nil, or_false] at hv
    rcases hv with rfl | rfl
    · trivial
    · exact ⟨by omega, by omega⟩
  · simp only [List.mem_cons, List.not_mem_nil, or_false] at hv
    rcases hv with rfl | rfl <;> rfl
  · refine sk_t_il sn_bc_18 dX9_needLand_0 rfl ?_
    refine sk_t_ic sn_bc_18 dX9_needLand_1 rfl ?_
    refine sk_t_al sn_bc_18 dX9_needLand_2 rfl ?_
    refine sk_t_get sn_bc_18 dX9_needLand_3 sn_oc_18 sn_pf_9_38 a1 a2 a3 e1 ?_
    refine sk_t_get sn_bc_18 dX9_needLand_6 sn_oc_18 sn_pf_9_118 b1 b2 b3 e3 ?_
    refine sk_t_ic sn_bc_18 dX9_needLand_9 rfl ?_
    refine sk_t_sub sn_bc_18 dX9_needLand_10 (by omega) (by omega) ?_
    refine sk_t_invS (r1 := some (sn_i 1)) sn_bc_18 dX9_needLand_11 sn_oc_18 sn_px_9_103 sn_ps_9_103 rfl (sk_mW (z := z) (a := 0) (b := n - 1) hz (by omega) (by omega) (by omega)) ?_
    refine sk_t_if1 (tt := 28) sn_bc_18 dX9_needLand_14 rfl rfl ?_
    exact .rf
