/-! ===== what a run of the plain machine comes to ===== -/
def sn_Wp (M pc : Nat) (lv st : List sn_V) (h : sn_H) (Q : Option sn_V → sn_H → Prop) : Prop := ∃ (f : Nat) (o : Option sn_V × sn_H), sn_ex f M pc lv st h = some o ∧ Q o.1 o.2
theorem sn_ex_succ : ∀ (f M pc : Nat) (lv st : List sn_V) (h : sn_H) (o : Option sn_V × sn_H), sn_ex f M pc lv st h = some o → sn_ex (f + 1) M pc lv st h = some o := by
  intro f
  induction f with
  | zero => intro M pc lv st h o hx; cases hx
  | succ f ih =>
    intro M pc lv st h o hx
    unfold sn_ex at hx ⊢
    cases hgo : sn_go M pc lv st h with
    | none => rw [hgo] at hx; cases hx
    | some c =>
      rw [hgo] at hx
      rcases c with d | d | d
      · dsimp only at hx ⊢
        exact ih _ _ _ _ _ _ hx
      · exact hx
      · dsimp only at hx ⊢
        cases hhs : (if d.1 = 88 then sn_hs d.2.1 d.2.2.2.2.2 else none) with
        | some p =>
          rw [hhs] at hx
          dsimp only at hx ⊢
          exact ih _ _ _ _ _ _ hx
        | none =>
          rw [hhs] at hx
          dsimp only at hx ⊢
          cases hcl : sn_ex f d.1 0 (sn_ent d.1 d.2.1) [] d.2.2.2.2.2 with
          | none => rw [hcl] at hx; cases hx
          | some p =>
            rw [hcl] at hx
            rw [ih _ _ _ _ _ _ hcl]
            dsimp only at hx ⊢
            exact ih _ _ _ _ _ _ hx
theorem sn_ex_le {f g M pc : Nat} {lv st : List sn_V} {h : sn_H} {o : Option sn_V × sn_H} (hx : sn_ex f M pc lv st h = some o) (hle : f ≤ g) : sn_ex g M pc lv st h = some o := by
  induction hle with
  | refl => exact hx
  | step _ ih => exact sn_ex_succ _ _ _ _ _ _ _ ih
theorem sn_Wp.mono {M pc : Nat} {lv st : List sn_V} {h : sn_H} {Q Q' : Option sn_V → sn_H → Prop} (k : sn_Wp M pc lv st h Q) (hQ : ∀ r h', Q r h' → Q' r h') : sn_Wp M pc lv st h Q' := by
  obtain ⟨f, o, h1, h2⟩ := k
  exact ⟨f, o, h1, hQ _ _ h2⟩
/-- the run is one: what two runs say holds of one end -/
theorem sn_Wp.both {M pc : Nat} {lv st : List sn_V} {h : sn_H} {Q Q' : Option sn_V → sn_H → Prop} (k : sn_Wp M pc lv st h Q) (k' : sn_Wp M pc lv st h Q') : sn_Wp M pc lv st h (fun r h' => Q r h' ∧ Q' r h') := by
  obtain ⟨f, o, h1, h2⟩ := k
  obtain ⟨f', o', h1', h2'⟩ := k'
  have e1 := sn_ex_le h1 (Nat.le_max_left f f')
  have e2 := sn_ex_le h1' (Nat.le_max_right f f')
  have e : o = o' := Option.some.inj (e1.symm.trans e2)
  subst e
  exact ⟨_, o, e1, h2, h2'⟩
/-- what a call's answer puts on the stack -/
abbrev sn_bk (M pc : Nat) (lv st : List sn_V) (Q : Option sn_V → sn_H → Prop) : Option sn_V → sn_H → Prop := fun r h => match r with
  | some v => sn_Wp M pc lv (v :: st) h Q
  | none => sn_Wp M pc lv st h Q
section SNW
variable {M pc len : Nat} {ins : Instr} {cc : ByteArray} {lv st : List sn_V} {h : sn_H} {Q : Option sn_V → sn_H → Prop}
theorem sn_q_go {d : Nat × List sn_V × List sn_V × sn_H} (hb : sn_bc M = cc) (hd : decode cc pc = .ok (ins, len)) (hl : (decide (len = sn_len ins) || decide (sn_len ins = 0)) = true) (hdo : sn_do M pc ins lv st h = some (.inl d)) (k : sn_Wp M d.1 d.2.1 d.2.2.1 d.2.2.2 Q) : sn_Wp M pc lv st h Q := by
  obtain ⟨f, o, h1, h2⟩ := k
  refine ⟨f + 1, o, ?_, h2⟩
  unfold sn_ex
  have e : sn_go M pc lv st h = some (.inl d) := by
    unfold sn_go
    rw [hb, hd]
    dsimp only
    rw [if_pos hl]
    exact hdo
  rw [e]
  exact h1
theorem sn_q_end {o : Option sn_V × sn_H} (hb : sn_bc M = cc) (hd : decode cc pc = .ok (ins, len)) (hl : (decide (len = sn_len ins) || decide (sn_len ins = 0)) = true) (hdo : sn_do M pc ins lv st h = some (.inr (.inl o))) (k : Q o.1 o.2) : sn_Wp M pc lv st h Q := by
  refine ⟨1, o, ?_, k⟩
  unfold sn_ex
  have e : sn_go M pc lv st h = some (.inr (.inl o)) := by
    unfold sn_go
    rw [hb, hd]
    dsimp only
    rw [if_pos hl]
    exact hdo
  rw [e]
theorem sn_q_call {d : Nat × List sn_V × Nat × List sn_V × List sn_V × sn_H} (hb : sn_bc M = cc) (hd : decode cc pc = .ok (ins, len)) (hl : (decide (len = sn_len ins) || decide (sn_len ins = 0)) = true) (hdo : sn_do M pc ins lv st h = some (.inr (.inr d))) (hhs : (if d.1 = 88 then sn_hs d.2.1 d.2.2.2.2.2 else none) = none)
    (k : sn_Wp d.1 0 (sn_ent d.1 d.2.1) [] d.2.2.2.2.2 (sn_bk M d.2.2.1 d.2.2.2.1 d.2.2.2.2.1 Q)) : sn_Wp M pc lv st h Q := by
  obtain ⟨f, o, h1, h2⟩ := k
  have h3 : sn_Wp M d.2.2.1 d.2.2.2.1 (o.1.toList ++ d.2.2.2.2.1) o.2 Q := by
    obtain ⟨o1, o2⟩ := o
    cases o1 <;> exact h2
  obtain ⟨f', o', h1', h2'⟩ := h3
  have e1 := sn_ex_le h1 (Nat.le_max_left f f')
  have e2 := sn_ex_le h1' (Nat.le_max_right f f')
  refine ⟨Nat.max f f' + 1, o', ?_, h2'⟩
  unfold sn_ex
  have e : sn_go M pc lv st h = some (.inr (.inr d)) := by
    unfold sn_go
    rw [hb, hd]
    dsimp only
    rw [if_pos hl]
    exact hdo
  rw [e]
  dsimp only
  rw [hhs]
  dsimp only
  rw [e1]
  exact e2
/-- has(m, song) of a song that isn't in -/
theorem sn_q_has {d : Nat × List sn_V × Nat × List sn_V × List sn_V × sn_H} {o : Option sn_V × sn_H} (hb : sn_bc M = cc) (hd : decode cc pc = .ok (ins, len)) (hl : (decide (len = sn_len ins) || decide (sn_len ins = 0)) = true) (hdo : sn_do M pc ins lv st h = some (.inr (.inr d))) (hhs : (if d.1 = 88 then sn_hs d.2.1 d.2.2.2.2.2 else none) = some o)
    (k : sn_bk M d.2.2.1 d.2.2.2.1 d.2.2.2.2.1 Q o.1 o.2) : sn_Wp M pc lv st h Q := by
  have h3 : sn_Wp M d.2.2.1 d.2.2.2.1 (o.1.toList ++ d.2.2.2.2.1) o.2 Q := by
    obtain ⟨o1, o2⟩ := o
    cases o1 <;> exact k
  obtain ⟨f', o', h1', h2'⟩ := h3
  refine ⟨f' + 1, o', ?_, h2'⟩
  unfold sn_ex
  have e : sn_go M pc lv st h = some (.inr (.inr d)) := by
    unfold sn_go
    rw [hb, hd]
    dsimp only
    rw [if_pos hl]
    exact hdo
  rw [e]
  dsimp only
  rw [hhs]
  exact h1'
end SNW
/-! the instructions, one by one -/
section SNV
variable {M pc i : Nat} {cc : ByteArray} {lv st : List sn_V} {h : sn_H} {Q : Option sn_V → sn_H → Prop} {x y z n : Int}

theorem sn_q_iconst (hb : sn_bc M = cc) (hd : decode cc pc = .ok (.iconst n, 1)) (hn : sn_inR n = true) (k : sn_Wp M (pc + 1) (lv) (sn_i n :: st) (h) Q) : sn_Wp M pc lv (st) h Q := sn_q_go (d := (pc + 1, lv, sn_i n :: st, h)) hb hd rfl (if_pos hn) k
theorem sn_q_bipush (hb : sn_bc M = cc) (hd : decode cc pc = .ok (.bipush n, 2)) (hn : (decide (-128 ≤ n) && decide (n ≤ 127)) = true) (k : sn_Wp M (pc + 2) (lv) (sn_i n :: st) (h) Q) : sn_Wp M pc lv (st) h Q := sn_q_go (d := (pc + 2, lv, sn_i n :: st, h)) hb hd rfl (if_pos hn) k
theorem sn_q_sipush (hb : sn_bc M = cc) (hd : decode cc pc = .ok (.sipush n, 3)) (hn : (decide (-32768 ≤ n) && decide (n ≤ 32767)) = true) (k : sn_Wp M (pc + 3) (lv) (sn_i n :: st) (h) Q) : sn_Wp M pc lv (st) h Q := sn_q_go (d := (pc + 3, lv, sn_i n :: st, h)) hb hd rfl (if_pos hn) k
theorem sn_q_dconst (hb : sn_bc M = cc) (hd : decode cc pc = .ok (.dconst 0, 1)) (k : sn_Wp M (pc + 1) (lv) (sn_d FP.dconst0 :: st) (h) Q) : sn_Wp M pc lv (st) h Q := sn_q_go (d := (pc + 1, lv, sn_d FP.dconst0 :: st, h)) hb hd rfl (by unfold sn_do; dsimp only; rw [if_pos rfl]) k
theorem sn_q_iloadn {j : Fin 4} (hb : sn_bc M = cc) (hd : decode cc pc = .ok (.iload_n j, 1)) (hk : lv[j.val]? = some (sn_i x)) (k : sn_Wp M (pc + 1) (lv) (sn_i x :: st) (h) Q) : sn_Wp M pc lv (st) h Q := sn_q_go (d := (pc + 1, lv, sn_i x :: st, h)) hb hd rfl (by show sn_ld _ lv st h _ _ = _; unfold sn_ld; rw [hk]; rfl) k
theorem sn_q_iload (hb : sn_bc M = cc) (hd : decode cc pc = .ok (.iload i, 2)) (hk : lv[i]? = some (sn_i x)) (k : sn_Wp M (pc + 2) (lv) (sn_i x :: st) (h) Q) : sn_Wp M pc lv (st) h Q := sn_q_go (d := (pc + 2, lv, sn_i x :: st, h)) hb hd rfl (by show sn_ld _ lv st h _ _ = _; unfold sn_ld; rw [hk]; rfl) k
theorem sn_q_aloadn {j : Fin 4} {q : Nat} (hb : sn_bc M = cc) (hd : decode cc pc = .ok (.aload_n j, 1)) (hk : lv[j.val]? = some (sn_r q)) (k : sn_Wp M (pc + 1) (lv) (sn_r q :: st) (h) Q) : sn_Wp M pc lv (st) h Q := sn_q_go (d := (pc + 1, lv, sn_r q :: st, h)) hb hd rfl (by show sn_ld _ lv st h _ _ = _; unfold sn_ld; rw [hk]; rfl) k
theorem sn_q_aload {q : Nat} (hb : sn_bc M = cc) (hd : decode cc pc = .ok (.aload i, 2)) (hk : lv[i]? = some (sn_r q)) (k : sn_Wp M (pc + 2) (lv) (sn_r q :: st) (h) Q) : sn_Wp M pc lv (st) h Q := sn_q_go (d := (pc + 2, lv, sn_r q :: st, h)) hb hd rfl (by show sn_ld _ lv st h _ _ = _; unfold sn_ld; rw [hk]; rfl) k
theorem sn_q_lloadn {j : Fin 4} (hb : sn_bc M = cc) (hd : decode cc pc = .ok (.lload_n j, 1)) (hk : lv[j.val]? = some (sn_l x)) (k : sn_Wp M (pc + 1) (lv) (sn_l x :: st) (h) Q) : sn_Wp M pc lv (st) h Q := sn_q_go (d := (pc + 1, lv, sn_l x :: st, h)) hb hd rfl (by show sn_ld _ lv st h _ _ = _; unfold sn_ld; rw [hk]; rfl) k
theorem sn_q_lload (hb : sn_bc M = cc) (hd : decode cc pc = .ok (.lload i, 2)) (hk : lv[i]? = some (sn_l x)) (k : sn_Wp M (pc + 2) (lv) (sn_l x :: st) (h) Q) : sn_Wp M pc lv (st) h Q := sn_q_go (d := (pc + 2, lv, sn_l x :: st, h)) hb hd rfl (by show sn_ld _ lv st h _ _ = _; unfold sn_ld; rw [hk]; rfl) k
theorem sn_q_istoren {lv2 : List sn_V} {j : Fin 4} (hb : sn_bc M = cc) (hd : decode cc pc = .ok (.istore_n j, 1)) (hM : sn_hl M = false) (hk : j.val < lv.length) (hl : lv.set (j.val) (sn_i x) = lv2) (k : sn_Wp M (pc + 1) lv2 st h Q) : sn_Wp M pc lv (sn_i x :: st) h Q := by
  subst hl
  exact sn_q_go (d := (pc + 1, lv.set (j.val) (sn_i x), st, h)) hb hd rfl (by show sn_so M _ lv st h _ _ = _; unfold sn_so; rw [if_pos hk, hM]; rfl) k
theorem sn_q_istorenL {lv2 : List sn_V} {j : Fin 4} (hb : sn_bc M = cc) (hd : decode cc pc = .ok (.istore_n j, 1)) (hk : j.val < lv.length) (hn : (sn_hl M && decide (0 < j.val) && sn_two (lv.getD (j.val - 1) sn_u)) = false) (hl : lv.set (j.val) (sn_i x) = lv2) (k : sn_Wp M (pc + 1) lv2 st h Q) : sn_Wp M pc lv (sn_i x :: st) h Q := by
  subst hl
  exact sn_q_go (d := (pc + 1, lv.set (j.val) (sn_i x), st, h)) hb hd rfl (by show sn_so M _ lv st h _ _ = _; unfold sn_so; rw [if_pos hk, if_neg (by rw [hn]; decide)]) k
theorem sn_q_istore {lv2 : List sn_V} (hb : sn_bc M = cc) (hd : decode cc pc = .ok (.istore i, 2)) (hM : sn_hl M = false) (hk : i < lv.length) (hl : lv.set (i) (sn_i x) = lv2) (k : sn_Wp M (pc + 2) lv2 st h Q) : sn_Wp M pc lv (sn_i x :: st) h Q := by
  subst hl
  exact sn_q_go (d := (pc + 2, lv.set (i) (sn_i x), st, h)) hb hd rfl (by show sn_so M _ lv st h _ _ = _; unfold sn_so; rw [if_pos hk, hM]; rfl) k
theorem sn_q_istoreL {lv2 : List sn_V} (hb : sn_bc M = cc) (hd : decode cc pc = .ok (.istore i, 2)) (hk : i < lv.length) (hn : (sn_hl M && decide (0 < i) && sn_two (lv.getD (i - 1) sn_u)) = false) (hl : lv.set (i) (sn_i x) = lv2) (k : sn_Wp M (pc + 2) lv2 st h Q) : sn_Wp M pc lv (sn_i x :: st) h Q := by
  subst hl
  exact sn_q_go (d := (pc + 2, lv.set (i) (sn_i x), st, h)) hb hd rfl (by show sn_so M _ lv st h _ _ = _; unfold sn_so; rw [if_pos hk, if_neg (by rw [hn]; decide)]) k
theorem sn_q_astoren {lv2 : List sn_V} {j : Fin 4} {q : Nat} (hb : sn_bc M = cc) (hd : decode cc pc = .ok (.astore_n j, 1)) (hM : sn_hl M = false) (hk : j.val < lv.length) (hl : lv.set (j.val) (sn_r q) = lv2) (k : sn_Wp M (pc + 1) lv2 st h Q) : sn_Wp M pc lv (sn_r q :: st) h Q := by
  subst hl
  exact sn_q_go (d := (pc + 1, lv.set (j.val) (sn_r q), st, h)) hb hd rfl (by show sn_so M _ lv st h _ _ = _; unfold sn_so; rw [if_pos hk, hM]; rfl) k
theorem sn_q_astorenL {lv2 : List sn_V} {j : Fin 4} {q : Nat} (hb : sn_bc M = cc) (hd : decode cc pc = .ok (.astore_n j, 1)) (hk : j.val < lv.length) (hn : (sn_hl M && decide (0 < j.val) && sn_two (lv.getD (j.val - 1) sn_u)) = false) (hl : lv.set (j.val) (sn_r q) = lv2) (k : sn_Wp M (pc + 1) lv2 st h Q) : sn_Wp M pc lv (sn_r q :: st) h Q := by
  subst hl
  exact sn_q_go (d := (pc + 1, lv.set (j.val) (sn_r q), st, h)) hb hd rfl (by show sn_so M _ lv st h _ _ = _; unfold sn_so; rw [if_pos hk, if_neg (by rw [hn]; decide)]) k
theorem sn_q_astore {lv2 : List sn_V} {q : Nat} (hb : sn_bc M = cc) (hd : decode cc pc = .ok (.astore i, 2)) (hM : sn_hl M = false) (hk : i < lv.length) (hl : lv.set (i) (sn_r q) = lv2) (k : sn_Wp M (pc + 2) lv2 st h Q) : sn_Wp M pc lv (sn_r q :: st) h Q := by
  subst hl
  exact sn_q_go (d := (pc + 2, lv.set (i) (sn_r q), st, h)) hb hd rfl (by show sn_so M _ lv st h _ _ = _; unfold sn_so; rw [if_pos hk, hM]; rfl) k
theorem sn_q_astoreL {lv2 : List sn_V} {q : Nat} (hb : sn_bc M = cc) (hd : decode cc pc = .ok (.astore i, 2)) (hk : i < lv.length) (hn : (sn_hl M && decide (0 < i) && sn_two (lv.getD (i - 1) sn_u)) = false) (hl : lv.set (i) (sn_r q) = lv2) (k : sn_Wp M (pc + 2) lv2 st h Q) : sn_Wp M pc lv (sn_r q :: st) h Q := by
  subst hl
  exact sn_q_go (d := (pc + 2, lv.set (i) (sn_r q), st, h)) hb hd rfl (by show sn_so M _ lv st h _ _ = _; unfold sn_so; rw [if_pos hk, if_neg (by rw [hn]; decide)]) k
theorem sn_q_lstoren {lv2 : List sn_V} {j : Fin 4} (hb : sn_bc M = cc) (hd : decode cc pc = .ok (.lstore_n j, 1)) (hk : (sn_hl M && decide (j.val + 1 < lv.length)) = true) (hn : (decide (0 < j.val) && sn_two (lv.getD (j.val - 1) sn_u)) = false) (hl : (lv.set (j.val) (sn_l x)).set (j.val + 1) sn_u = lv2) (k : sn_Wp M (pc + 1) lv2 st h Q) : sn_Wp M pc lv (sn_l x :: st) h Q := by
  subst hl
  exact sn_q_go (d := (pc + 1, (lv.set (j.val) (sn_l x)).set (j.val + 1) sn_u, st, h)) hb hd rfl (by show sn_so2 M _ lv st h _ _ = _; unfold sn_so2; rw [if_pos hk, if_neg (by rw [hn]; decide)]) k
theorem sn_q_lstore {lv2 : List sn_V} (hb : sn_bc M = cc) (hd : decode cc pc = .ok (.lstore i, 2)) (hk : (sn_hl M && decide (i + 1 < lv.length)) = true) (hn : (decide (0 < i) && sn_two (lv.getD (i - 1) sn_u)) = false) (hl : (lv.set (i) (sn_l x)).set (i + 1) sn_u = lv2) (k : sn_Wp M (pc + 2) lv2 st h Q) : sn_Wp M pc lv (sn_l x :: st) h Q := by
  subst hl
  exact sn_q_go (d := (pc + 2, (lv.set (i) (sn_l x)).set (i + 1) sn_u, st, h)) hb hd rfl (by show sn_so2 M _ lv st h _ _ = _; unfold sn_so2; rw [if_pos hk, if_neg (by rw [hn]; decide)]) k
theorem sn_q_iinc {lv2 : List sn_V} (hb : sn_bc M = cc) (hd : decode cc pc = .ok (.iinc i n, 3)) (hM : sn_hl M = false) (hk : i < lv.length) (hv : lv[i]? = some (sn_i x)) (h1 : -2147483648 ≤ x + n) (h2 : x + n ≤ 2147483647) (hl : lv.set i (sn_i (x + n)) = lv2) (k : sn_Wp M (pc + 3) lv2 st h Q) : sn_Wp M pc lv st h Q := by
  subst hl
  exact sn_q_go (d := (pc + 3, lv.set i (sn_i (x + n)), st, h)) hb hd rfl (by unfold sn_do; dsimp only; rw [hv]; dsimp only; unfold sn_so; rw [if_pos hk, hM, sn_wr_id h1 h2]; rfl) k
theorem sn_q_iincL {lv2 : List sn_V} (hb : sn_bc M = cc) (hd : decode cc pc = .ok (.iinc i n, 3)) (hk : i < lv.length) (hn : (sn_hl M && decide (0 < i) && sn_two (lv.getD (i - 1) sn_u)) = false) (hv : lv[i]? = some (sn_i x)) (h1 : -2147483648 ≤ x + n) (h2 : x + n ≤ 2147483647) (hl : lv.set i (sn_i (x + n)) = lv2) (k : sn_Wp M (pc + 3) lv2 st h Q) : sn_Wp M pc lv st h Q := by
  subst hl
  exact sn_q_go (d := (pc + 3, lv.set i (sn_i (x + n)), st, h)) hb hd rfl (by unfold sn_do; dsimp only; rw [hv]; dsimp only; unfold sn_so; rw [if_pos hk, if_neg (by rw [hn]; decide), sn_wr_id h1 h2]) k
theorem sn_q_iadd (hb : sn_bc M = cc) (hd : decode cc pc = .ok (.iadd, 1)) (h1 : -2147483648 ≤ x + y) (h2 : x + y ≤ 2147483647) (k : sn_Wp M (pc + 1) lv (sn_i (x + y) :: st) h Q) : sn_Wp M pc lv (sn_i y :: sn_i x :: st) h Q := sn_q_go (d := (pc + 1, lv, sn_i (sn_wr (x + y)) :: st, h)) hb hd rfl rfl (by rw [sn_wr_id h1 h2]; exact k)
theorem sn_q_iaddW (hb : sn_bc M = cc) (hd : decode cc pc = .ok (.iadd, 1)) (k : sn_Wp M (pc + 1) lv (sn_i (sn_wr (x + y)) :: st) h Q) : sn_Wp M pc lv (sn_i y :: sn_i x :: st) h Q := sn_q_go (d := (pc + 1, lv, sn_i (sn_wr (x + y)) :: st, h)) hb hd rfl rfl k
theorem sn_q_isub (hb : sn_bc M = cc) (hd : decode cc pc = .ok (.isub, 1)) (h1 : -2147483648 ≤ x - y) (h2 : x - y ≤ 2147483647) (k : sn_Wp M (pc + 1) lv (sn_i (x - y) :: st) h Q) : sn_Wp M pc lv (sn_i y :: sn_i x :: st) h Q := sn_q_go (d := (pc + 1, lv, sn_i (sn_wr (x - y)) :: st, h)) hb hd rfl rfl (by rw [sn_wr_id h1 h2]; exact k)
theorem sn_q_isubW (hb : sn_bc M = cc) (hd : decode cc pc = .ok (.isub, 1)) (k : sn_Wp M (pc + 1) lv (sn_i (sn_wr (x - y)) :: st) h Q) : sn_Wp M pc lv (sn_i y :: sn_i x :: st) h Q := sn_q_go (d := (pc + 1, lv, sn_i (sn_wr (x - y)) :: st, h)) hb hd rfl rfl k
theorem sn_q_imul (hb : sn_bc M = cc) (hd : decode cc pc = .ok (.imul, 1)) (h1 : -2147483648 ≤ x * y) (h2 : x * y ≤ 2147483647) (k : sn_Wp M (pc + 1) lv (sn_i (x * y) :: st) h Q) : sn_Wp M pc lv (sn_i y :: sn_i x :: st) h Q := sn_q_go (d := (pc + 1, lv, sn_i (sn_wr (x * y)) :: st, h)) hb hd rfl rfl (by rw [sn_wr_id h1 h2]; exact k)
theorem sn_q_imulW (hb : sn_bc M = cc) (hd : decode cc pc = .ok (.imul, 1)) (k : sn_Wp M (pc + 1) lv (sn_i (sn_wr (x * y)) :: st) h Q) : sn_Wp M pc lv (sn_i y :: sn_i x :: st) h Q := sn_q_go (d := (pc + 1, lv, sn_i (sn_wr (x * y)) :: st, h)) hb hd rfl rfl k
theorem sn_q_iand (hb : sn_bc M = cc) (hd : decode cc pc = .ok (.iand, 1)) (k : sn_Wp M (pc + 1) lv (sn_i (sn_an x y) :: st) h Q) : sn_Wp M pc lv (sn_i y :: sn_i x :: st) h Q := sn_q_go (d := (pc + 1, lv, sn_i (sn_an x y) :: st, h)) hb hd rfl rfl k
theorem sn_q_ishr (hb : sn_bc M = cc) (hd : decode cc pc = .ok (.ishr, 1)) (k : sn_Wp M (pc + 1) lv (sn_i (sn_sh x y) :: st) h Q) : sn_Wp M pc lv (sn_i y :: sn_i x :: st) h Q := sn_q_go (d := (pc + 1, lv, sn_i (sn_sh x y) :: st, h)) hb hd rfl rfl k
theorem sn_q_idivW (hb : sn_bc M = cc) (hd : decode cc pc = .ok (.idiv, 1)) (h0 : ¬ y = 0) (k : sn_Wp M (pc + 1) lv (sn_i (sn_dv x y) :: st) h Q) : sn_Wp M pc lv (sn_i y :: sn_i x :: st) h Q := sn_q_go (d := (pc + 1, lv, sn_i (sn_dv x y) :: st, h)) hb hd rfl (if_neg h0) k
theorem sn_q_iremW (hb : sn_bc M = cc) (hd : decode cc pc = .ok (.irem, 1)) (h0 : ¬ y = 0) (k : sn_Wp M (pc + 1) lv (sn_i (sn_rm x y) :: st) h Q) : sn_Wp M pc lv (sn_i y :: sn_i x :: st) h Q := sn_q_go (d := (pc + 1, lv, sn_i (sn_rm x y) :: st, h)) hb hd rfl (if_neg h0) k
theorem sn_dv_nn {x y : Int} (hx : 0 ≤ x) (hx9 : x ≤ 2147483647) (hy : 0 < y) (hy9 : y ≤ 2147483647) : sn_dv x y = x / y := by
  unfold sn_dv
  have e1 : (Int32.ofInt x).toInt = x := sn_to ⟨by omega, hx9⟩
  have e2 : (Int32.ofInt y).toInt = y := sn_to ⟨by omega, hy9⟩
  have hne : Int32.ofInt y ≠ -1 := fun h => by
    have := congrArg Int32.toInt h
    rw [e2] at this
    have e3 : (-1 : Int32).toInt = -1 := by decide
    omega
  rw [Int32.toInt_div_of_ne_right _ _ hne, e1, e2, Int.tdiv_eq_ediv_of_nonneg hx]
theorem sn_rm_nn {x y : Int} (hx : 0 ≤ x) (hx9 : x ≤ 2147483647) (hy : 0 < y) (hy9 : y ≤ 2147483647) : sn_rm x y = x % y := by
  have hd := sn_dv_nn hx hx9 hy hy9
  unfold sn_dv at hd
  unfold sn_rm
  have e : Int32.ofInt x / Int32.ofInt y = Int32.ofInt (x / y) := by rw [← hd, Int32.ofInt_toInt]
  have hq : 0 ≤ x / y := Int.ediv_nonneg hx (by omega)
  have hm := Int.emod_nonneg x (show y ≠ 0 by omega)
  have hm2 := Int.emod_lt_of_pos x hy
  have hs : x / y * y + x % y = x := Int.ediv_mul_add_emod x y
  rw [e, ← Int32.ofInt_mul, ← Int32.ofInt_sub]
  have e3 : x - x / y * y = x % y := by omega
  rw [e3]
  exact sn_to ⟨by omega, by omega⟩
theorem sn_q_idiv (hb : sn_bc M = cc) (hd : decode cc pc = .ok (.idiv, 1)) (h1 : 0 ≤ x) (h2 : x ≤ 2147483647) (h3 : 0 < y) (h4 : y ≤ 2147483647) (k : sn_Wp M (pc + 1) lv (sn_i (x / y) :: st) h Q) : sn_Wp M pc lv (sn_i y :: sn_i x :: st) h Q := sn_q_idivW hb hd (by omega) (by rw [sn_dv_nn h1 h2 h3 h4]; exact k)
theorem sn_q_irem (hb : sn_bc M = cc) (hd : decode cc pc = .ok (.irem, 1)) (h1 : 0 ≤ x) (h2 : x ≤ 2147483647) (h3 : 0 < y) (h4 : y ≤ 2147483647) (k : sn_Wp M (pc + 1) lv (sn_i (x % y) :: st) h Q) : sn_Wp M pc lv (sn_i y :: sn_i x :: st) h Q := sn_q_iremW hb hd (by omega) (by rw [sn_rm_nn h1 h2 h3 h4]; exact k)
theorem sn_q_i2l (hb : sn_bc M = cc) (hd : decode cc pc = .ok (.i2l, 1)) (k : sn_Wp M (pc + 1) lv (sn_l x :: st) h Q) : sn_Wp M pc lv (sn_i x :: st) h Q := sn_q_go (d := (pc + 1, lv, sn_l x :: st, h)) hb hd rfl rfl k
theorem sn_q_ladd (hb : sn_bc M = cc) (hd : decode cc pc = .ok (.ladd, 1)) (k : sn_Wp M (pc + 1) lv (sn_l (sn_wl (x + y)) :: st) h Q) : sn_Wp M pc lv (sn_l y :: sn_l x :: st) h Q := sn_q_go (d := (pc + 1, lv, sn_l (sn_wl (x + y)) :: st, h)) hb hd rfl rfl k
theorem sn_q_lmul (hb : sn_bc M = cc) (hd : decode cc pc = .ok (.lmul, 1)) (k : sn_Wp M (pc + 1) lv (sn_l (sn_wl (x * y)) :: st) h Q) : sn_Wp M pc lv (sn_l y :: sn_l x :: st) h Q := sn_q_go (d := (pc + 1, lv, sn_l (sn_wl (x * y)) :: st, h)) hb hd rfl rfl k
theorem sn_q_lcmp (hb : sn_bc M = cc) (hd : decode cc pc = .ok (.lcmp, 1)) (k : sn_Wp M (pc + 1) lv (sn_i (sn_lc x y) :: st) h Q) : sn_Wp M pc lv (sn_l y :: sn_l x :: st) h Q := sn_q_go (d := (pc + 1, lv, sn_i (sn_lc x y) :: st, h)) hb hd rfl rfl k
theorem sn_q_i2d (hb : sn_bc M = cc) (hd : decode cc pc = .ok (.i2d, 1)) (k : sn_Wp M (pc + 1) lv (sn_d (FP.i2d (Int32.ofInt x)) :: st) h Q) : sn_Wp M pc lv (sn_i x :: st) h Q := sn_q_go (d := (pc + 1, lv, sn_d (FP.i2d (Int32.ofInt x)) :: st, h)) hb hd rfl rfl k
theorem sn_q_ddiv {a b : UInt64} (hb : sn_bc M = cc) (hd : decode cc pc = .ok (.ddiv, 1)) (hn : FP.ddiv a b &&& 0x7fffffffffffffff ≤ 0x7ff0000000000000) (k : sn_Wp M (pc + 1) lv (sn_d (FP.ddiv a b) :: st) h Q) : sn_Wp M pc lv (sn_d b :: sn_d a :: st) h Q := sn_q_go (d := (pc + 1, lv, sn_d (FP.ddiv a b) :: st, h)) hb hd rfl (if_pos (decide_eq_true hn)) k
theorem sn_q_dcmp {a b : UInt64} {op : CmpOp} (hb : sn_bc M = cc) (hd : decode cc pc = .ok (.dcmp op, 1)) (k : sn_Wp M (pc + 1) lv (sn_i (Op.cmpValue (FP.dcmp a b) op).toInt :: st) h Q) : sn_Wp M pc lv (sn_d b :: sn_d a :: st) h Q := sn_q_go (d := (pc + 1, lv, sn_i (Op.cmpValue (FP.dcmp a b) op).toInt :: st, h)) hb hd rfl rfl k
theorem sn_q_dup {v : sn_V} (hb : sn_bc M = cc) (hd : decode cc pc = .ok (.dup, 1)) (hv : sn_isN v = true) (k : sn_Wp M (pc + 1) lv (v :: v :: st) h Q) : sn_Wp M pc lv (v :: st) h Q := sn_q_go (d := (pc + 1, lv, v :: v :: st, h)) hb hd rfl (if_pos hv) k
theorem sn_q_dup2 {v w : sn_V} (hb : sn_bc M = cc) (hd : decode cc pc = .ok (.dup2, 1)) (hv : (sn_isN v && sn_isN w) = true) (k : sn_Wp M (pc + 1) lv (v :: w :: v :: w :: st) h Q) : sn_Wp M pc lv (v :: w :: st) h Q := sn_q_go (d := (pc + 1, lv, v :: w :: v :: w :: st, h)) hb hd rfl (if_pos hv) k
theorem sn_q_pop {v : sn_V} (hb : sn_bc M = cc) (hd : decode cc pc = .ok (.pop, 1)) (hv : sn_isN v = true) (k : sn_Wp M (pc + 1) lv st h Q) : sn_Wp M pc lv (v :: st) h Q := sn_q_go (d := (pc + 1, lv, st, h)) hb hd rfl (if_pos hv) k
theorem sn_q_goto {t : Nat} (hb : sn_bc M = cc) (hd : decode cc pc = .ok (.goto n, 3)) (ht : (pc : Int) + n = (t : Int)) (k : sn_Wp M t lv st h Q) : sn_Wp M pc lv st h Q := sn_q_go (d := (t, lv, st, h)) hb hd rfl (by show sn_goto pc n lv st h = _; unfold sn_goto; rw [ht, if_pos (Int.natCast_nonneg t)]; rfl) k
theorem sn_q_ifeq {t : Nat} (hb : sn_bc M = cc) (hd : decode cc pc = .ok (.ifCond .eq n, 3)) (ht : (pc : Int) + n = (t : Int)) (k1 : x = 0 → sn_Wp M t lv st h Q) (k2 : ¬ (x = 0) → sn_Wp M (pc + 3) lv st h Q) : sn_Wp M pc lv (sn_i x :: st) h Q := by
  by_cases hc : x = 0
  · exact sn_q_go (d := (t, lv, st, h)) hb hd rfl (by unfold sn_do; dsimp only; rw [ht, if_pos (Int.natCast_nonneg t), if_pos (show sn_cmp .eq x 0 = true from decide_eq_true hc)]; rfl) (k1 hc)
  · exact sn_q_go (d := (pc + 3, lv, st, h)) hb hd rfl (by unfold sn_do; dsimp only; rw [ht, if_pos (Int.natCast_nonneg t), if_neg (show ¬ sn_cmp .eq x 0 = true from fun z => hc (of_decide_eq_true z))]) (k2 hc)
theorem sn_q_ifne {t : Nat} (hb : sn_bc M = cc) (hd : decode cc pc = .ok (.ifCond .ne n, 3)) (ht : (pc : Int) + n = (t : Int)) (k1 : x ≠ 0 → sn_Wp M t lv st h Q) (k2 : ¬ (x ≠ 0) → sn_Wp M (pc + 3) lv st h Q) : sn_Wp M pc lv (sn_i x :: st) h Q := by
  by_cases hc : x ≠ 0
  · exact sn_q_go (d := (t, lv, st, h)) hb hd rfl (by unfold sn_do; dsimp only; rw [ht, if_pos (Int.natCast_nonneg t), if_pos (show sn_cmp .ne x 0 = true from decide_eq_true hc)]; rfl) (k1 hc)
  · exact sn_q_go (d := (pc + 3, lv, st, h)) hb hd rfl (by unfold sn_do; dsimp only; rw [ht, if_pos (Int.natCast_nonneg t), if_neg (show ¬ sn_cmp .ne x 0 = true from fun z => hc (of_decide_eq_true z))]) (k2 hc)
theorem sn_q_iflt {t : Nat} (hb : sn_bc M = cc) (hd : decode cc pc = .ok (.ifCond .lt n, 3)) (ht : (pc : Int) + n = (t : Int)) (k1 : x < 0 → sn_Wp M t lv st h Q) (k2 : ¬ (x < 0) → sn_Wp M (pc + 3) lv st h Q) : sn_Wp M pc lv (sn_i x :: st) h Q := by
  by_cases hc : x < 0
  · exact sn_q_go (d := (t, lv, st, h)) hb hd rfl (by unfold sn_do; dsimp only; rw [ht, if_pos (Int.natCast_nonneg t), if_pos (show sn_cmp .lt x 0 = true from decide_eq_true hc)]; rfl) (k1 hc)
  · exact sn_q_go (d := (pc + 3, lv, st, h)) hb hd rfl (by unfold sn_do; dsimp only; rw [ht, if_pos (Int.natCast_nonneg t), if_neg (show ¬ sn_cmp .lt x 0 = true from fun z => hc (of_decide_eq_true z))]) (k2 hc)
theorem sn_q_ifge {t : Nat} (hb : sn_bc M = cc) (hd : decode cc pc = .ok (.ifCond .ge n, 3)) (ht : (pc : Int) + n = (t : Int)) (k1 : 0 ≤ x → sn_Wp M t lv st h Q) (k2 : ¬ (0 ≤ x) → sn_Wp M (pc + 3) lv st h Q) : sn_Wp M pc lv (sn_i x :: st) h Q := by
  by_cases hc : 0 ≤ x
  · exact sn_q_go (d := (t, lv, st, h)) hb hd rfl (by unfold sn_do; dsimp only; rw [ht, if_pos (Int.natCast_nonneg t), if_pos (show sn_cmp .ge x 0 = true from decide_eq_true hc)]; rfl) (k1 hc)
  · exact sn_q_go (d := (pc + 3, lv, st, h)) hb hd rfl (by unfold sn_do; dsimp only; rw [ht, if_pos (Int.natCast_nonneg t), if_neg (show ¬ sn_cmp .ge x 0 = true from fun z => hc (of_decide_eq_true z))]) (k2 hc)
theorem sn_q_ifgt {t : Nat} (hb : sn_bc M = cc) (hd : decode cc pc = .ok (.ifCond .gt n, 3)) (ht : (pc : Int) + n = (t : Int)) (k1 : 0 < x → sn_Wp M t lv st h Q) (k2 : ¬ (0 < x) → sn_Wp M (pc + 3) lv st h Q) : sn_Wp M pc lv (sn_i x :: st) h Q := by
  by_cases hc : 0 < x
  · exact sn_q_go (d := (t, lv, st, h)) hb hd rfl (by unfold sn_do; dsimp only; rw [ht, if_pos (Int.natCast_nonneg t), if_pos (show sn_cmp .gt x 0 = true from decide_eq_true hc)]; rfl) (k1 hc)
  · exact sn_q_go (d := (pc + 3, lv, st, h)) hb hd rfl (by unfold sn_do; dsimp only; rw [ht, if_pos (Int.natCast_nonneg t), if_neg (show ¬ sn_cmp .gt x 0 = true from fun z => hc (of_decide_eq_true z))]) (k2 hc)
theorem sn_q_ifle {t : Nat} (hb : sn_bc M = cc) (hd : decode cc pc = .ok (.ifCond .le n, 3)) (ht : (pc : Int) + n = (t : Int)) (k1 : x ≤ 0 → sn_Wp M t lv st h Q) (k2 : ¬ (x ≤ 0) → sn_Wp M (pc + 3) lv st h Q) : sn_Wp M pc lv (sn_i x :: st) h Q := by
  by_cases hc : x ≤ 0
  · exact sn_q_go (d := (t, lv, st, h)) hb hd rfl (by unfold sn_do; dsimp only; rw [ht, if_pos (Int.natCast_nonneg t), if_pos (show sn_cmp .le x 0 = true from decide_eq_true hc)]; rfl) (k1 hc)
  · exact sn_q_go (d := (pc + 3, lv, st, h)) hb hd rfl (by unfold sn_do; dsimp only; rw [ht, if_pos (Int.natCast_nonneg t), if_neg (show ¬ sn_cmp .le x 0 = true from fun z => hc (of_decide_eq_true z))]) (k2 hc)
theorem sn_q_iceq {t : Nat} (hb : sn_bc M = cc) (hd : decode cc pc = .ok (.if_icmp .eq n, 3)) (ht : (pc : Int) + n = (t : Int)) (k1 : x = y → sn_Wp M t lv st h Q) (k2 : ¬ (x = y) → sn_Wp M (pc + 3) lv st h Q) : sn_Wp M pc lv (sn_i y :: sn_i x :: st) h Q := by
  by_cases hc : x = y
  · exact sn_q_go (d := (t, lv, st, h)) hb hd rfl (by unfold sn_do; dsimp only; rw [ht, if_pos (Int.natCast_nonneg t), if_pos (show sn_cmp .eq x y = true from decide_eq_true hc)]; rfl) (k1 hc)
  · exact sn_q_go (d := (pc + 3, lv, st, h)) hb hd rfl (by unfold sn_do; dsimp only; rw [ht, if_pos (Int.natCast_nonneg t), if_neg (show ¬ sn_cmp .eq x y = true from fun z => hc (of_decide_eq_true z))]) (k2 hc)
theorem sn_q_icne {t : Nat} (hb : sn_bc M = cc) (hd : decode cc pc = .ok (.if_icmp .ne n, 3)) (ht : (pc : Int) + n = (t : Int)) (k1 : x ≠ y → sn_Wp M t lv st h Q) (k2 : ¬ (x ≠ y) → sn_Wp M (pc + 3) lv st h Q) : sn_Wp M pc lv (sn_i y :: sn_i x :: st) h Q := by
  by_cases hc : x ≠ y
  · exact sn_q_go (d := (t, lv, st, h)) hb hd rfl (by unfold sn_do; dsimp only; rw [ht, if_pos (Int.natCast_nonneg t), if_pos (show sn_cmp .ne x y = true from decide_eq_true hc)]; rfl) (k1 hc)
  · exact sn_q_go (d := (pc + 3, lv, st, h)) hb hd rfl (by unfold sn_do; dsimp only; rw [ht, if_pos (Int.natCast_nonneg t), if_neg (show ¬ sn_cmp .ne x y = true from fun z => hc (of_decide_eq_true z))]) (k2 hc)
theorem sn_q_iclt {t : Nat} (hb : sn_bc M = cc) (hd : decode cc pc = .ok (.if_icmp .lt n, 3)) (ht : (pc : Int) + n = (t : Int)) (k1 : x < y → sn_Wp M t lv st h Q) (k2 : ¬ (x < y) → sn_Wp M (pc + 3) lv st h Q) : sn_Wp M pc lv (sn_i y :: sn_i x :: st) h Q := by
  by_cases hc : x < y
  · exact sn_q_go (d := (t, lv, st, h)) hb hd rfl (by unfold sn_do; dsimp only; rw [ht, if_pos (Int.natCast_nonneg t), if_pos (show sn_cmp .lt x y = true from decide_eq_true hc)]; rfl) (k1 hc)
  · exact sn_q_go (d := (pc + 3, lv, st, h)) hb hd rfl (by unfold sn_do; dsimp only; rw [ht, if_pos (Int.natCast_nonneg t), if_neg (show ¬ sn_cmp .lt x y = true from fun z => hc (of_decide_eq_true z))]) (k2 hc)
theorem sn_q_icge {t : Nat} (hb : sn_bc M = cc) (hd : decode cc pc = .ok (.if_icmp .ge n, 3)) (ht : (pc : Int) + n = (t : Int)) (k1 : y ≤ x → sn_Wp M t lv st h Q) (k2 : ¬ (y ≤ x) → sn_Wp M (pc + 3) lv st h Q) : sn_Wp M pc lv (sn_i y :: sn_i x :: st) h Q := by
  by_cases hc : y ≤ x
  · exact sn_q_go (d := (t, lv, st, h)) hb hd rfl (by unfold sn_do; dsimp only; rw [ht, if_pos (Int.natCast_nonneg t), if_pos (show sn_cmp .ge x y = true from decide_eq_true hc)]; rfl) (k1 hc)
  · exact sn_q_go (d := (pc + 3, lv, st, h)) hb hd rfl (by unfold sn_do; dsimp only; rw [ht, if_pos (Int.natCast_nonneg t), if_neg (show ¬ sn_cmp .ge x y = true from fun z => hc (of_decide_eq_true z))]) (k2 hc)
theorem sn_q_icgt {t : Nat} (hb : sn_bc M = cc) (hd : decode cc pc = .ok (.if_icmp .gt n, 3)) (ht : (pc : Int) + n = (t : Int)) (k1 : y < x → sn_Wp M t lv st h Q) (k2 : ¬ (y < x) → sn_Wp M (pc + 3) lv st h Q) : sn_Wp M pc lv (sn_i y :: sn_i x :: st) h Q := by
  by_cases hc : y < x
  · exact sn_q_go (d := (t, lv, st, h)) hb hd rfl (by unfold sn_do; dsimp only; rw [ht, if_pos (Int.natCast_nonneg t), if_pos (show sn_cmp .gt x y = true from decide_eq_true hc)]; rfl) (k1 hc)
  · exact sn_q_go (d := (pc + 3, lv, st, h)) hb hd rfl (by unfold sn_do; dsimp only; rw [ht, if_pos (Int.natCast_nonneg t), if_neg (show ¬ sn_cmp .gt x y = true from fun z => hc (of_decide_eq_true z))]) (k2 hc)
theorem sn_q_icle {t : Nat} (hb : sn_bc M = cc) (hd : decode cc pc = .ok (.if_icmp .le n, 3)) (ht : (pc : Int) + n = (t : Int)) (k1 : x ≤ y → sn_Wp M t lv st h Q) (k2 : ¬ (x ≤ y) → sn_Wp M (pc + 3) lv st h Q) : sn_Wp M pc lv (sn_i y :: sn_i x :: st) h Q := by
  by_cases hc : x ≤ y
  · exact sn_q_go (d := (t, lv, st, h)) hb hd rfl (by unfold sn_do; dsimp only; rw [ht, if_pos (Int.natCast_nonneg t), if_pos (show sn_cmp .le x y = true from decide_eq_true hc)]; rfl) (k1 hc)
  · exact sn_q_go (d := (pc + 3, lv, st, h)) hb hd rfl (by unfold sn_do; dsimp only; rw [ht, if_pos (Int.natCast_nonneg t), if_neg (show ¬ sn_cmp .le x y = true from fun z => hc (of_decide_eq_true z))]) (k2 hc)
theorem sn_q_sw {t len : Nat} {dflt lo hi off : Int} {offs : Array Int} (hb : sn_bc M = cc) (hd : decode cc pc = .ok (.tableswitch dflt lo hi offs, len)) (h1 : ¬ (x < lo ∨ hi < x)) (ho : offs[(x - lo).toNat]? = some off) (ht : (pc : Int) + off = (t : Int)) (k : sn_Wp M t lv st h Q) : sn_Wp M pc lv (sn_i x :: st) h Q := sn_q_go (d := (t, lv, st, h)) hb hd (by rw [show sn_len (Instr.tableswitch dflt lo hi offs) = 0 from rfl]; simp) (by unfold sn_do; dsimp only; rw [if_neg h1, ho]; dsimp only; unfold sn_goto; rw [ht, if_pos (Int.natCast_nonneg t)]; rfl) k
theorem sn_q_swD {t len : Nat} {dflt lo hi : Int} {offs : Array Int} (hb : sn_bc M = cc) (hd : decode cc pc = .ok (.tableswitch dflt lo hi offs, len)) (h1 : x < lo ∨ hi < x) (ht : (pc : Int) + dflt = (t : Int)) (k : sn_Wp M t lv st h Q) : sn_Wp M pc lv (sn_i x :: st) h Q := sn_q_go (d := (t, lv, st, h)) hb hd (by rw [show sn_len (Instr.tableswitch dflt lo hi offs) = 0 from rfl]; simp) (by unfold sn_do; dsimp only; rw [if_pos h1]; unfold sn_goto; rw [ht, if_pos (Int.natCast_nonneg t)]; rfl) k
theorem sn_q_ldc {o : Nat} (hb : sn_bc M = cc) (hd : decode cc pc = .ok (.ldc i, 2)) (ho : sn_oc M = o) (hf : sn_pi o i = some x) (hn : sn_inR x = true) (k : sn_Wp M (pc + 2) lv (sn_i x :: st) h Q) : sn_Wp M pc lv st h Q := sn_q_go (d := (pc + 2, lv, sn_i x :: st, h)) hb hd rfl (by unfold sn_do; dsimp only; rw [ho, hf]; dsimp only; rw [if_pos hn]) k
theorem sn_q_ldc2 {o : Nat} (hb : sn_bc M = cc) (hd : decode cc pc = .ok (.ldc2_w i, 3)) (ho : sn_oc M = o) (hf : sn_pl o i = some x) (hn : sn_wl x = x) (k : sn_Wp M (pc + 3) lv (sn_l x :: st) h Q) : sn_Wp M pc lv st h Q := sn_q_go (d := (pc + 3, lv, sn_l x :: st, h)) hb hd rfl (by unfold sn_do; dsimp only; rw [ho, hf]; dsimp only; rw [if_pos (decide_eq_true hn)]) k
theorem sn_q_alen {q : Nat} (hb : sn_bc M = cc) (hd : decode cc pc = .ok (.arraylength, 1)) (h1 : q < h.1) (h2 : (h.2.2.1 q).1 = 100) (k : sn_Wp M (pc + 1) lv (sn_i ((h.2.2.1 q).2 : Int) :: st) h Q) : sn_Wp M pc lv (sn_r q :: st) h Q := sn_q_go (d := (pc + 1, lv, sn_i ((h.2.2.1 q).2 : Int) :: st, h)) hb hd rfl (if_pos (by rw [decide_eq_true h1, decide_eq_true h2]; rfl)) k
theorem sn_q_iret (hb : sn_bc M = cc) (hd : decode cc pc = .ok (.ireturn, 1)) (hr : sn_rk M = 0) (k : Q (some (sn_i x)) h) : sn_Wp M pc lv [sn_i x] h Q := sn_q_end (o := (some (sn_i x), h)) hb hd rfl (by unfold sn_do; dsimp only; rw [hr]; rfl) k
theorem sn_q_zret (hb : sn_bc M = cc) (hd : decode cc pc = .ok (.ireturn, 1)) (hr : sn_rk M = 1) (hx : x = 0 ∨ x = 1) (k : Q (some (sn_i x)) h) : sn_Wp M pc lv [sn_i x] h Q := sn_q_end (o := (some (sn_i x), h)) hb hd rfl (by unfold sn_do; dsimp only; rw [hr]; rcases hx with rfl | rfl <;> rfl) k
theorem sn_q_lret (hb : sn_bc M = cc) (hd : decode cc pc = .ok (.lreturn, 1)) (hr : sn_rk M = 2) (k : Q (some (sn_l x)) h) : sn_Wp M pc lv [sn_l x] h Q := sn_q_end (o := (some (sn_l x), h)) hb hd rfl (if_pos hr) k
theorem sn_q_dret {a : UInt64} (hb : sn_bc M = cc) (hd : decode cc pc = .ok (.dreturn, 1)) (hr : sn_rk M = 3) (k : Q (some (sn_d a)) h) : sn_Wp M pc lv [sn_d a] h Q := sn_q_end (o := (some (sn_d a), h)) hb hd rfl (if_pos hr) k
theorem sn_q_vret (hb : sn_bc M = cc) (hd : decode cc pc = .ok (.return_, 1)) (hr : sn_rk M = 4) (k : Q none h) : sn_Wp M pc lv [] h Q := sn_q_end (o := (none, h)) hb hd rfl (if_pos hr) k
theorem sn_q_max {o : Nat} (hb : sn_bc M = cc) (hd : decode cc pc = .ok (.invokestatic i, 3)) (ho : sn_oc M = o) (hf : sn_px o i = some 1) (hc : (decide (1 ≤ sn_fr M) && decide (21 ≤ sn_lo M) && decide (st.length ≤ 4)) = true) (k : sn_Wp M (pc + 3) lv (sn_i (if x < y then y else x) :: st) h Q) : sn_Wp M pc lv (sn_i y :: sn_i x :: st) h Q := sn_q_go (d := (pc + 3, lv, sn_i (if x < y then y else x) :: st, h)) hb hd rfl (by unfold sn_do; dsimp only; rw [ho, hf]; exact if_pos hc) k
theorem sn_q_min {o : Nat} (hb : sn_bc M = cc) (hd : decode cc pc = .ok (.invokestatic i, 3)) (ho : sn_oc M = o) (hf : sn_px o i = some 2) (hc : (decide (1 ≤ sn_fr M) && decide (21 ≤ sn_lo M) && decide (st.length ≤ 4)) = true) (k : sn_Wp M (pc + 3) lv (sn_i (if y < x then y else x) :: st) h Q) : sn_Wp M pc lv (sn_i y :: sn_i x :: st) h Q := sn_q_go (d := (pc + 3, lv, sn_i (if y < x then y else x) :: st, h)) hb hd rfl (by unfold sn_do; dsimp only; rw [ho, hf]; exact if_pos hc) k
theorem sn_q_abs {o : Nat} (hb : sn_bc M = cc) (hd : decode cc pc = .ok (.invokestatic i, 3)) (ho : sn_oc M = o) (hf : sn_px o i = some 0) (hc : (decide (1 ≤ sn_fr M) && decide (21 ≤ sn_lo M) && decide (st.length ≤ 4)) = true) (h1 : -2147483648 < x) (h2 : x ≤ 2147483647) (k : sn_Wp M (pc + 3) lv (sn_i (if 0 ≤ x then x else 0 - x) :: st) h Q) : sn_Wp M pc lv (sn_i x :: st) h Q := sn_q_go (d := (pc + 3, lv, sn_i (sn_wr (if 0 ≤ x then x else 0 - x)) :: st, h)) hb hd rfl (by unfold sn_do; dsimp only; rw [ho, hf]; exact if_pos hc) (by rw [sn_wr_id (by split <;> omega) (by split <;> omega)]; exact k)
theorem sn_q_invS {o j a : Nat} {ent : List sn_V} (hb : sn_bc M = cc) (hd : decode cc pc = .ok (.invokestatic i, 3)) (ho : sn_oc M = o) (hx : sn_px o i = none) (hf : sn_ps o i = some (j, a)) (hj : ¬ j = 88) (hc : (decide (sn_fr j + 1 ≤ sn_fr M) && decide (sn_lo j + sn_ml j + 19 ≤ sn_lo M) && decide (a ≤ st.length) && decide ((st.drop a).length ≤ 4) && decide ((sn_lay (st.take a).reverse).length ≤ sn_ml j) && (sn_hl j || (st.take a).all (fun v => !sn_two v))) = true) (he : sn_ent j (st.take a).reverse = ent) {st2 : List sn_V} (hs : st.drop a = st2)
    (k : sn_Wp j 0 ent [] h (sn_bk M (pc + 3) lv st2 Q)) : sn_Wp M pc lv st h Q := by
  subst he; subst hs
  exact sn_q_call (d := (j, (st.take a).reverse, pc + 3, lv, st.drop a, h)) hb hd rfl (by unfold sn_do; dsimp only; rw [ho, hx]; dsimp only; rw [hf]; exact if_pos hc) (if_neg hj) k
theorem sn_q_invV {o j a q : Nat} {ent : List sn_V} (hb : sn_bc M = cc) (hd : decode cc pc = .ok (.invokevirtual i, 3)) (ho : sn_oc M = o) (hf : sn_pv o i = some (j, a)) (hj : ¬ j = 88) {r : List sn_V} (hq : st.drop a = sn_r q :: r) (hq2 : 2 ≤ q) (hq1 : q < h.1) (ht : (h.2.2.1 q).1 = sn_oc j) (hc : (decide (sn_fr j + 1 ≤ sn_fr M) && decide (sn_lo j + sn_ml j + 19 ≤ sn_lo M) && decide (a + 1 ≤ st.length) && decide ((st.drop (a + 1)).length ≤ 4) && decide ((sn_lay (st.take (a + 1)).reverse).length ≤ sn_ml j) && (sn_hl j || (st.take (a + 1)).all (fun v => !sn_two v))) = true) (he : sn_ent j (st.take (a + 1)).reverse = ent) {st2 : List sn_V} (hs : st.drop (a + 1) = st2)
    (k : sn_Wp j 0 ent [] h (sn_bk M (pc + 3) lv st2 Q)) : sn_Wp M pc lv st h Q := by
  subst he; subst hs
  exact sn_q_call (d := (j, (st.take (a + 1)).reverse, pc + 3, lv, st.drop (a + 1), h)) hb hd rfl (by unfold sn_do; dsimp only; rw [ho, hf]; dsimp only; rw [hq]; dsimp only; rw [if_pos (by rw [decide_eq_true hq2, decide_eq_true hq1, decide_eq_true ht]; rfl)]; exact if_pos hc) (if_neg hj) k
theorem sn_q_invC {o j a q : Nat} {ent : List sn_V} (hb : sn_bc M = cc) (hd : decode cc pc = .ok (.invokespecial i, 3)) (ho : sn_oc M = o) (hf : sn_pc o i = some (j, a)) (hj : ¬ j = 88) (hj2 : j < 200) {r : List sn_V} (hq : st.drop a = sn_r q :: r) (hq2 : 2 ≤ q) (hq1 : q < h.1) (hc : (decide (sn_fr j + 1 ≤ sn_fr M) && decide (sn_lo j + sn_ml j + 19 ≤ sn_lo M) && decide (a + 1 ≤ st.length) && decide ((st.drop (a + 1)).length ≤ 4) && decide ((sn_lay (st.take (a + 1)).reverse).length ≤ sn_ml j) && (sn_hl j || (st.take (a + 1)).all (fun v => !sn_two v))) = true) (he : sn_ent j (st.take (a + 1)).reverse = ent) {st2 : List sn_V} (hs : st.drop (a + 1) = st2)
    (k : sn_Wp j 0 ent [] h (sn_bk M (pc + 3) lv st2 Q)) : sn_Wp M pc lv st h Q := by
  subst he; subst hs
  refine sn_q_call (d := (j, (st.take (a + 1)).reverse, pc + 3, lv, st.drop (a + 1), h)) hb hd rfl ?_ (if_neg hj) k
  unfold sn_do
  dsimp only
  rw [ho, hf]
  split
  · rename_i e1
    cases e1
    omega
  · rename_i e1
    cases e1
    rw [hq]
    dsimp only
    rw [if_pos (by rw [decide_eq_true hq2, decide_eq_true hq1]; rfl)]
    exact if_pos hc
  · rename_i e1
    cases e1
theorem sn_q_obj {o a q : Nat} (hb : sn_bc M = cc) (hd : decode cc pc = .ok (.invokespecial i, 3)) (ho : sn_oc M = o) (hf : sn_pc o i = some (200, a)) (hc : (decide (2 ≤ q) && decide (q < h.1) && decide (1 ≤ sn_fr M) && decide (20 ≤ sn_lo M) && decide (st.length ≤ 4)) = true) (k : sn_Wp M (pc + 3) lv st h Q) : sn_Wp M pc lv (sn_r q :: st) h Q := sn_q_go (d := (pc + 3, lv, st, h)) hb hd rfl (by unfold sn_do; dsimp only; rw [ho, hf]; exact if_pos hc) k
end SNV
