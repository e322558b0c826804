/-! ===== every instruction that goes on to a next one (by program, wip/p32/dispatch.py) ===== -/
set_option maxHeartbeats 4000000 in
theorem sn_next {G : sn_P} {M pc len : Nat} {ins : Instr} {lv st : List sn_V} {h : sn_H} {d : Nat × List sn_V × List sn_V × sn_H} (hd : decode (sn_bc M) pc = .ok (ins, len)) (hlen : len = sn_len ins ∨ sn_len ins = 0) (hg : sn_do M pc ins lv st h = some (.inl d)) :
    (h.1 ≤ d.2.2.2.1 ∧ h.2.1 ≤ d.2.2.2.2.1) ∧ ∀ {p : Program} {l : Launch} {e : Env} {R : Room} {s : State} {m : MethodId} {args : Array Value} {below : List Frame} {meth : Method} {c : Code} {H : Heap} {locs : List Loc} {cells slots : Nat} {Q : State → Prop} {ls : Array Slot} (X : sn_Cx G M p R s m args meth c) (S : sn_Sr G M s H locs ls lv st h) (hc : cells + (d.2.2.2.1 - h.1) ≤ R.cells) (hs : slots + (d.2.2.2.2.1 - h.2.1) ≤ R.slots) (kk : sn_K G M p l e R s m args below meth c cells slots Q h d), W p l e R s m args below meth c H locs cells slots Q (F0 m pc ls (st.map (sn_tr G))) := by
  have L : ∀ {k : Nat}, sn_len ins = k → k ≠ 0 → len = k := fun h1 h2 => hlen.elim (fun h => h.trans h1) (fun h => absurd (h1.symm.trans h) h2)
  have Z : ∀ x : sn_O, (none : Option sn_O) = some x → False := fun _ h => nomatch h
  cases ins
  case iadd =>
    obtain rfl := L (k := 1) rfl (by decide)
    rcases st with _ | ⟨y | y, _ | ⟨x | x, r⟩⟩ <;> first | (exact (Z _ hg).elim) | skip
    cases hg
    exact ⟨⟨Nat.le_refl _, Nat.le_refl _⟩, fun X S hc hs kk => sn_k_iadd X hd S kk⟩
  case isub =>
    obtain rfl := L (k := 1) rfl (by decide)
    rcases st with _ | ⟨y | y, _ | ⟨x | x, r⟩⟩ <;> first | (exact (Z _ hg).elim) | skip
    cases hg
    exact ⟨⟨Nat.le_refl _, Nat.le_refl _⟩, fun X S hc hs kk => sn_k_isub X hd S kk⟩
  case imul =>
    obtain rfl := L (k := 1) rfl (by decide)
    rcases st with _ | ⟨y | y, _ | ⟨x | x, r⟩⟩ <;> first | (exact (Z _ hg).elim) | skip
    cases hg
    exact ⟨⟨Nat.le_refl _, Nat.le_refl _⟩, fun X S hc hs kk => sn_k_imul X hd S kk⟩
  case iand =>
    obtain rfl := L (k := 1) rfl (by decide)
    rcases st with _ | ⟨y | y, _ | ⟨x | x, r⟩⟩ <;> first | (exact (Z _ hg).elim) | skip
    cases hg
    exact ⟨⟨Nat.le_refl _, Nat.le_refl _⟩, fun X S hc hs kk => sn_k_iand X hd S kk⟩
  case ishr =>
    obtain rfl := L (k := 1) rfl (by decide)
    rcases st with _ | ⟨y | y, _ | ⟨x | x, r⟩⟩ <;> first | (exact (Z _ hg).elim) | skip
    cases hg
    exact ⟨⟨Nat.le_refl _, Nat.le_refl _⟩, fun X S hc hs kk => sn_k_ishr X hd S kk⟩
  case idiv =>
    obtain rfl := L (k := 1) rfl (by decide)
    rcases st with _ | ⟨y | y, _ | ⟨x | x, r⟩⟩ <;> first | (exact (Z _ hg).elim) | skip
    by_cases hy : y = 0
    · replace hg := (if_pos hy).symm.trans hg; exact (Z _ hg).elim
    · replace hg := (if_neg hy).symm.trans hg; cases hg; exact ⟨⟨Nat.le_refl _, Nat.le_refl _⟩, fun X S hc hs kk => sn_k_idiv X hd S hy kk⟩
  case irem =>
    obtain rfl := L (k := 1) rfl (by decide)
    rcases st with _ | ⟨y | y, _ | ⟨x | x, r⟩⟩ <;> first | (exact (Z _ hg).elim) | skip
    by_cases hy : y = 0
    · replace hg := (if_pos hy).symm.trans hg; exact (Z _ hg).elim
    · replace hg := (if_neg hy).symm.trans hg; cases hg; exact ⟨⟨Nat.le_refl _, Nat.le_refl _⟩, fun X S hc hs kk => sn_k_irem X hd S hy kk⟩
  case ladd =>
    obtain rfl := L (k := 1) rfl (by decide)
    rcases st with _ | ⟨y | y | y | y, _ | ⟨x | x | x | x, r⟩⟩ <;> first | (exact (Z _ hg).elim) | skip
    cases hg
    exact ⟨⟨Nat.le_refl _, Nat.le_refl _⟩, fun X S hc hs kk => sn_k_ladd X hd S kk⟩
  case lmul =>
    obtain rfl := L (k := 1) rfl (by decide)
    rcases st with _ | ⟨y | y | y | y, _ | ⟨x | x | x | x, r⟩⟩ <;> first | (exact (Z _ hg).elim) | skip
    cases hg
    exact ⟨⟨Nat.le_refl _, Nat.le_refl _⟩, fun X S hc hs kk => sn_k_lmul X hd S kk⟩
  case lcmp =>
    obtain rfl := L (k := 1) rfl (by decide)
    rcases st with _ | ⟨y | y | y | y, _ | ⟨x | x | x | x, r⟩⟩ <;> first | (exact (Z _ hg).elim) | skip
    cases hg
    exact ⟨⟨Nat.le_refl _, Nat.le_refl _⟩, fun X S hc hs kk => sn_k_lcmp X hd S kk⟩
  case ddiv =>
    obtain rfl := L (k := 1) rfl (by decide)
    rcases st with _ | ⟨y | y | y | y | y, _ | ⟨x | x | x | x | x, r⟩⟩ <;> first | (exact (Z _ hg).elim) | skip
    by_cases hy : FP.ddiv x y &&& 0x7fffffffffffffff ≤ 0x7ff0000000000000
    · replace hg := (if_pos (decide_eq_true hy)).symm.trans hg; cases hg; exact ⟨⟨Nat.le_refl _, Nat.le_refl _⟩, fun X S hc hs kk => sn_k_ddiv X hd S hy kk⟩
    · replace hg := (if_neg (fun z => hy (of_decide_eq_true z))).symm.trans hg; exact (Z _ hg).elim
  case dcmp op =>
    obtain rfl := L (k := 1) rfl (by decide)
    rcases st with _ | ⟨y | y | y | y | y, _ | ⟨x | x | x | x | x, r⟩⟩ <;> first | (exact (Z _ hg).elim) | skip
    cases hg
    exact ⟨⟨Nat.le_refl _, Nat.le_refl _⟩, fun X S hc hs kk => sn_k_dcmp X hd S kk⟩
  case i2l =>
    obtain rfl := L (k := 1) rfl (by decide)
    rcases st with _ | ⟨y | y, r⟩ <;> first | (exact (Z _ hg).elim) | skip
    cases hg
    exact ⟨⟨Nat.le_refl _, Nat.le_refl _⟩, fun X S hc hs kk => sn_k_i2l X hd S kk⟩
  case i2d =>
    obtain rfl := L (k := 1) rfl (by decide)
    rcases st with _ | ⟨y | y, r⟩ <;> first | (exact (Z _ hg).elim) | skip
    cases hg
    exact ⟨⟨Nat.le_refl _, Nat.le_refl _⟩, fun X S hc hs kk => sn_k_i2d X hd S kk⟩
  case iconst n =>
    obtain rfl := L (k := 1) rfl (by decide)
    by_cases hn : sn_inR n = true
    · replace hg := (if_pos hn).symm.trans hg; cases hg; exact ⟨⟨Nat.le_refl _, Nat.le_refl _⟩, fun X S hc hs kk => sn_k_iconst X hd S hn kk⟩
    · replace hg := (if_neg hn).symm.trans hg; exact (Z _ hg).elim
  case bipush n =>
    obtain rfl := L (k := 2) rfl (by decide)
    by_cases hn : (decide (-128 ≤ n) && decide (n ≤ 127)) = true
    · replace hg := (if_pos hn).symm.trans hg
      cases hg
      simp only [Bool.and_eq_true, decide_eq_true_eq] at hn
      exact ⟨⟨Nat.le_refl _, Nat.le_refl _⟩, fun X S hc hs kk => sn_k_bipush X hd S hn.1 hn.2 kk⟩
    · replace hg := (if_neg hn).symm.trans hg; exact (Z _ hg).elim
  case sipush n =>
    obtain rfl := L (k := 3) rfl (by decide)
    by_cases hn : (decide (-32768 ≤ n) && decide (n ≤ 32767)) = true
    · replace hg := (if_pos hn).symm.trans hg
      cases hg
      simp only [Bool.and_eq_true, decide_eq_true_eq] at hn
      exact ⟨⟨Nat.le_refl _, Nat.le_refl _⟩, fun X S hc hs kk => sn_k_sipush X hd S hn.1 hn.2 kk⟩
    · replace hg := (if_neg hn).symm.trans hg; exact (Z _ hg).elim
  case dconst n =>
    obtain rfl := L (k := 1) rfl (by decide)
    by_cases hn : n = 0
    · replace hg := (if_pos hn).symm.trans hg
      cases hg
      subst hn
      exact ⟨⟨Nat.le_refl _, Nat.le_refl _⟩, fun X S hc hs kk => sn_k_dconst X hd S kk⟩
    · replace hg := (if_neg hn).symm.trans hg; exact (Z _ hg).elim
  case ldc i =>
    obtain rfl := L (k := 2) rfl (by decide)
    have hg : (match sn_pi (sn_oc M) i with | some z => if sn_inR z then some (Sum.inl (pc + 2, lv, sn_i z :: st, h)) else none | none => none : Option sn_O) = some (.inl d) := hg
    cases hp : sn_pi (sn_oc M) i with
    | none => rw [hp] at hg; exact (Z _ hg).elim
    | some z =>
      rw [hp] at hg
      by_cases hn : sn_inR z = true
      · replace hg := (if_pos hn).symm.trans hg
        cases hg
        exact ⟨⟨Nat.le_refl _, Nat.le_refl _⟩, fun X S hc hs kk => sn_k_ldc X hd S hp hn kk⟩
      · replace hg := (if_neg hn).symm.trans hg; exact (Z _ hg).elim
  case ldc2_w i =>
    obtain rfl := L (k := 3) rfl (by decide)
    have hg : (match sn_pl (sn_oc M) i with | some z => if decide (sn_wl z = z) then some (Sum.inl (pc + 3, lv, sn_l z :: st, h)) else none | none => none : Option sn_O) = some (.inl d) := hg
    cases hp : sn_pl (sn_oc M) i with
    | none => rw [hp] at hg; exact (Z _ hg).elim
    | some z =>
      rw [hp] at hg
      by_cases hn : decide (sn_wl z = z) = true
      · replace hg := (if_pos hn).symm.trans hg
        cases hg
        exact ⟨⟨Nat.le_refl _, Nat.le_refl _⟩, fun X S hc hs kk => sn_k_ldc2 X hd S hp (of_decide_eq_true hn) kk⟩
      · replace hg := (if_neg hn).symm.trans hg; exact (Z _ hg).elim
  case iload_n k =>
    obtain rfl := L (k := 1) rfl (by decide)
    have hg : sn_ld (pc + 1) lv st h k.val sn_isI = some (.inl d) := hg
    obtain ⟨v, hv, hok, rfl⟩ := sn_ld_eq hg
    rcases v with v | v <;> first | (exact absurd (show false = true from hok) (by decide)) | skip
    exact ⟨⟨Nat.le_refl _, Nat.le_refl _⟩, fun X S hc hs kk => sn_k_ld_in X hd S hv kk⟩
  case iload k =>
    obtain rfl := L (k := 2) rfl (by decide)
    have hg : sn_ld (pc + 2) lv st h k sn_isI = some (.inl d) := hg
    obtain ⟨v, hv, hok, rfl⟩ := sn_ld_eq hg
    rcases v with v | v <;> first | (exact absurd (show false = true from hok) (by decide)) | skip
    exact ⟨⟨Nat.le_refl _, Nat.le_refl _⟩, fun X S hc hs kk => sn_k_ld_i X hd S hv kk⟩
  case aload_n k =>
    obtain rfl := L (k := 1) rfl (by decide)
    have hg : sn_ld (pc + 1) lv st h k.val sn_isA = some (.inl d) := hg
    obtain ⟨v, hv, hok, rfl⟩ := sn_ld_eq hg
    rcases v with v | v | v <;> first | (exact absurd (show false = true from hok) (by decide)) | skip
    exact ⟨⟨Nat.le_refl _, Nat.le_refl _⟩, fun X S hc hs kk => sn_k_ld_an X hd S hv kk⟩
  case aload k =>
    obtain rfl := L (k := 2) rfl (by decide)
    have hg : sn_ld (pc + 2) lv st h k sn_isA = some (.inl d) := hg
    obtain ⟨v, hv, hok, rfl⟩ := sn_ld_eq hg
    rcases v with v | v | v <;> first | (exact absurd (show false = true from hok) (by decide)) | skip
    exact ⟨⟨Nat.le_refl _, Nat.le_refl _⟩, fun X S hc hs kk => sn_k_ld_a X hd S hv kk⟩
  case lload_n k =>
    obtain rfl := L (k := 1) rfl (by decide)
    have hg : sn_ld (pc + 1) lv st h k.val sn_isL = some (.inl d) := hg
    obtain ⟨v, hv, hok, rfl⟩ := sn_ld_eq hg
    rcases v with v | v | v | v <;> first | (exact absurd (show false = true from hok) (by decide)) | skip
    exact ⟨⟨Nat.le_refl _, Nat.le_refl _⟩, fun X S hc hs kk => sn_k_ld_ln X hd S hv kk⟩
  case lload k =>
    obtain rfl := L (k := 2) rfl (by decide)
    have hg : sn_ld (pc + 2) lv st h k sn_isL = some (.inl d) := hg
    obtain ⟨v, hv, hok, rfl⟩ := sn_ld_eq hg
    rcases v with v | v | v | v <;> first | (exact absurd (show false = true from hok) (by decide)) | skip
    exact ⟨⟨Nat.le_refl _, Nat.le_refl _⟩, fun X S hc hs kk => sn_k_ld_l X hd S hv kk⟩
  case istore_n k =>
    obtain rfl := L (k := 1) rfl (by decide)
    rcases st with _ | ⟨y | y, r⟩ <;> first | (exact (Z _ hg).elim) | skip
    have hg : sn_so M (pc + 1) lv r h k.val (sn_i y) = some (.inl d) := hg
    obtain ⟨h1, h2, rfl⟩ := sn_so_eq hg
    exact ⟨⟨Nat.le_refl _, Nat.le_refl _⟩, fun X S hc hs kk => sn_k_st_in X hd S h1 h2 kk⟩
  case istore k =>
    obtain rfl := L (k := 2) rfl (by decide)
    rcases st with _ | ⟨y | y, r⟩ <;> first | (exact (Z _ hg).elim) | skip
    have hg : sn_so M (pc + 2) lv r h k (sn_i y) = some (.inl d) := hg
    obtain ⟨h1, h2, rfl⟩ := sn_so_eq hg
    exact ⟨⟨Nat.le_refl _, Nat.le_refl _⟩, fun X S hc hs kk => sn_k_st_i X hd S h1 h2 kk⟩
  case astore_n k =>
    obtain rfl := L (k := 1) rfl (by decide)
    rcases st with _ | ⟨y | (_ | y) | y, r⟩ <;> first | (exact (Z _ hg).elim) | skip
    have hg : sn_so M (pc + 1) lv r h k.val (sn_r y) = some (.inl d) := hg
    obtain ⟨h1, h2, rfl⟩ := sn_so_eq hg
    exact ⟨⟨Nat.le_refl _, Nat.le_refl _⟩, fun X S hc hs kk => sn_k_st_an X hd S h1 h2 kk⟩
  case astore k =>
    obtain rfl := L (k := 2) rfl (by decide)
    rcases st with _ | ⟨y | (_ | y) | y, r⟩ <;> first | (exact (Z _ hg).elim) | skip
    have hg : sn_so M (pc + 2) lv r h k (sn_r y) = some (.inl d) := hg
    obtain ⟨h1, h2, rfl⟩ := sn_so_eq hg
    exact ⟨⟨Nat.le_refl _, Nat.le_refl _⟩, fun X S hc hs kk => sn_k_st_a X hd S h1 h2 kk⟩
  case lstore_n k =>
    obtain rfl := L (k := 1) rfl (by decide)
    rcases st with _ | ⟨y | y | y | y, r⟩ <;> first | (exact (Z _ hg).elim) | skip
    have hg : sn_so2 M (pc + 1) lv r h k.val (sn_l y) = some (.inl d) := hg
    obtain ⟨h0, h1, h2, rfl⟩ := sn_so2_eq hg
    exact ⟨⟨Nat.le_refl _, Nat.le_refl _⟩, fun X S hc hs kk => sn_k_st_ln X hd S h0 h1 h2 kk⟩
  case lstore k =>
    obtain rfl := L (k := 2) rfl (by decide)
    rcases st with _ | ⟨y | y | y | y, r⟩ <;> first | (exact (Z _ hg).elim) | skip
    have hg : sn_so2 M (pc + 2) lv r h k (sn_l y) = some (.inl d) := hg
    obtain ⟨h0, h1, h2, rfl⟩ := sn_so2_eq hg
    exact ⟨⟨Nat.le_refl _, Nat.le_refl _⟩, fun X S hc hs kk => sn_k_st_l X hd S h0 h1 h2 kk⟩
  case iinc k n =>
    obtain rfl := L (k := 3) rfl (by decide)
    have hg : (match lv[k]? with | some (Sum.inl z) => sn_so M (pc + 3) lv st h k (sn_i (sn_wr (z + n))) | _ => none : Option sn_O) = some (.inl d) := hg
    cases hv : lv[k]? with
    | none => rw [hv] at hg; exact (Z _ hg).elim
    | some v =>
      rw [hv] at hg
      rcases v with z | z
      · obtain ⟨h1, h2, rfl⟩ := sn_so_eq hg
        exact ⟨⟨Nat.le_refl _, Nat.le_refl _⟩, fun X S hc hs kk => sn_k_iinc X hd S hv h1 h2 kk⟩
      · exact (Z _ hg).elim
  case dup =>
    obtain rfl := L (k := 1) rfl (by decide)
    rcases st with _ | ⟨v, r⟩
    · exact (Z _ hg).elim
    · by_cases hv : sn_isN v = true
      · replace hg := (if_pos hv).symm.trans hg
        cases hg
        exact ⟨⟨Nat.le_refl _, Nat.le_refl _⟩, fun X S hc hs kk => sn_k_dup X hd S hv kk⟩
      · replace hg := (if_neg hv).symm.trans hg; exact (Z _ hg).elim
  case pop =>
    obtain rfl := L (k := 1) rfl (by decide)
    rcases st with _ | ⟨v, r⟩
    · exact (Z _ hg).elim
    · by_cases hv : sn_isN v = true
      · replace hg := (if_pos hv).symm.trans hg
        cases hg
        exact ⟨⟨Nat.le_refl _, Nat.le_refl _⟩, fun X S hc hs kk => sn_k_pop X hd S hv kk⟩
      · replace hg := (if_neg hv).symm.trans hg; exact (Z _ hg).elim
  case dup2 =>
    obtain rfl := L (k := 1) rfl (by decide)
    rcases st with _ | ⟨v, _ | ⟨w, r⟩⟩
    · exact (Z _ hg).elim
    · exact (Z _ hg).elim
    · by_cases hv : (sn_isN v && sn_isN w) = true
      · replace hg := (if_pos hv).symm.trans hg
        cases hg
        rw [Bool.and_eq_true] at hv
        exact ⟨⟨Nat.le_refl _, Nat.le_refl _⟩, fun X S hc hs kk => sn_k_dup2 X hd S hv.1 hv.2 kk⟩
      · replace hg := (if_neg hv).symm.trans hg; exact (Z _ hg).elim
  case goto off =>
    obtain rfl := L (k := 3) rfl (by decide)
    have hg : sn_goto pc off lv st h = some (.inl d) := hg
    obtain ⟨-, e⟩ := sn_goto_eq hg
    exact ⟨by rw [e]; exact ⟨Nat.le_refl _, Nat.le_refl _⟩, fun X S hc hs kk => sn_k_goto X hd S hg kk⟩
  case ifCond cnd off =>
    obtain rfl := L (k := 3) rfl (by decide)
    rcases st with _ | ⟨x | x, r⟩ <;> first | (exact (Z _ hg).elim) | skip
    by_cases h0 : 0 ≤ (pc : Int) + off
    · replace hg := (if_pos h0).symm.trans hg
      cases hg
      refine ⟨?_, fun X S hc hs kk => ?_⟩
      · split <;> exact ⟨Nat.le_refl _, Nat.le_refl _⟩
      · cases cnd
        · exact sn_k_if_eq X hd S h0 kk
        · exact sn_k_if_ne X hd S h0 kk
        · exact sn_k_if_lt X hd S h0 kk
        · exact sn_k_if_ge X hd S h0 kk
        · exact sn_k_if_gt X hd S h0 kk
        · exact sn_k_if_le X hd S h0 kk
    · replace hg := (if_neg h0).symm.trans hg; exact (Z _ hg).elim
  case if_icmp cnd off =>
    obtain rfl := L (k := 3) rfl (by decide)
    rcases st with _ | ⟨y | y, _ | ⟨x | x, r⟩⟩ <;> first | (exact (Z _ hg).elim) | skip
    by_cases h0 : 0 ≤ (pc : Int) + off
    · replace hg := (if_pos h0).symm.trans hg
      cases hg
      refine ⟨?_, fun X S hc hs kk => ?_⟩
      · split <;> exact ⟨Nat.le_refl _, Nat.le_refl _⟩
      · cases cnd
        · exact sn_k_icmp_eq X hd S h0 kk
        · exact sn_k_icmp_ne X hd S h0 kk
        · exact sn_k_icmp_lt X hd S h0 kk
        · exact sn_k_icmp_ge X hd S h0 kk
        · exact sn_k_icmp_gt X hd S h0 kk
        · exact sn_k_icmp_le X hd S h0 kk
    · replace hg := (if_neg h0).symm.trans hg; exact (Z _ hg).elim
  case tableswitch dflt lo hi offs =>
    rcases st with _ | ⟨x | x, r⟩ <;> first | (exact (Z _ hg).elim) | skip
    have hg : (if x < lo ∨ hi < x then sn_goto pc dflt lv r h else match offs[(x - lo).toNat]? with | some off => sn_goto pc off lv r h | none => none : Option sn_O) = some (.inl d) := hg
    by_cases hx : x < lo ∨ hi < x
    · rw [if_pos hx] at hg
      obtain ⟨h1, rfl⟩ := sn_goto_eq hg
      exact ⟨⟨Nat.le_refl _, Nat.le_refl _⟩, fun X S hc hs kk => sn_k_swO X hd S hx h1 kk⟩
    · rw [if_neg hx] at hg
      cases ho : offs[(x - lo).toNat]? with
      | none => rw [ho] at hg; exact (Z _ hg).elim
      | some off =>
        rw [ho] at hg
        have hg : sn_goto pc off lv r h = some (.inl d) := hg
        obtain ⟨h1, rfl⟩ := sn_goto_eq hg
        exact ⟨⟨Nat.le_refl _, Nat.le_refl _⟩, fun X S hc hs kk => sn_k_swI X hd S (fun z => hx (Or.inl z)) (fun z => hx (Or.inr z)) ho h1 kk⟩
  case getfield i =>
    obtain rfl := L (k := 3) rfl (by decide)
    rcases st with _ | ⟨y | (_ | q) | y, r⟩ <;> first | (exact (Z _ hg).elim) | skip
    unfold sn_do at hg
    dsimp only at hg
    cases hp : sn_pf (sn_oc M) i with
    | none => rw [hp] at hg; exact (Z _ hg).elim
    | some z =>
      obtain ⟨ci, k⟩ := z
      rw [hp] at hg
      by_cases hv : (decide (2 ≤ q) && decide (q < h.1) && decide ((h.2.2.1 q).1 = ci)) = true
      · replace hg := (if_pos hv).symm.trans hg
        cases hg
        simp only [Bool.and_eq_true, decide_eq_true_eq] at hv
        exact ⟨⟨Nat.le_refl _, Nat.le_refl _⟩, fun X S hc hs kk => sn_k_getf X hd S hp hv.1.1 hv.1.2 hv.2 kk⟩
      · replace hg := (if_neg hv).symm.trans hg; exact (Z _ hg).elim
  case putfield i =>
    obtain rfl := L (k := 3) rfl (by decide)
    rcases st with _ | ⟨v, _ | ⟨y | (_ | q) | y, r⟩⟩ <;> first | (exact (Z _ hg).elim) | skip
    unfold sn_do at hg
    dsimp only at hg
    cases hp : sn_pf (sn_oc M) i with
    | none => rw [hp] at hg; exact (Z _ hg).elim
    | some z =>
      obtain ⟨ci, k⟩ := z
      rw [hp] at hg
      by_cases hv : (decide (2 ≤ q) && decide (q < h.1) && decide ((h.2.2.1 q).1 = ci) && sn_fits (sn_ft ci k) v && (!sn_ff ci k || (sn_in M && decide (sn_oc M = ci)))) = true
      · replace hg := (if_pos hv).symm.trans hg
        cases hg
        simp only [Bool.and_eq_true, Bool.or_eq_true, Bool.not_eq_true', decide_eq_true_eq] at hv
        exact ⟨⟨Nat.le_refl _, Nat.le_refl _⟩, fun X S hc hs kk => sn_k_putf X hd S hp hv.1.1.1.1 hv.1.1.1.2 hv.1.1.2 hv.1.2 hv.2 kk⟩
      · replace hg := (if_neg hv).symm.trans hg; exact (Z _ hg).elim
  case getstatic i =>
    obtain rfl := L (k := 3) rfl (by decide)
    by_cases hv : (decide (sn_oc M = 9) && decide (i = 458)) = true
    · replace hg := (if_pos hv).symm.trans hg
      cases hg
      simp only [Bool.and_eq_true, decide_eq_true_eq] at hv
      obtain ⟨hv1, rfl⟩ := hv
      exact ⟨⟨Nat.le_refl _, Nat.le_refl _⟩, fun X S hc hs kk => sn_k_gets X hd hv1 S kk⟩
    · replace hg := (if_neg hv).symm.trans hg; exact (Z _ hg).elim
  case iaload =>
    obtain rfl := L (k := 1) rfl (by decide)
    rcases st with _ | ⟨i | i, _ | ⟨y | (_ | q) | y, r⟩⟩ <;> first | (exact (Z _ hg).elim) | skip
    by_cases hv : sn_idx h q i 100 = true
    · replace hg := (if_pos hv).symm.trans hg
      cases hg
      exact ⟨⟨Nat.le_refl _, Nat.le_refl _⟩, fun X S hc hs kk => sn_k_iald X hd S hv kk⟩
    · replace hg := (if_neg hv).symm.trans hg; exact (Z _ hg).elim
  case baload =>
    obtain rfl := L (k := 1) rfl (by decide)
    rcases st with _ | ⟨i | i, _ | ⟨y | (_ | q) | y, r⟩⟩ <;> first | (exact (Z _ hg).elim) | skip
    by_cases hv : sn_idx h q i 101 = true
    · replace hg := (if_pos hv).symm.trans hg
      cases hg
      exact ⟨⟨Nat.le_refl _, Nat.le_refl _⟩, fun X S hc hs kk => sn_k_bald X hd S hv kk⟩
    · replace hg := (if_neg hv).symm.trans hg; exact (Z _ hg).elim
  case aaload =>
    obtain rfl := L (k := 1) rfl (by decide)
    rcases st with _ | ⟨i | i, _ | ⟨y | (_ | q) | y, r⟩⟩ <;> first | (exact (Z _ hg).elim) | skip
    by_cases hv : sn_idx h q i 102 = true
    · replace hg := (if_pos hv).symm.trans hg
      cases hg
      exact ⟨⟨Nat.le_refl _, Nat.le_refl _⟩, fun X S hc hs kk => sn_k_aald X hd S hv kk⟩
    · replace hg := (if_neg hv).symm.trans hg; exact (Z _ hg).elim
  case iastore =>
    obtain rfl := L (k := 1) rfl (by decide)
    rcases st with _ | ⟨z | z, _ | ⟨i | i, _ | ⟨y | (_ | q) | y, r⟩⟩⟩ <;> first | (exact (Z _ hg).elim) | skip
    by_cases hv : (sn_idx h q i 100 && decide (2 ≤ q)) = true
    · replace hg := (if_pos hv).symm.trans hg
      cases hg
      simp only [Bool.and_eq_true, decide_eq_true_eq] at hv
      exact ⟨⟨Nat.le_refl _, Nat.le_refl _⟩, fun X S hc hs kk => sn_k_iast X hd S hv.1 hv.2 kk⟩
    · replace hg := (if_neg hv).symm.trans hg; exact (Z _ hg).elim
  case bastore =>
    obtain rfl := L (k := 1) rfl (by decide)
    rcases st with _ | ⟨z | z, _ | ⟨i | i, _ | ⟨y | (_ | q) | y, r⟩⟩⟩ <;> first | (exact (Z _ hg).elim) | skip
    by_cases hv : (sn_idx h q i 101 && decide (2 ≤ q) && (decide (z = 0) || decide (z = 1))) = true
    · replace hg := (if_pos hv).symm.trans hg
      cases hg
      simp only [Bool.and_eq_true, Bool.or_eq_true, decide_eq_true_eq] at hv
      exact ⟨⟨Nat.le_refl _, Nat.le_refl _⟩, fun X S hc hs kk => sn_k_bast X hd S hv.1.1 hv.1.2 hv.2 kk⟩
    · replace hg := (if_neg hv).symm.trans hg; exact (Z _ hg).elim
  case arraylength =>
    obtain rfl := L (k := 1) rfl (by decide)
    rcases st with _ | ⟨y | (_ | q) | y, r⟩ <;> first | (exact (Z _ hg).elim) | skip
    by_cases hv : (decide (q < h.1) && (decide ((h.2.2.1 q).1 = 100) || decide ((h.2.2.1 q).1 = 101))) = true
    · replace hg := (if_pos hv).symm.trans hg
      cases hg
      simp only [Bool.and_eq_true, Bool.or_eq_true, decide_eq_true_eq] at hv
      exact ⟨⟨Nat.le_refl _, Nat.le_refl _⟩, fun X S hc hs kk => sn_k_alen X hd S hv.1 hv.2 kk⟩
    · replace hg := (if_neg hv).symm.trans hg; exact (Z _ hg).elim
  case newarray ty =>
    obtain rfl := L (k := 2) rfl (by decide)
    rcases st with _ | ⟨z | z, r⟩ <;> first | (exact (Z _ hg).elim) | skip
    by_cases hv : (decide (0 ≤ z) && decide (z ≤ 100000)) = true
    · replace hg := (if_pos hv).symm.trans hg
      simp only [Bool.and_eq_true, decide_eq_true_eq] at hv
      have e1 : h.1 + 1 - h.1 = 1 := by omega
      have e2 : h.2.1 + z.toNat - h.2.1 = z.toNat := by omega
      cases ty <;> first | (exact (Z _ hg).elim) | skip
      · cases hg
        refine ⟨⟨Nat.le_succ _, Nat.le_add_right _ _⟩, fun X S hc hs kk => sn_k_newaZ X hd S hv.1 hv.2 ?_ ?_ kk⟩
        · exact (congrArg (fun n => _ + n) e1) ▸ hc
        · exact (congrArg (fun n => _ + n) e2) ▸ hs
      · cases hg
        refine ⟨⟨Nat.le_succ _, Nat.le_add_right _ _⟩, fun X S hc hs kk => sn_k_newaI X hd S hv.1 hv.2 ?_ ?_ kk⟩
        · exact (congrArg (fun n => _ + n) e1) ▸ hc
        · exact (congrArg (fun n => _ + n) e2) ▸ hs
    · replace hg := (if_neg hv).symm.trans hg; exact (Z _ hg).elim
  case new i =>
    obtain rfl := L (k := 3) rfl (by decide)
    have hg : (match sn_pn (sn_oc M) i with | some ci => some (Sum.inl (pc + 3, lv, sn_r h.1 :: st, sn_pu h ci (sn_nf ci) (fun k => if sn_ft ci k = 2 then sn_n else sn_i 0))) | none => none : Option sn_O) = some (.inl d) := hg
    cases hp : sn_pn (sn_oc M) i with
    | none => rw [hp] at hg; exact (Z _ hg).elim
    | some ci =>
      rw [hp] at hg
      have e1 : h.1 + 1 - h.1 = 1 := by omega
      have e2 : h.2.1 + sn_nf ci - h.2.1 = sn_nf ci := by omega
      cases hg
      refine ⟨⟨Nat.le_succ _, Nat.le_add_right _ _⟩, fun X S hc hs kk => sn_k_new X hd S hp ?_ ?_ kk⟩
      · exact (congrArg (fun n => _ + n) e1) ▸ hc
      · exact (congrArg (fun n => _ + n) e2) ▸ hs
  case multianewarray i n =>
    obtain rfl := L (k := 4) rfl (by decide)
    rcases st with _ | ⟨zb | zb, _ | ⟨za | za, r⟩⟩ <;> first | (exact (Z _ hg).elim) | skip
    by_cases hv : (decide (n = 2) && decide (i = 9) && decide (sn_oc M ∈ [0, 1, 2, 4]) && decide (0 ≤ za) && decide (za ≤ 1000) && decide (0 ≤ zb) && decide (zb ≤ 1000)) = true
    · replace hg := (if_pos hv).symm.trans hg
      simp only [Bool.and_eq_true, decide_eq_true_eq] at hv
      obtain ⟨⟨⟨⟨⟨⟨rfl, rfl⟩, v1⟩, v2⟩, v3⟩, v4⟩, v5⟩ := hv
      have e1 : h.1 + 1 + za.toNat - h.1 = 1 + za.toNat := by omega
      have e2 : h.2.1 + za.toNat + za.toNat * zb.toNat - h.2.1 = za.toNat + za.toNat * zb.toNat := by omega
      cases hg
      refine ⟨⟨by show h.1 ≤ h.1 + 1 + za.toNat; omega, by show h.2.1 ≤ h.2.1 + za.toNat + za.toNat * zb.toNat; omega⟩, fun X S hc hs kk => sn_k_mna X hd v1 S v2 v3 v4 v5 ?_ ?_ kk⟩
      · exact (congrArg (fun n => _ + n) e1) ▸ hc
      · exact (congrArg (fun n => _ + n) e2) ▸ hs
    · replace hg := (if_neg hv).symm.trans hg; exact (Z _ hg).elim
  case invokevirtual i => exact (sn_not_next_v hg).elim
  case invokestatic i => exact sn_next_s (L (k := 3) rfl (by decide)) hd hg
  case invokespecial i => exact sn_next_c (L (k := 3) rfl (by decide)) hd hg
  case ireturn =>
    rcases st with _ | ⟨v, _ | ⟨w, r⟩⟩
    · exact (Z _ hg).elim
    · by_cases hv : sn_rets (sn_rk M) v = true
      · replace hg := (if_pos hv).symm.trans hg; cases hg
      · replace hg := (if_neg hv).symm.trans hg; cases hg
    · exact (Z _ hg).elim
  case lreturn =>
    rcases st with _ | ⟨v | v | v | v, _ | ⟨w, r⟩⟩ <;> first | (exact (Z _ hg).elim) | skip
    by_cases hv : sn_rk M = 2
    · replace hg := (if_pos hv).symm.trans hg; cases hg
    · replace hg := (if_neg hv).symm.trans hg; cases hg
  case dreturn =>
    rcases st with _ | ⟨v | v | v | v | v, _ | ⟨w, r⟩⟩ <;> first | (exact (Z _ hg).elim) | skip
    by_cases hv : sn_rk M = 3
    · replace hg := (if_pos hv).symm.trans hg; cases hg
    · replace hg := (if_neg hv).symm.trans hg; cases hg
  case return_ =>
    rcases st with _ | ⟨v, r⟩
    · by_cases hv : sn_rk M = 4
      · replace hg := (if_pos hv).symm.trans hg; cases hg
      · replace hg := (if_neg hv).symm.trans hg; cases hg
    · exact (Z _ hg).elim
  all_goals exact (Z _ hg).elim
