/-! ===== the plain machine's values and heap, as the real one has them ===== -/
theorem sn_wr_eq (z : Int) : Int32.ofInt (sn_wr z) = Int32.ofInt z := Int32.ofInt_toInt _
theorem sn_wl_eq (z : Int) : Int64.ofInt (sn_wl z) = Int64.ofInt z := Int64.ofInt_toInt _
theorem sn_to {z : Int} (h : -2147483648 ≤ z ∧ z ≤ 2147483647) : (Int32.ofInt z).toInt = z := Int32.toInt_ofInt_of_le (by omega) (by omega)
theorem sn_wr_id {z : Int} (h1 : -2147483648 ≤ z) (h2 : z ≤ 2147483647) : sn_wr z = z := sn_to ⟨h1, h2⟩
theorem sn_wr_in (z : Int) : -2147483648 ≤ sn_wr z ∧ sn_wr z ≤ 2147483647 := by
  have h1 := Int32.le_toInt (Int32.ofInt z)
  have h2 := Int32.toInt_lt (Int32.ofInt z)
  unfold sn_wr
  omega
theorem sn_of_in (x : Int32) : -2147483648 ≤ x.toInt ∧ x.toInt ≤ 2147483647 := by
  have h1 := Int32.le_toInt x
  have h2 := Int32.toInt_lt x
  omega
theorem sn_inR_iff {z : Int} (h : sn_inR z = true) : -2147483648 ≤ z ∧ z ≤ 2147483647 := by
  unfold sn_inR at h
  simp only [Bool.and_eq_true, decide_eq_true_eq] at h
  exact h
/-- what a value may be: a whole number of 32 bits, a long of 64 -/
def sn_wf (v : sn_V) : Prop := match v with
  | .inl z => -2147483648 ≤ z ∧ z ≤ 2147483647
  | .inr (.inr (.inl z)) => sn_wl z = z
  | _ => True
/-- class numbers and slots, the three arrays' classes, the script's cell and length and the weights' cell, where the new cells begin, the script -/
abbrev sn_P : Type := va_G × (Nat × Nat × Nat) × (Nat × Nat × Nat × Nat) × (Nat → Int32)
abbrev sn_D (G : sn_P) : va_G := G.1
abbrev sn_cI (G : sn_P) : Nat := G.2.1.1
abbrev sn_cZ (G : sn_P) : Nat := G.2.1.2.1
abbrev sn_cQ (G : sn_P) : Nat := G.2.1.2.2
abbrev sn_b (G : sn_P) : Nat := G.2.2.1.1
abbrev sn_L (G : sn_P) : Nat := G.2.2.1.2.1
abbrev sn_wa (G : sn_P) : Nat := G.2.2.1.2.2.1
abbrev sn_s0 (G : sn_P) : Nat := G.2.2.1.2.2.2
abbrev sn_xs (G : sn_P) : Nat → Int32 := G.2.2.2
def sn_ad (G : sn_P) (q : Nat) : Nat := if q = 0 then sn_b G else if q = 1 then sn_wa G else sn_s0 G + (q - 2)
def sn_A (G : sn_P) : Nat → Prop := fun a => sn_s0 G ≤ a
theorem sn_ad2 (G : sn_P) {q : Nat} (h : 2 ≤ q) : sn_ad G q = sn_s0 G + (q - 2) := by
  unfold sn_ad
  rw [if_neg (by omega), if_neg (by omega)]
theorem sn_adA (G : sn_P) {q : Nat} (h : 2 ≤ q) : sn_A G (sn_ad G q) := by
  rw [sn_ad2 G h]
  exact Nat.le_add_right _ _
def sn_tr (G : sn_P) (v : sn_V) : Value := match v with
  | .inl z => .int (Int32.ofInt z)
  | .inr (.inl (some k)) => .ref (sn_ad G k)
  | .inr (.inr (.inl z)) => .long (Int64.ofInt z)
  | .inr (.inr (.inr (.inl d))) => .double d
  | _ => .null
/-- WEIGHTS -/
def sn_wt (j : Nat) : Int := [12, 10, 8, 7, 6, 5, 4].getD j 0
def sn_at (G : sn_P) (h : sn_H) (q : Nat) (H : Heap) : Prop :=
  if (h.2.2.1 q).1 < 10 then (h.2.2.1 q).2 = sn_nf (h.2.2.1 q).1 ∧ t_OB (sn_ad G q) ((sn_D G).1 (h.2.2.1 q).1) (sn_nf (h.2.2.1 q).1) ((sn_D G).2 (h.2.2.1 q).1) H (fun k => sn_tr G (h.2.2.2 q k))
  else if (h.2.2.1 q).1 = 100 then H[sn_ad G q]? = some (arrV (sn_cI G) (h.2.2.1 q).2 (fun k => sn_tr G (h.2.2.2 q k)))
  else if (h.2.2.1 q).1 = 101 then H[sn_ad G q]? = some (arrV (sn_cZ G) (h.2.2.1 q).2 (fun k => sn_tr G (h.2.2.2 q k)))
  else if (h.2.2.1 q).1 = 102 then H[sn_ad G q]? = some (arrV (sn_cQ G) (h.2.2.1 q).2 (fun k => sn_tr G (h.2.2.2 q k)))
  else True
/-- the real heap H is as the plain one says -/
def sn_Rp (G : sn_P) (h : sn_H) (H : Heap) : Prop :=
  2 ≤ h.1 ∧ H.size = sn_s0 G + (h.1 - 2) ∧ (∀ q, 2 ≤ q → q < h.1 → sn_at G h q H) ∧ (∀ q i, sn_wf (h.2.2.2 q i)) ∧ (∀ q, ((h.2.2.1 q).2 : Int) ≤ 2147483647) ∧
  h.2.2.1 0 = (100, sn_L G) ∧ (∀ j, j < sn_L G → h.2.2.2 0 j = sn_i (sn_xs G j).toInt) ∧ h.2.2.1 1 = (100, 7) ∧ (∀ j, j < 7 → h.2.2.2 1 j = sn_i (sn_wt j))
/-- what a throw asks of classes beyond what stays of itself -/
def sn_nw : List Cond := (vx_atS RX9 205 "java/lang/IndexOutOfBoundsException" ["java/lang/RuntimeException", "java/lang/Exception"]).filter (fun w => !goodWord w)
def sn_dcw (w : Cond) : Bool := match w with
  | .declares _ => true
  | .castable _ _ => true
  | _ => false
theorem sn_nw_dc : ∀ w ∈ sn_nw, sn_dcw w = true := by decide +kernel
theorem sn_nw_to {u U : State} (ha : u.vm.Alike U.vm) {w : Cond} (hw : sn_dcw w = true) (h : w.before #[] u = true) : w.before #[] U = true := by
  have tr : ∀ {c : Cond}, c.onTables = true → c.before #[] (u.setVm U.vm) = true → c.before #[] U = true := by
    intro c hc h
    have e := Cond.onTables_vm (A := #[]) (A' := #[]) (U := u) (U' := U) U.vm c hc
    have hU : U.setVm U.vm = U := rfl
    rw [hU] at e
    rw [← e]
    exact h
  match w, hw with
  | .declares x, _ => exact tr rfl (by rw [Cond.declares_setVm ha]; exact h)
  | .castable a b, _ => exact tr rfl (by rw [Cond.castable_setVm ha]; exact h)
/-- what lay there before the law began, and stays: the script, WEIGHTS, what exceptions ask for -/
def sn_Wd (G : sn_P) (U : State) (H : Heap) : Prop :=
  va_T .int (sn_b G) (sn_L G) (fun j => .int (sn_xs G j)) (sn_A G) U H ∧ va_Z "Songnations" "WEIGHTS" "[I" (.ref (sn_wa G)) (sn_A G) U H ∧ va_T .int (sn_wa G) 7 (fun j => .int (Int32.ofInt (sn_wt j))) (sn_A G) U H ∧
  vx_Zq Bundle.tN "UNASSIGNED_STACK" Bundle.steD (sn_A G) U H ∧ vx_Zq Bundle.tN "SUPPRESSED_SENTINEL" Bundle.listD (sn_A G) U H ∧ (Cond.arrayOver (.array .int)).before #[] U = true ∧ (∀ e ∈ sn_nl, va_Nw (.methodLinkNest (sn_cn e.1) e.2.1 (sn_y e.2.2) "Songnations") U) ∧ ∃ sa, vk_R RX9 441 "there is no such song in this year" sa U ∧ ∀ w ∈ sn_nw, w.before #[] U = true
theorem sn_Wd.to {G : sn_P} {s U : State} {H : Heap} {locs : List Loc} (h : sn_Wd G s s.heap) (hS : va_S (sn_A G) s.heap H locs) (hW : s.WarmedH U.vm) (hU : U.heap = H) : sn_Wd G U U.heap := by
  have hq : ∀ a : Nat, a < s.heap.size → ¬ sn_A G a → U.heap[a]? = s.heap[a]? := fun a h1 h2 => by rw [hU]; exact hS.2.1 a h1 h2
  obtain ⟨h1, h2, h3, h4, h5, h7, h8, sa, h6⟩ := h
  exact ⟨(h1.moved hW.alike).kept hq, (h2.moved hW.alike).kept hq, (h3.moved hW.alike).kept hq, (h4.moved hW.alike).kept hq, (h5.moved hW.alike).kept hq, arrayOver_alikeB hW.alike h7, fun e he => (h8 e he).warmM hW, sa, h6.1.warm hW, fun w hw => sn_nw_to hW.alike (sn_nw_dc w hw) (h6.2 w hw)⟩
abbrev sn_ty (G : sn_P) : List (ClassId × FieldType) := [(sn_cI G, .int), (sn_cZ G, .boolean), (sn_cQ G, .array .int)]
/-- a method's frame, as its body finds it -/
def sn_Cx (G : sn_P) (M : Nat) (p : Program) (R : Room) (s : State) (m : MethodId) (args : Array Value) (meth : Method) (c : Code) : Prop :=
  p.tables.exec = Jvm.exec ∧ c.code = sn_bc M ∧ c.maxLocals = sn_ml M ∧ meth.sig.returnType = sn_rt M ∧ meth.locks = false ∧ s.vm.findClass (sn_cn (sn_oc M)) = some m.cls ∧ (sn_in M = true → meth.name = "<init>") ∧
  (∀ w ∈ wsL_law, w.before args s = true) ∧ va_K (sn_D G) sn_cls (sn_ty G) s ∧ sn_Wd G s s.heap ∧ sn_fr M ≤ R.frames ∧ sn_lo M ≤ R.locals ∧ sn_s0 G ≤ s.heap.size
/-- the locals -/
def sn_isU (v : sn_V) : Bool := match v with
  | .inr (.inr (.inr (.inr _))) => true
  | _ => false
theorem sn_isU_iff (v : sn_V) : sn_isU v = true ↔ v = sn_u := by
  match v with
  | .inl z => exact ⟨fun h => (by cases h), fun h => (by cases h)⟩
  | .inr (.inl z) => exact ⟨fun h => (by cases h), fun h => (by cases h)⟩
  | .inr (.inr (.inl z)) => exact ⟨fun h => (by cases h), fun h => (by cases h)⟩
  | .inr (.inr (.inr (.inl z))) => exact ⟨fun h => (by cases h), fun h => (by cases h)⟩
  | .inr (.inr (.inr (.inr ()))) => exact ⟨fun _ => rfl, fun _ => rfl⟩
def sn_lvl (G : sn_P) (lv : List sn_V) : List (Nat × Value) := (List.range lv.length).filterMap (fun j => if sn_isU (lv.getD j sn_u) = true then none else some (j, sn_tr G (lv.getD j sn_u)))
def sn_Ls (G : sn_P) (ls : Array Slot) (M : Nat) (lv : List sn_V) : Prop :=
  lv_has ls (sn_ml M) (sn_lvl G lv) ∧ lv.length = sn_ml M ∧ (∀ v ∈ lv, sn_wf v) ∧ (sn_hl M = false → ∀ v ∈ lv, sn_two v = false)
theorem sn_lvl_mem (G : sn_P) (lv : List sn_V) (q : Nat × Value) : q ∈ sn_lvl G lv ↔ ∃ v, lv[q.1]? = some v ∧ v ≠ sn_u ∧ q.2 = sn_tr G v := by
  unfold sn_lvl
  rw [List.mem_filterMap]
  constructor
  · rintro ⟨j, hj, h⟩
    have hlt := List.mem_range.mp hj
    split at h
    · cases h
    · rename_i hne
      cases h
      refine ⟨lv.getD j sn_u, ?_, fun e => hne ((sn_isU_iff _).mpr e), rfl⟩
      dsimp only
      rw [List.getD_eq_getElem?_getD, List.getElem?_eq_getElem hlt]
      rfl
  · rintro ⟨v, hv, hne, h2⟩
    obtain ⟨j, w⟩ := q
    dsimp only at hv h2
    subst h2
    have e : lv.getD j sn_u = v := by rw [List.getD_eq_getElem?_getD, hv]; rfl
    refine ⟨j, List.mem_range.mpr (List.getElem?_eq_some_iff.mp hv).1, ?_⟩
    rw [e, if_neg (fun h => hne ((sn_isU_iff v).mp h))]
theorem sn_Ls.at {G : sn_P} {ls : Array Slot} {M : Nat} {lv : List sn_V} (h : sn_Ls G ls M lv) {k : Nat} {v : sn_V} (hk : lv[k]? = some v) (hv : v ≠ sn_u) : ls[k]? = some (.val (sn_tr G v)) :=
  h.1.2.2 (k, sn_tr G v) ((sn_lvl_mem G lv _).mpr ⟨v, hk, hv, rfl⟩)
theorem sn_cat (G : sn_P) (v : sn_V) : (sn_tr G v).category = if sn_two v then 2 else 1 := by
  match v with
  | .inl z => rfl
  | .inr (.inl (some z)) => rfl
  | .inr (.inl none) => rfl
  | .inr (.inr (.inl z)) => rfl
  | .inr (.inr (.inr (.inl z))) => rfl
  | .inr (.inr (.inr (.inr ()))) => rfl
/-- storing one slot's value -/
theorem sn_Ls.set {G : sn_P} {ls' : Array Slot} {M k : Nat} {lv : List sn_V} {v : sn_V} {ls : Array Slot} (h : sn_Ls G ls M lv) (hw : sn_wf v) (h2 : sn_two v = false)
    (hno : (sn_hl M && decide (0 < k) && sn_two (lv.getD (k - 1) sn_u)) = false)
    (hn : lv_has ls' (sn_ml M) ((k, sn_tr G v) :: (sn_lvl G lv).filter (fun q => !(q.1 == k) && !(q.1 + 1 == k && q.2.category == 2)))) : sn_Ls G ls' M (lv.set k v) := by
  obtain ⟨h1, hlen, hwf, hl2⟩ := h
  refine ⟨⟨hn.1, hn.2.1, fun q hq => hn.2.2 q ?_⟩, by rw [List.length_set]; exact hlen, fun w hw' => ?_, fun hM w hw' => ?_⟩
  · obtain ⟨w, hv, hne, hq2⟩ := (sn_lvl_mem G _ q).mp hq
    by_cases hk : q.1 = k
    · have hlt := (List.getElem?_eq_some_iff.mp hv).1
      rw [List.length_set] at hlt
      rw [hk] at hlt hv
      rw [List.getElem?_set_self hlt] at hv
      cases hv
      obtain ⟨j, w2⟩ := q
      dsimp only at hk hq2
      subst hk; subst hq2
      exact List.mem_cons_self
    · rw [List.getElem?_set_ne (Ne.symm hk)] at hv
      refine List.mem_cons_of_mem _ (List.mem_filter.mpr ⟨(sn_lvl_mem G lv q).mpr ⟨w, hv, hne, hq2⟩, ?_⟩)
      simp only [Bool.and_eq_true, Bool.not_eq_true', beq_eq_false_iff_ne, ne_eq]
      refine ⟨hk, ?_⟩
      rw [Bool.and_eq_false_iff]
      by_cases hk1 : q.1 + 1 = k
      · right
        rw [hq2, sn_cat]
        cases hM : sn_hl M with
        | false => rw [hl2 hM w (List.mem_of_getElem? hv)]; rfl
        | true =>
          rw [hM] at hno
          have e1 : lv.getD (k - 1) sn_u = w := by rw [← hk1, Nat.add_sub_cancel, List.getD_eq_getElem?_getD, hv]; rfl
          rw [e1] at hno
          have e2 : decide (0 < k) = true := decide_eq_true (by omega)
          rw [e2] at hno
          have e3 : sn_two w = false := by simpa using hno
          rw [e3]; rfl
      · left
        simpa using hk1
  · rcases List.mem_or_eq_of_mem_set hw' with h3 | h3
    · exact hwf w h3
    · rw [h3]; exact hw
  · rcases List.mem_or_eq_of_mem_set hw' with h3 | h3
    · exact hl2 hM w h3
    · rw [h3]; exact h2
/-- storing a long -/
theorem sn_Ls.set2 {G : sn_P} {ls' : Array Slot} {M k : Nat} {lv : List sn_V} {v : sn_V} {ls : Array Slot} (h : sn_Ls G ls M lv) (hw : sn_wf v) (hM : sn_hl M = true)
    (hno : (decide (0 < k) && sn_two (lv.getD (k - 1) sn_u)) = false)
    (hn : lv_has ls' (sn_ml M) ((k, sn_tr G v) :: (sn_lvl G lv).filter (fun q => !(q.1 == k) && (!(q.1 == k + 1) && !(q.1 + 1 == k && q.2.category == 2))))) : sn_Ls G ls' M ((lv.set k v).set (k + 1) sn_u) := by
  obtain ⟨h1, hlen, hwf, hl2⟩ := h
  refine ⟨⟨hn.1, hn.2.1, fun q hq => hn.2.2 q ?_⟩, by rw [List.length_set, List.length_set]; exact hlen, fun w hw' => ?_, fun hM' w hw' => ?_⟩
  · obtain ⟨w, hv, hne, hq2⟩ := (sn_lvl_mem G _ q).mp hq
    by_cases hk : q.1 = k
    · rw [List.getElem?_set_ne (by omega)] at hv
      have hlt := (List.getElem?_eq_some_iff.mp hv).1
      rw [List.length_set] at hlt
      rw [hk] at hlt hv
      rw [List.getElem?_set_self hlt] at hv
      cases hv
      obtain ⟨j, w2⟩ := q
      dsimp only at hk hq2
      subst hk; subst hq2
      exact List.mem_cons_self
    · by_cases hk1 : q.1 = k + 1
      · have hlt := (List.getElem?_eq_some_iff.mp hv).1
        rw [List.length_set] at hlt
        rw [hk1] at hlt hv
        rw [List.getElem?_set_self hlt] at hv
        cases hv
        exact absurd rfl hne
      rw [List.getElem?_set_ne (Ne.symm hk1), List.getElem?_set_ne (Ne.symm hk)] at hv
      refine List.mem_cons_of_mem _ (List.mem_filter.mpr ⟨(sn_lvl_mem G lv q).mpr ⟨w, hv, hne, hq2⟩, ?_⟩)
      simp only [Bool.and_eq_true, Bool.not_eq_true', beq_eq_false_iff_ne, ne_eq]
      refine ⟨hk, hk1, ?_⟩
      rw [Bool.and_eq_false_iff]
      by_cases hk2 : q.1 + 1 = k
      · right
        rw [hq2, sn_cat]
        have e1 : lv.getD (k - 1) sn_u = w := by rw [← hk2, Nat.add_sub_cancel, List.getD_eq_getElem?_getD, hv]; rfl
        rw [e1] at hno
        have e2 : decide (0 < k) = true := decide_eq_true (by omega)
        rw [e2] at hno
        have e3 : sn_two w = false := by simpa using hno
        rw [e3]; rfl
      · left
        simpa using hk2
  · rcases List.mem_or_eq_of_mem_set hw' with h3 | h3
    · rcases List.mem_or_eq_of_mem_set h3 with h4 | h4
      · exact hwf w h4
      · rw [h4]; exact hw
    · rw [h3]; trivial
  · rw [hM] at hM'; cases hM'
