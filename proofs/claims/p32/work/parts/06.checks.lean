/-! ===== the tables are the claim's ===== -/
def sn_T (ci : Nat) : u_T := match ci with
  | 0 => TX0
  | 1 => TX1
  | 2 => TX2
  | 3 => TX3
  | 4 => TX4
  | 5 => TX5
  | 6 => TX6
  | 7 => TX7
  | 8 => TX8
  | _ => TX9
def sn_tc (ci : Nat) : Nat → FieldType := match ci with
  | 0 => tyX0
  | 1 => tyX1
  | 2 => tyX2
  | 3 => tyX3
  | 4 => tyX4
  | 5 => tyX5
  | 6 => tyX6
  | 7 => tyX7
  | 8 => tyX8
  | _ => tyX9
theorem sn_lt10 {ci : Nat} (h : ci < 10) : ci = 0 ∨ ci = 1 ∨ ci = 2 ∨ ci = 3 ∨ ci = 4 ∨ ci = 5 ∨ ci = 6 ∨ ci = 7 ∨ ci = 8 ∨ ci = 9 := by omega
theorem sn_cls_at {ci : Nat} (h : ci < 10) : sn_cls[ci]? = some (sn_cn ci, sn_T ci, sn_nf ci) := by
  rcases sn_lt10 h with rfl | rfl | rfl | rfl | rfl | rfl | rfl | rfl | rfl | rfl <;> rfl
theorem sn_inl {ci : Nat} (h : ci < 10) : ∀ w ∈ u_ws (sn_cn ci) (sn_T ci) (sn_nf ci), w ∈ wsL_law := by
  rcases sn_lt10 h with rfl | rfl | rfl | rfl | rfl | rfl | rfl | rfl | rfl | rfl
  · exact inlX0
  · exact inlX1
  · exact inlX2
  · exact inlX3
  · exact inlX4
  · exact inlX5
  · exact inlX6
  · exact inlX7
  · exact inlX8
  · exact inlX9
theorem sn_tc_ok {ci : Nat} (h : ci < 10) : ∀ k, k < sn_nf ci → parseFieldDescriptor (sn_T ci k).2.2.1 = some (sn_tc ci k) := by
  rcases sn_lt10 h with rfl | rfl | rfl | rfl | rfl | rfl | rfl | rfl | rfl | rfl
  · exact tyX0_ok
  · exact tyX1_ok
  · exact tyX2_ok
  · exact tyX3_ok
  · exact tyX4_ok
  · exact tyX5_ok
  · exact tyX6_ok
  · exact tyX7_ok
  · exact tyX8_ok
  · exact tyX9_ok
theorem sn_nm_ok {ci : Nat} (h : ci < 10) : ∀ a, a < sn_nf ci → ∀ b, b < sn_nf ci → a ≠ b → (sn_T ci a).2.1 ≠ (sn_T ci b).2.1 := by
  rcases sn_lt10 h with rfl | rfl | rfl | rfl | rfl | rfl | rfl | rfl | rfl | rfl
  · exact nmX0
  · exact nmX1
  · exact nmX2
  · exact nmX3
  · exact nmX4
  · exact nmX5
  · exact nmX6
  · exact nmX7
  · exact nmX8
  · exact nmX9
set_option maxRecDepth 100000 in
theorem sn_ft_ok : ∀ ci, ci < 10 → ∀ k, k < sn_nf ci → (sn_ft ci k = 0 ∧ sn_tc ci k = .int) ∨ (sn_ft ci k = 1 ∧ sn_tc ci k = .boolean) ∨ (sn_ft ci k = 2 ∧ (sn_tc ci k).isReference = true) := by decide +kernel
theorem sn_cn_plain1 : ∀ o, o < 11 → plainName (sn_cn o) = true := by decide +kernel
theorem sn_cn_plain : ∀ o, o < 12 → sn_cn o ≠ "java/lang/invoke/MethodHandle" ∧ sn_cn o ≠ "java/lang/invoke/VarHandle" := by decide +kernel

theorem sn_pfl_ok1 : ∀ e ∈ sn_pfl_1, e.2.2.1 < 10 ∧ e.2.2.2 < sn_nf e.2.2.1 ∧ (sn_T e.2.2.1 e.2.2.2).1 = sn_cn e.2.2.1 ∧ (sn_T e.2.2.1 e.2.2.2).2.2.2 = sn_ff e.2.2.1 e.2.2.2 ∧ Cond.fieldLink (sn_cn e.1) e.2.1 (sn_cn e.2.2.1) (sn_T e.2.2.1 e.2.2.2).2.1 (sn_T e.2.2.1 e.2.2.2).2.2.1 ∈ wsL_law := List.forall_mem_cons.mpr ⟨⟨by decide, by decide, rfl, rfl, (sn_n4 _ (List.mem_of_getElem? (i := 15) rfl))⟩, List.forall_mem_cons.mpr ⟨⟨by decide, by decide, rfl, rfl, (sn_n4 _ (List.mem_of_getElem? (i := 16) rfl))⟩, List.forall_mem_cons.mpr ⟨⟨by decide, by decide, rfl, rfl, (sn_n4 _ (List.mem_of_getElem? (i := 17) rfl))⟩, List.forall_mem_cons.mpr ⟨⟨by decide, by decide, rfl, rfl, (sn_n4 _ (List.mem_of_getElem? (i := 18) rfl))⟩, List.forall_mem_cons.mpr ⟨⟨by decide, by decide, rfl, rfl, (sn_n4 _ (List.mem_of_getElem? (i := 19) rfl))⟩, List.forall_mem_cons.mpr ⟨⟨by decide, by decide, rfl, rfl, (sn_n7 _ (List.mem_of_getElem? (i := 6) rfl))⟩, List.forall_mem_cons.mpr ⟨⟨by decide, by decide, rfl, rfl, (sn_n7 _ (List.mem_of_getElem? (i := 7) rfl))⟩, List.forall_mem_cons.mpr ⟨⟨by decide, by decide, rfl, rfl, (sn_n7 _ (List.mem_of_getElem? (i := 8) rfl))⟩, List.forall_mem_cons.mpr ⟨⟨by decide, by decide, rfl, rfl, (sn_n7 _ (List.mem_of_getElem? (i := 9) rfl))⟩, List.forall_mem_cons.mpr ⟨⟨by decide, by decide, rfl, rfl, (sn_n7 _ (List.mem_of_getElem? (i := 10) rfl))⟩, List.forall_mem_cons.mpr ⟨⟨by decide, by decide, rfl, rfl, (sn_n7 _ (List.mem_of_getElem? (i := 11) rfl))⟩, List.forall_mem_cons.mpr ⟨⟨by decide, by decide, rfl, rfl, (sn_n7 _ (List.mem_of_getElem? (i := 12) rfl))⟩, fun _ h => absurd h List.not_mem_nil⟩⟩⟩⟩⟩⟩⟩⟩⟩⟩⟩⟩
theorem sn_pfl_ok2 : ∀ e ∈ sn_pfl_2, e.2.2.1 < 10 ∧ e.2.2.2 < sn_nf e.2.2.1 ∧ (sn_T e.2.2.1 e.2.2.2).1 = sn_cn e.2.2.1 ∧ (sn_T e.2.2.1 e.2.2.2).2.2.2 = sn_ff e.2.2.1 e.2.2.2 ∧ Cond.fieldLink (sn_cn e.1) e.2.1 (sn_cn e.2.2.1) (sn_T e.2.2.1 e.2.2.2).2.1 (sn_T e.2.2.1 e.2.2.2).2.2.1 ∈ wsL_law := List.forall_mem_cons.mpr ⟨⟨by decide, by decide, rfl, rfl, (sn_n7 _ (List.mem_of_getElem? (i := 13) rfl))⟩, List.forall_mem_cons.mpr ⟨⟨by decide, by decide, rfl, rfl, (sn_n7 _ (List.mem_of_getElem? (i := 14) rfl))⟩, List.forall_mem_cons.mpr ⟨⟨by decide, by decide, rfl, rfl, (sn_n27 _ (List.mem_of_getElem? (i := 5) rfl))⟩, List.forall_mem_cons.mpr ⟨⟨by decide, by decide, rfl, rfl, (sn_n5 _ (List.mem_of_getElem? (i := 1) rfl))⟩, List.forall_mem_cons.mpr ⟨⟨by decide, by decide, rfl, rfl, (sn_n5 _ (List.mem_of_getElem? (i := 2) rfl))⟩, List.forall_mem_cons.mpr ⟨⟨by decide, by decide, rfl, rfl, (sn_n5 _ (List.mem_of_getElem? (i := 3) rfl))⟩, List.forall_mem_cons.mpr ⟨⟨by decide, by decide, rfl, rfl, (sn_n5 _ (List.mem_of_getElem? (i := 4) rfl))⟩, List.forall_mem_cons.mpr ⟨⟨by decide, by decide, rfl, rfl, (sn_n5 _ (List.mem_of_getElem? (i := 5) rfl))⟩, List.forall_mem_cons.mpr ⟨⟨by decide, by decide, rfl, rfl, (sn_n5 _ (List.mem_of_getElem? (i := 6) rfl))⟩, List.forall_mem_cons.mpr ⟨⟨by decide, by decide, rfl, rfl, (sn_n5 _ (List.mem_of_getElem? (i := 7) rfl))⟩, List.forall_mem_cons.mpr ⟨⟨by decide, by decide, rfl, rfl, (sn_n5 _ (List.mem_of_getElem? (i := 8) rfl))⟩, List.forall_mem_cons.mpr ⟨⟨by decide, by decide, rfl, rfl, (sn_n5 _ (List.mem_of_getElem? (i := 9) rfl))⟩, fun _ h => absurd h List.not_mem_nil⟩⟩⟩⟩⟩⟩⟩⟩⟩⟩⟩⟩
theorem sn_pfl_ok3 : ∀ e ∈ sn_pfl_3, e.2.2.1 < 10 ∧ e.2.2.2 < sn_nf e.2.2.1 ∧ (sn_T e.2.2.1 e.2.2.2).1 = sn_cn e.2.2.1 ∧ (sn_T e.2.2.1 e.2.2.2).2.2.2 = sn_ff e.2.2.1 e.2.2.2 ∧ Cond.fieldLink (sn_cn e.1) e.2.1 (sn_cn e.2.2.1) (sn_T e.2.2.1 e.2.2.2).2.1 (sn_T e.2.2.1 e.2.2.2).2.2.1 ∈ wsL_law := List.forall_mem_cons.mpr ⟨⟨by decide, by decide, rfl, rfl, (sn_n5 _ (List.mem_of_getElem? (i := 10) rfl))⟩, List.forall_mem_cons.mpr ⟨⟨by decide, by decide, rfl, rfl, (sn_n5 _ (List.mem_of_getElem? (i := 11) rfl))⟩, List.forall_mem_cons.mpr ⟨⟨by decide, by decide, rfl, rfl, (sn_n10 _ (List.mem_of_getElem? (i := 16) rfl))⟩, List.forall_mem_cons.mpr ⟨⟨by decide, by decide, rfl, rfl, (sn_n11 _ (List.mem_of_getElem? (i := 15) rfl))⟩, List.forall_mem_cons.mpr ⟨⟨by decide, by decide, rfl, rfl, (sn_n13 _ (List.mem_of_getElem? (i := 18) rfl))⟩, List.forall_mem_cons.mpr ⟨⟨by decide, by decide, rfl, rfl, (sn_n3 _ (List.mem_of_getElem? (i := 8) rfl))⟩, List.forall_mem_cons.mpr ⟨⟨by decide, by decide, rfl, rfl, (sn_n3 _ (List.mem_of_getElem? (i := 9) rfl))⟩, List.forall_mem_cons.mpr ⟨⟨by decide, by decide, rfl, rfl, (sn_n3 _ (List.mem_of_getElem? (i := 10) rfl))⟩, List.forall_mem_cons.mpr ⟨⟨by decide, by decide, rfl, rfl, (sn_n3 _ (List.mem_of_getElem? (i := 11) rfl))⟩, List.forall_mem_cons.mpr ⟨⟨by decide, by decide, rfl, rfl, (sn_n3 _ (List.mem_of_getElem? (i := 12) rfl))⟩, List.forall_mem_cons.mpr ⟨⟨by decide, by decide, rfl, rfl, (sn_n3 _ (List.mem_of_getElem? (i := 13) rfl))⟩, List.forall_mem_cons.mpr ⟨⟨by decide, by decide, rfl, rfl, (sn_n5 _ (List.mem_of_getElem? (i := 17) rfl))⟩, fun _ h => absurd h List.not_mem_nil⟩⟩⟩⟩⟩⟩⟩⟩⟩⟩⟩⟩
theorem sn_pfl_ok4 : ∀ e ∈ sn_pfl_4, e.2.2.1 < 10 ∧ e.2.2.2 < sn_nf e.2.2.1 ∧ (sn_T e.2.2.1 e.2.2.2).1 = sn_cn e.2.2.1 ∧ (sn_T e.2.2.1 e.2.2.2).2.2.2 = sn_ff e.2.2.1 e.2.2.2 ∧ Cond.fieldLink (sn_cn e.1) e.2.1 (sn_cn e.2.2.1) (sn_T e.2.2.1 e.2.2.2).2.1 (sn_T e.2.2.1 e.2.2.2).2.2.1 ∈ wsL_law := List.forall_mem_cons.mpr ⟨⟨by decide, by decide, rfl, rfl, (sn_n5 _ (List.mem_of_getElem? (i := 18) rfl))⟩, List.forall_mem_cons.mpr ⟨⟨by decide, by decide, rfl, rfl, (sn_n5 _ (List.mem_of_getElem? (i := 19) rfl))⟩, List.forall_mem_cons.mpr ⟨⟨by decide, by decide, rfl, rfl, (sn_n5 _ (List.mem_of_getElem? (i := 20) rfl))⟩, List.forall_mem_cons.mpr ⟨⟨by decide, by decide, rfl, rfl, (sn_n5 _ (List.mem_of_getElem? (i := 21) rfl))⟩, List.forall_mem_cons.mpr ⟨⟨by decide, by decide, rfl, rfl, (sn_n5 _ (List.mem_of_getElem? (i := 22) rfl))⟩, List.forall_mem_cons.mpr ⟨⟨by decide, by decide, rfl, rfl, (sn_n5 _ (List.mem_of_getElem? (i := 23) rfl))⟩, List.forall_mem_cons.mpr ⟨⟨by decide, by decide, rfl, rfl, (sn_n6 _ (List.mem_of_getElem? (i := 0) rfl))⟩, List.forall_mem_cons.mpr ⟨⟨by decide, by decide, rfl, rfl, (sn_n6 _ (List.mem_of_getElem? (i := 1) rfl))⟩, List.forall_mem_cons.mpr ⟨⟨by decide, by decide, rfl, rfl, (sn_n6 _ (List.mem_of_getElem? (i := 2) rfl))⟩, List.forall_mem_cons.mpr ⟨⟨by decide, by decide, rfl, rfl, (sn_n6 _ (List.mem_of_getElem? (i := 3) rfl))⟩, List.forall_mem_cons.mpr ⟨⟨by decide, by decide, rfl, rfl, (sn_n6 _ (List.mem_of_getElem? (i := 16) rfl))⟩, List.forall_mem_cons.mpr ⟨⟨by decide, by decide, rfl, rfl, (sn_n6 _ (List.mem_of_getElem? (i := 17) rfl))⟩, fun _ h => absurd h List.not_mem_nil⟩⟩⟩⟩⟩⟩⟩⟩⟩⟩⟩⟩
theorem sn_pfl_ok5 : ∀ e ∈ sn_pfl_5, e.2.2.1 < 10 ∧ e.2.2.2 < sn_nf e.2.2.1 ∧ (sn_T e.2.2.1 e.2.2.2).1 = sn_cn e.2.2.1 ∧ (sn_T e.2.2.1 e.2.2.2).2.2.2 = sn_ff e.2.2.1 e.2.2.2 ∧ Cond.fieldLink (sn_cn e.1) e.2.1 (sn_cn e.2.2.1) (sn_T e.2.2.1 e.2.2.2).2.1 (sn_T e.2.2.1 e.2.2.2).2.2.1 ∈ wsL_law := List.forall_mem_cons.mpr ⟨⟨by decide, by decide, rfl, rfl, (sn_n6 _ (List.mem_of_getElem? (i := 18) rfl))⟩, List.forall_mem_cons.mpr ⟨⟨by decide, by decide, rfl, rfl, (sn_n6 _ (List.mem_of_getElem? (i := 19) rfl))⟩, List.forall_mem_cons.mpr ⟨⟨by decide, by decide, rfl, rfl, (sn_n6 _ (List.mem_of_getElem? (i := 20) rfl))⟩, List.forall_mem_cons.mpr ⟨⟨by decide, by decide, rfl, rfl, (sn_n6 _ (List.mem_of_getElem? (i := 21) rfl))⟩, List.forall_mem_cons.mpr ⟨⟨by decide, by decide, rfl, rfl, (sn_n6 _ (List.mem_of_getElem? (i := 22) rfl))⟩, List.forall_mem_cons.mpr ⟨⟨by decide, by decide, rfl, rfl, (sn_n6 _ (List.mem_of_getElem? (i := 23) rfl))⟩, List.forall_mem_cons.mpr ⟨⟨by decide, by decide, rfl, rfl, (sn_n7 _ (List.mem_of_getElem? (i := 0) rfl))⟩, List.forall_mem_cons.mpr ⟨⟨by decide, by decide, rfl, rfl, (sn_n15 _ (List.mem_of_getElem? (i := 13) rfl))⟩, List.forall_mem_cons.mpr ⟨⟨by decide, by decide, rfl, rfl, (sn_n15 _ (List.mem_of_getElem? (i := 14) rfl))⟩, List.forall_mem_cons.mpr ⟨⟨by decide, by decide, rfl, rfl, (sn_n6 _ (List.mem_of_getElem? (i := 7) rfl))⟩, List.forall_mem_cons.mpr ⟨⟨by decide, by decide, rfl, rfl, (sn_n6 _ (List.mem_of_getElem? (i := 8) rfl))⟩, List.forall_mem_cons.mpr ⟨⟨by decide, by decide, rfl, rfl, (sn_n6 _ (List.mem_of_getElem? (i := 9) rfl))⟩, fun _ h => absurd h List.not_mem_nil⟩⟩⟩⟩⟩⟩⟩⟩⟩⟩⟩⟩
theorem sn_pfl_ok6 : ∀ e ∈ sn_pfl_6, e.2.2.1 < 10 ∧ e.2.2.2 < sn_nf e.2.2.1 ∧ (sn_T e.2.2.1 e.2.2.2).1 = sn_cn e.2.2.1 ∧ (sn_T e.2.2.1 e.2.2.2).2.2.2 = sn_ff e.2.2.1 e.2.2.2 ∧ Cond.fieldLink (sn_cn e.1) e.2.1 (sn_cn e.2.2.1) (sn_T e.2.2.1 e.2.2.2).2.1 (sn_T e.2.2.1 e.2.2.2).2.2.1 ∈ wsL_law := List.forall_mem_cons.mpr ⟨⟨by decide, by decide, rfl, rfl, (sn_n6 _ (List.mem_of_getElem? (i := 10) rfl))⟩, List.forall_mem_cons.mpr ⟨⟨by decide, by decide, rfl, rfl, (sn_n6 _ (List.mem_of_getElem? (i := 11) rfl))⟩, List.forall_mem_cons.mpr ⟨⟨by decide, by decide, rfl, rfl, (sn_n3 _ (List.mem_of_getElem? (i := 17) rfl))⟩, List.forall_mem_cons.mpr ⟨⟨by decide, by decide, rfl, rfl, (sn_n3 _ (List.mem_of_getElem? (i := 18) rfl))⟩, List.forall_mem_cons.mpr ⟨⟨by decide, by decide, rfl, rfl, (sn_n3 _ (List.mem_of_getElem? (i := 20) rfl))⟩, List.forall_mem_cons.mpr ⟨⟨by decide, by decide, rfl, rfl, (sn_n3 _ (List.mem_of_getElem? (i := 21) rfl))⟩, List.forall_mem_cons.mpr ⟨⟨by decide, by decide, rfl, rfl, (sn_n3 _ (List.mem_of_getElem? (i := 22) rfl))⟩, List.forall_mem_cons.mpr ⟨⟨by decide, by decide, rfl, rfl, (sn_n3 _ (List.mem_of_getElem? (i := 23) rfl))⟩, List.forall_mem_cons.mpr ⟨⟨by decide, by decide, rfl, rfl, (sn_n4 _ (List.mem_of_getElem? (i := 0) rfl))⟩, List.forall_mem_cons.mpr ⟨⟨by decide, by decide, rfl, rfl, (sn_n4 _ (List.mem_of_getElem? (i := 5) rfl))⟩, List.forall_mem_cons.mpr ⟨⟨by decide, by decide, rfl, rfl, (sn_n4 _ (List.mem_of_getElem? (i := 6) rfl))⟩, List.forall_mem_cons.mpr ⟨⟨by decide, by decide, rfl, rfl, (sn_n4 _ (List.mem_of_getElem? (i := 7) rfl))⟩, fun _ h => absurd h List.not_mem_nil⟩⟩⟩⟩⟩⟩⟩⟩⟩⟩⟩⟩
theorem sn_pfl_ok7 : ∀ e ∈ sn_pfl_7, e.2.2.1 < 10 ∧ e.2.2.2 < sn_nf e.2.2.1 ∧ (sn_T e.2.2.1 e.2.2.2).1 = sn_cn e.2.2.1 ∧ (sn_T e.2.2.1 e.2.2.2).2.2.2 = sn_ff e.2.2.1 e.2.2.2 ∧ Cond.fieldLink (sn_cn e.1) e.2.1 (sn_cn e.2.2.1) (sn_T e.2.2.1 e.2.2.2).2.1 (sn_T e.2.2.1 e.2.2.2).2.2.1 ∈ wsL_law := List.forall_mem_cons.mpr ⟨⟨by decide, by decide, rfl, rfl, (sn_n4 _ (List.mem_of_getElem? (i := 8) rfl))⟩, List.forall_mem_cons.mpr ⟨⟨by decide, by decide, rfl, rfl, (sn_n4 _ (List.mem_of_getElem? (i := 9) rfl))⟩, List.forall_mem_cons.mpr ⟨⟨by decide, by decide, rfl, rfl, (sn_n10 _ (List.mem_of_getElem? (i := 2) rfl))⟩, List.forall_mem_cons.mpr ⟨⟨by decide, by decide, rfl, rfl, (sn_n17 _ (List.mem_of_getElem? (i := 11) rfl))⟩, List.forall_mem_cons.mpr ⟨⟨by decide, by decide, rfl, rfl, (sn_n16 _ (List.mem_of_getElem? (i := 14) rfl))⟩, List.forall_mem_cons.mpr ⟨⟨by decide, by decide, rfl, rfl, (sn_n2 _ (List.mem_of_getElem? (i := 7) rfl))⟩, List.forall_mem_cons.mpr ⟨⟨by decide, by decide, rfl, rfl, (sn_n2 _ (List.mem_of_getElem? (i := 8) rfl))⟩, List.forall_mem_cons.mpr ⟨⟨by decide, by decide, rfl, rfl, (sn_n2 _ (List.mem_of_getElem? (i := 9) rfl))⟩, List.forall_mem_cons.mpr ⟨⟨by decide, by decide, rfl, rfl, (sn_n2 _ (List.mem_of_getElem? (i := 10) rfl))⟩, List.forall_mem_cons.mpr ⟨⟨by decide, by decide, rfl, rfl, (sn_n2 _ (List.mem_of_getElem? (i := 11) rfl))⟩, List.forall_mem_cons.mpr ⟨⟨by decide, by decide, rfl, rfl, (sn_n2 _ (List.mem_of_getElem? (i := 12) rfl))⟩, List.forall_mem_cons.mpr ⟨⟨by decide, by decide, rfl, rfl, (sn_n2 _ (List.mem_of_getElem? (i := 13) rfl))⟩, fun _ h => absurd h List.not_mem_nil⟩⟩⟩⟩⟩⟩⟩⟩⟩⟩⟩⟩
theorem sn_pfl_ok8 : ∀ e ∈ sn_pfl_8, e.2.2.1 < 10 ∧ e.2.2.2 < sn_nf e.2.2.1 ∧ (sn_T e.2.2.1 e.2.2.2).1 = sn_cn e.2.2.1 ∧ (sn_T e.2.2.1 e.2.2.2).2.2.2 = sn_ff e.2.2.1 e.2.2.2 ∧ Cond.fieldLink (sn_cn e.1) e.2.1 (sn_cn e.2.2.1) (sn_T e.2.2.1 e.2.2.2).2.1 (sn_T e.2.2.1 e.2.2.2).2.2.1 ∈ wsL_law := List.forall_mem_cons.mpr ⟨⟨by decide, by decide, rfl, rfl, (sn_n2 _ (List.mem_of_getElem? (i := 17) rfl))⟩, List.forall_mem_cons.mpr ⟨⟨by decide, by decide, rfl, rfl, (sn_n2 _ (List.mem_of_getElem? (i := 21) rfl))⟩, List.forall_mem_cons.mpr ⟨⟨by decide, by decide, rfl, rfl, (sn_n2 _ (List.mem_of_getElem? (i := 22) rfl))⟩, List.forall_mem_cons.mpr ⟨⟨by decide, by decide, rfl, rfl, (sn_n2 _ (List.mem_of_getElem? (i := 23) rfl))⟩, List.forall_mem_cons.mpr ⟨⟨by decide, by decide, rfl, rfl, (sn_n3 _ (List.mem_of_getElem? (i := 0) rfl))⟩, List.forall_mem_cons.mpr ⟨⟨by decide, by decide, rfl, rfl, (sn_n3 _ (List.mem_of_getElem? (i := 1) rfl))⟩, List.forall_mem_cons.mpr ⟨⟨by decide, by decide, rfl, rfl, (sn_n3 _ (List.mem_of_getElem? (i := 2) rfl))⟩, List.forall_mem_cons.mpr ⟨⟨by decide, by decide, rfl, rfl, (sn_n3 _ (List.mem_of_getElem? (i := 3) rfl))⟩, List.forall_mem_cons.mpr ⟨⟨by decide, by decide, rfl, rfl, (sn_n3 _ (List.mem_of_getElem? (i := 4) rfl))⟩, List.forall_mem_cons.mpr ⟨⟨by decide, by decide, rfl, rfl, (sn_n8 _ (List.mem_of_getElem? (i := 8) rfl))⟩, List.forall_mem_cons.mpr ⟨⟨by decide, by decide, rfl, rfl, (sn_n9 _ (List.mem_of_getElem? (i := 0) rfl))⟩, List.forall_mem_cons.mpr ⟨⟨by decide, by decide, rfl, rfl, (sn_n9 _ (List.mem_of_getElem? (i := 1) rfl))⟩, fun _ h => absurd h List.not_mem_nil⟩⟩⟩⟩⟩⟩⟩⟩⟩⟩⟩⟩
theorem sn_pfl_ok9 : ∀ e ∈ sn_pfl_9, e.2.2.1 < 10 ∧ e.2.2.2 < sn_nf e.2.2.1 ∧ (sn_T e.2.2.1 e.2.2.2).1 = sn_cn e.2.2.1 ∧ (sn_T e.2.2.1 e.2.2.2).2.2.2 = sn_ff e.2.2.1 e.2.2.2 ∧ Cond.fieldLink (sn_cn e.1) e.2.1 (sn_cn e.2.2.1) (sn_T e.2.2.1 e.2.2.2).2.1 (sn_T e.2.2.1 e.2.2.2).2.2.1 ∈ wsL_law := List.forall_mem_cons.mpr ⟨⟨by decide, by decide, rfl, rfl, (sn_n9 _ (List.mem_of_getElem? (i := 2) rfl))⟩, List.forall_mem_cons.mpr ⟨⟨by decide, by decide, rfl, rfl, (sn_n9 _ (List.mem_of_getElem? (i := 3) rfl))⟩, List.forall_mem_cons.mpr ⟨⟨by decide, by decide, rfl, rfl, (sn_n9 _ (List.mem_of_getElem? (i := 4) rfl))⟩, List.forall_mem_cons.mpr ⟨⟨by decide, by decide, rfl, rfl, (sn_n9 _ (List.mem_of_getElem? (i := 5) rfl))⟩, List.forall_mem_cons.mpr ⟨⟨by decide, by decide, rfl, rfl, (sn_n9 _ (List.mem_of_getElem? (i := 10) rfl))⟩, List.forall_mem_cons.mpr ⟨⟨by decide, by decide, rfl, rfl, (sn_n9 _ (List.mem_of_getElem? (i := 11) rfl))⟩, List.forall_mem_cons.mpr ⟨⟨by decide, by decide, rfl, rfl, (sn_n20 _ (List.mem_of_getElem? (i := 9) rfl))⟩, List.forall_mem_cons.mpr ⟨⟨by decide, by decide, rfl, rfl, (sn_n23 _ (List.mem_of_getElem? (i := 5) rfl))⟩, List.forall_mem_cons.mpr ⟨⟨by decide, by decide, rfl, rfl, (sn_n10 _ (List.mem_of_getElem? (i := 11) rfl))⟩, List.forall_mem_cons.mpr ⟨⟨by decide, by decide, rfl, rfl, (sn_n16 _ (List.mem_of_getElem? (i := 4) rfl))⟩, List.forall_mem_cons.mpr ⟨⟨by decide, by decide, rfl, rfl, (sn_n20 _ (List.mem_of_getElem? (i := 11) rfl))⟩, List.forall_mem_cons.mpr ⟨⟨by decide, by decide, rfl, rfl, (sn_n23 _ (List.mem_of_getElem? (i := 6) rfl))⟩, fun _ h => absurd h List.not_mem_nil⟩⟩⟩⟩⟩⟩⟩⟩⟩⟩⟩⟩
theorem sn_pfl_ok10 : ∀ e ∈ sn_pfl_10, e.2.2.1 < 10 ∧ e.2.2.2 < sn_nf e.2.2.1 ∧ (sn_T e.2.2.1 e.2.2.2).1 = sn_cn e.2.2.1 ∧ (sn_T e.2.2.1 e.2.2.2).2.2.2 = sn_ff e.2.2.1 e.2.2.2 ∧ Cond.fieldLink (sn_cn e.1) e.2.1 (sn_cn e.2.2.1) (sn_T e.2.2.1 e.2.2.2).2.1 (sn_T e.2.2.1 e.2.2.2).2.2.1 ∈ wsL_law := List.forall_mem_cons.mpr ⟨⟨by decide, by decide, rfl, rfl, (sn_n23 _ (List.mem_of_getElem? (i := 7) rfl))⟩, List.forall_mem_cons.mpr ⟨⟨by decide, by decide, rfl, rfl, (sn_n22 _ (List.mem_of_getElem? (i := 15) rfl))⟩, List.forall_mem_cons.mpr ⟨⟨by decide, by decide, rfl, rfl, (sn_n18 _ (List.mem_of_getElem? (i := 18) rfl))⟩, List.forall_mem_cons.mpr ⟨⟨by decide, by decide, rfl, rfl, (sn_n18 _ (List.mem_of_getElem? (i := 19) rfl))⟩, List.forall_mem_cons.mpr ⟨⟨by decide, by decide, rfl, rfl, (sn_n29 _ (List.mem_of_getElem? (i := 0) rfl))⟩, List.forall_mem_cons.mpr ⟨⟨by decide, by decide, rfl, rfl, (sn_n29 _ (List.mem_of_getElem? (i := 1) rfl))⟩, List.forall_mem_cons.mpr ⟨⟨by decide, by decide, rfl, rfl, (sn_n23 _ (List.mem_of_getElem? (i := 0) rfl))⟩, List.forall_mem_cons.mpr ⟨⟨by decide, by decide, rfl, rfl, (sn_n23 _ (List.mem_of_getElem? (i := 1) rfl))⟩, List.forall_mem_cons.mpr ⟨⟨by decide, by decide, rfl, rfl, (sn_n23 _ (List.mem_of_getElem? (i := 2) rfl))⟩, List.forall_mem_cons.mpr ⟨⟨by decide, by decide, rfl, rfl, (sn_n16 _ (List.mem_of_getElem? (i := 22) rfl))⟩, List.forall_mem_cons.mpr ⟨⟨by decide, by decide, rfl, rfl, (sn_n23 _ (List.mem_of_getElem? (i := 3) rfl))⟩, List.forall_mem_cons.mpr ⟨⟨by decide, by decide, rfl, rfl, (sn_n23 _ (List.mem_of_getElem? (i := 4) rfl))⟩, fun _ h => absurd h List.not_mem_nil⟩⟩⟩⟩⟩⟩⟩⟩⟩⟩⟩⟩
theorem sn_pfl_ok11 : ∀ e ∈ sn_pfl_11, e.2.2.1 < 10 ∧ e.2.2.2 < sn_nf e.2.2.1 ∧ (sn_T e.2.2.1 e.2.2.2).1 = sn_cn e.2.2.1 ∧ (sn_T e.2.2.1 e.2.2.2).2.2.2 = sn_ff e.2.2.1 e.2.2.2 ∧ Cond.fieldLink (sn_cn e.1) e.2.1 (sn_cn e.2.2.1) (sn_T e.2.2.1 e.2.2.2).2.1 (sn_T e.2.2.1 e.2.2.2).2.2.1 ∈ wsL_law := List.forall_mem_cons.mpr ⟨⟨by decide, by decide, rfl, rfl, (sn_n20 _ (List.mem_of_getElem? (i := 6) rfl))⟩, List.forall_mem_cons.mpr ⟨⟨by decide, by decide, rfl, rfl, (sn_n20 _ (List.mem_of_getElem? (i := 7) rfl))⟩, List.forall_mem_cons.mpr ⟨⟨by decide, by decide, rfl, rfl, (sn_n20 _ (List.mem_of_getElem? (i := 8) rfl))⟩, List.forall_mem_cons.mpr ⟨⟨by decide, by decide, rfl, rfl, (sn_n20 _ (List.mem_of_getElem? (i := 10) rfl))⟩, List.forall_mem_cons.mpr ⟨⟨by decide, by decide, rfl, rfl, (sn_n20 _ (List.mem_of_getElem? (i := 12) rfl))⟩, List.forall_mem_cons.mpr ⟨⟨by decide, by decide, rfl, rfl, (sn_n16 _ (List.mem_of_getElem? (i := 3) rfl))⟩, List.forall_mem_cons.mpr ⟨⟨by decide, by decide, rfl, rfl, (sn_n16 _ (List.mem_of_getElem? (i := 5) rfl))⟩, fun _ h => absurd h List.not_mem_nil⟩⟩⟩⟩⟩⟩⟩
theorem sn_pfl_ok : ∀ e ∈ sn_pfl, e.2.2.1 < 10 ∧ e.2.2.2 < sn_nf e.2.2.1 ∧ (sn_T e.2.2.1 e.2.2.2).1 = sn_cn e.2.2.1 ∧ (sn_T e.2.2.1 e.2.2.2).2.2.2 = sn_ff e.2.2.1 e.2.2.2 ∧ Cond.fieldLink (sn_cn e.1) e.2.1 (sn_cn e.2.2.1) (sn_T e.2.2.1 e.2.2.2).2.1 (sn_T e.2.2.1 e.2.2.2).2.2.1 ∈ wsL_law := List.forall_mem_append.mpr ⟨sn_pfl_ok1, List.forall_mem_append.mpr ⟨sn_pfl_ok2, List.forall_mem_append.mpr ⟨sn_pfl_ok3, List.forall_mem_append.mpr ⟨sn_pfl_ok4, List.forall_mem_append.mpr ⟨sn_pfl_ok5, List.forall_mem_append.mpr ⟨sn_pfl_ok6, List.forall_mem_append.mpr ⟨sn_pfl_ok7, List.forall_mem_append.mpr ⟨sn_pfl_ok8, List.forall_mem_append.mpr ⟨sn_pfl_ok9, List.forall_mem_append.mpr ⟨sn_pfl_ok10, sn_pfl_ok11⟩⟩⟩⟩⟩⟩⟩⟩⟩⟩
theorem sn_pnl_ok1 : ∀ e ∈ sn_pnl_1, e.2.2 < 10 ∧ Cond.classLink (sn_cn e.1) e.2.1 (sn_cn e.2.2) ∈ wsL_law ∧ Cond.instantiable (sn_cn e.2.2) (sn_nf e.2.2) ∈ wsL_law ∧ Cond.initialized (sn_cn e.2.2) ∈ wsL_law := List.forall_mem_cons.mpr ⟨⟨by decide, (sn_n1 _ (List.mem_of_getElem? (i := 10) rfl)), (sn_n1 _ (List.mem_of_getElem? (i := 11) rfl)), (sn_n1 _ (List.mem_of_getElem? (i := 12) rfl))⟩, List.forall_mem_cons.mpr ⟨⟨by decide, (sn_n1 _ (List.mem_of_getElem? (i := 13) rfl)), (sn_n1 _ (List.mem_of_getElem? (i := 14) rfl)), (sn_n1 _ (List.mem_of_getElem? (i := 15) rfl))⟩, List.forall_mem_cons.mpr ⟨⟨by decide, (sn_n1 _ (List.mem_of_getElem? (i := 16) rfl)), (sn_n1 _ (List.mem_of_getElem? (i := 17) rfl)), (sn_n1 _ (List.mem_of_getElem? (i := 18) rfl))⟩, List.forall_mem_cons.mpr ⟨⟨by decide, (sn_n1 _ (List.mem_of_getElem? (i := 19) rfl)), (sn_n1 _ (List.mem_of_getElem? (i := 20) rfl)), (sn_n1 _ (List.mem_of_getElem? (i := 21) rfl))⟩, List.forall_mem_cons.mpr ⟨⟨by decide, (sn_n1 _ (List.mem_of_getElem? (i := 22) rfl)), (sn_n1 _ (List.mem_of_getElem? (i := 23) rfl)), (sn_n2 _ (List.mem_of_getElem? (i := 0) rfl))⟩, List.forall_mem_cons.mpr ⟨⟨by decide, (sn_n2 _ (List.mem_of_getElem? (i := 1) rfl)), (sn_n2 _ (List.mem_of_getElem? (i := 2) rfl)), (sn_n2 _ (List.mem_of_getElem? (i := 3) rfl))⟩, List.forall_mem_cons.mpr ⟨⟨by decide, (sn_n2 _ (List.mem_of_getElem? (i := 4) rfl)), (sn_n2 _ (List.mem_of_getElem? (i := 5) rfl)), (sn_n2 _ (List.mem_of_getElem? (i := 6) rfl))⟩, List.forall_mem_cons.mpr ⟨⟨by decide, (sn_n2 _ (List.mem_of_getElem? (i := 14) rfl)), (sn_n2 _ (List.mem_of_getElem? (i := 15) rfl)), (sn_n2 _ (List.mem_of_getElem? (i := 16) rfl))⟩, List.forall_mem_cons.mpr ⟨⟨by decide, (sn_n2 _ (List.mem_of_getElem? (i := 18) rfl)), (sn_n2 _ (List.mem_of_getElem? (i := 19) rfl)), (sn_n2 _ (List.mem_of_getElem? (i := 20) rfl))⟩, List.forall_mem_cons.mpr ⟨⟨by decide, (sn_n1 _ (List.mem_of_getElem? (i := 0) rfl)), (sn_n1 _ (List.mem_of_getElem? (i := 1) rfl)), (sn_n1 _ (List.mem_of_getElem? (i := 2) rfl))⟩, fun _ h => absurd h List.not_mem_nil⟩⟩⟩⟩⟩⟩⟩⟩⟩⟩
theorem sn_pnl_ok : ∀ e ∈ sn_pnl, e.2.2 < 10 ∧ Cond.classLink (sn_cn e.1) e.2.1 (sn_cn e.2.2) ∈ wsL_law ∧ Cond.instantiable (sn_cn e.2.2) (sn_nf e.2.2) ∈ wsL_law ∧ Cond.initialized (sn_cn e.2.2) ∈ wsL_law := sn_pnl_ok1
theorem sn_pil_ok1 : ∀ e ∈ sn_pil_1, Cond.constant (sn_cn e.1) e.2.1 (Int32.ofInt e.2.2) ∈ wsL_law := List.forall_mem_cons.mpr ⟨(show Cond.constant RL 7 (2147483647) ∈ wsL_law from (sn_n7 _ (List.mem_of_getElem? (i := 23) rfl))), List.forall_mem_cons.mpr ⟨(show Cond.constant RL 8 (790386105) ∈ wsL_law from (sn_n7 _ (List.mem_of_getElem? (i := 19) rfl))), fun _ h => absurd h List.not_mem_nil⟩⟩
theorem sn_pil_ok : ∀ e ∈ sn_pil, Cond.constant (sn_cn e.1) e.2.1 (Int32.ofInt e.2.2) ∈ wsL_law := sn_pil_ok1
theorem sn_pll_ok1 : ∀ e ∈ sn_pll_1, Cond.constantLong (sn_cn e.1) e.2.1 (Int64.ofInt e.2.2) ∈ wsL_law := List.forall_mem_cons.mpr ⟨(show Cond.constantLong RX9 371 (58219) ∈ wsL_law from (sn_n28 _ (List.mem_of_getElem? (i := 22) rfl))), List.forall_mem_cons.mpr ⟨(show Cond.constantLong RX9 373 (31) ∈ wsL_law from (sn_n28 _ (List.mem_of_getElem? (i := 23) rfl))), fun _ h => absurd h List.not_mem_nil⟩⟩
theorem sn_pll_ok : ∀ e ∈ sn_pll, Cond.constantLong (sn_cn e.1) e.2.1 (Int64.ofInt e.2.2) ∈ wsL_law := sn_pll_ok1
theorem sn_pvl_ok1 : ∀ e ∈ sn_pvl_1, e.2.2.1 < 129 ∧ e.2.2.1 ≠ 88 ∧ sn_oc e.2.2.1 < 10 ∧ (sn_y e.2.2.1).cls = sn_cn (sn_oc e.2.2.1) ∧ (parseMethodDescriptor (sn_y e.2.2.1).desc).map (fun d => d.parameters.length) = some e.2.2.2 ∧ Cond.methodLink (sn_cn e.1) e.2.1 (sn_y e.2.2.1) ∈ wsL_law ∧ Cond.instanceMethod (sn_y e.2.2.1) ∈ wsL_law ∧ Cond.selects (sn_y e.2.2.1).cls (sn_y e.2.2.1) (sn_y e.2.2.1) ∈ wsL_law ∧ Cond.initialized (sn_y e.2.2.1).cls ∈ wsL_law := List.forall_mem_cons.mpr ⟨⟨by decide, by decide, by decide, rfl, by decide +kernel, (sn_n19 _ (List.mem_of_getElem? (i := 16) rfl)), (sn_n12 _ (List.mem_of_getElem? (i := 5) rfl)), (sn_n12 _ (List.mem_of_getElem? (i := 6) rfl)), (sn_n1 _ (List.mem_of_getElem? (i := 15) rfl))⟩, List.forall_mem_cons.mpr ⟨⟨by decide, by decide, by decide, rfl, by decide +kernel, (sn_n28 _ (List.mem_of_getElem? (i := 17) rfl)), (sn_n22 _ (List.mem_of_getElem? (i := 1) rfl)), (sn_n22 _ (List.mem_of_getElem? (i := 2) rfl)), (sn_n2 _ (List.mem_of_getElem? (i := 20) rfl))⟩, List.forall_mem_cons.mpr ⟨⟨by decide, by decide, by decide, rfl, by decide +kernel, (sn_n25 _ (List.mem_of_getElem? (i := 10) rfl)), (sn_n25 _ (List.mem_of_getElem? (i := 11) rfl)), (sn_n25 _ (List.mem_of_getElem? (i := 12) rfl)), (sn_n2 _ (List.mem_of_getElem? (i := 20) rfl))⟩, List.forall_mem_cons.mpr ⟨⟨by decide, by decide, by decide, rfl, by decide +kernel, (sn_n25 _ (List.mem_of_getElem? (i := 0) rfl)), (sn_n15 _ (List.mem_of_getElem? (i := 6) rfl)), (sn_n15 _ (List.mem_of_getElem? (i := 7) rfl)), (sn_n1 _ (List.mem_of_getElem? (i := 15) rfl))⟩, List.forall_mem_cons.mpr ⟨⟨by decide, by decide, by decide, rfl, by decide +kernel, (sn_n25 _ (List.mem_of_getElem? (i := 1) rfl)), (sn_n20 _ (List.mem_of_getElem? (i := 19) rfl)), (sn_n20 _ (List.mem_of_getElem? (i := 20) rfl)), (sn_n2 _ (List.mem_of_getElem? (i := 20) rfl))⟩, List.forall_mem_cons.mpr ⟨⟨by decide, by decide, by decide, rfl, by decide +kernel, (sn_n27 _ (List.mem_of_getElem? (i := 1) rfl)), (sn_n27 _ (List.mem_of_getElem? (i := 2) rfl)), (sn_n27 _ (List.mem_of_getElem? (i := 3) rfl)), (sn_n2 _ (List.mem_of_getElem? (i := 20) rfl))⟩, List.forall_mem_cons.mpr ⟨⟨by decide, by decide, by decide, rfl, by decide +kernel, (sn_n10 _ (List.mem_of_getElem? (i := 17) rfl)), (sn_n10 _ (List.mem_of_getElem? (i := 18) rfl)), (sn_n10 _ (List.mem_of_getElem? (i := 19) rfl)), (sn_n2 _ (List.mem_of_getElem? (i := 0) rfl))⟩, List.forall_mem_cons.mpr ⟨⟨by decide, by decide, by decide, rfl, by decide +kernel, (sn_n13 _ (List.mem_of_getElem? (i := 10) rfl)), (sn_n13 _ (List.mem_of_getElem? (i := 11) rfl)), (sn_n13 _ (List.mem_of_getElem? (i := 12) rfl)), (sn_n2 _ (List.mem_of_getElem? (i := 0) rfl))⟩, List.forall_mem_cons.mpr ⟨⟨by decide, by decide, by decide, rfl, by decide +kernel, (sn_n13 _ (List.mem_of_getElem? (i := 14) rfl)), (sn_n13 _ (List.mem_of_getElem? (i := 15) rfl)), (sn_n13 _ (List.mem_of_getElem? (i := 16) rfl)), (sn_n2 _ (List.mem_of_getElem? (i := 0) rfl))⟩, List.forall_mem_cons.mpr ⟨⟨by decide, by decide, by decide, rfl, by decide +kernel, (sn_n12 _ (List.mem_of_getElem? (i := 0) rfl)), (sn_n12 _ (List.mem_of_getElem? (i := 1) rfl)), (sn_n12 _ (List.mem_of_getElem? (i := 2) rfl)), (sn_n2 _ (List.mem_of_getElem? (i := 0) rfl))⟩, List.forall_mem_cons.mpr ⟨⟨by decide, by decide, by decide, rfl, by decide +kernel, (sn_n14 _ (List.mem_of_getElem? (i := 0) rfl)), (sn_n14 _ (List.mem_of_getElem? (i := 1) rfl)), (sn_n14 _ (List.mem_of_getElem? (i := 2) rfl)), (sn_n2 _ (List.mem_of_getElem? (i := 0) rfl))⟩, List.forall_mem_cons.mpr ⟨⟨by decide, by decide, by decide, rfl, by decide +kernel, (sn_n10 _ (List.mem_of_getElem? (i := 21) rfl)), (sn_n10 _ (List.mem_of_getElem? (i := 22) rfl)), (sn_n10 _ (List.mem_of_getElem? (i := 23) rfl)), (sn_n1 _ (List.mem_of_getElem? (i := 21) rfl))⟩, fun _ h => absurd h List.not_mem_nil⟩⟩⟩⟩⟩⟩⟩⟩⟩⟩⟩⟩
theorem sn_pvl_ok2 : ∀ e ∈ sn_pvl_2, e.2.2.1 < 129 ∧ e.2.2.1 ≠ 88 ∧ sn_oc e.2.2.1 < 10 ∧ (sn_y e.2.2.1).cls = sn_cn (sn_oc e.2.2.1) ∧ (parseMethodDescriptor (sn_y e.2.2.1).desc).map (fun d => d.parameters.length) = some e.2.2.2 ∧ Cond.methodLink (sn_cn e.1) e.2.1 (sn_y e.2.2.1) ∈ wsL_law ∧ Cond.instanceMethod (sn_y e.2.2.1) ∈ wsL_law ∧ Cond.selects (sn_y e.2.2.1).cls (sn_y e.2.2.1) (sn_y e.2.2.1) ∈ wsL_law ∧ Cond.initialized (sn_y e.2.2.1).cls ∈ wsL_law := List.forall_mem_cons.mpr ⟨⟨by decide, by decide, by decide, rfl, by decide +kernel, (sn_n11 _ (List.mem_of_getElem? (i := 4) rfl)), (sn_n11 _ (List.mem_of_getElem? (i := 5) rfl)), (sn_n11 _ (List.mem_of_getElem? (i := 6) rfl)), (sn_n2 _ (List.mem_of_getElem? (i := 0) rfl))⟩, List.forall_mem_cons.mpr ⟨⟨by decide, by decide, by decide, rfl, by decide +kernel, (sn_n12 _ (List.mem_of_getElem? (i := 14) rfl)), (sn_n12 _ (List.mem_of_getElem? (i := 15) rfl)), (sn_n12 _ (List.mem_of_getElem? (i := 16) rfl)), (sn_n2 _ (List.mem_of_getElem? (i := 0) rfl))⟩, List.forall_mem_cons.mpr ⟨⟨by decide, by decide, by decide, rfl, by decide +kernel, (sn_n13 _ (List.mem_of_getElem? (i := 2) rfl)), (sn_n13 _ (List.mem_of_getElem? (i := 3) rfl)), (sn_n13 _ (List.mem_of_getElem? (i := 4) rfl)), (sn_n2 _ (List.mem_of_getElem? (i := 0) rfl))⟩, List.forall_mem_cons.mpr ⟨⟨by decide, by decide, by decide, rfl, by decide +kernel, (sn_n11 _ (List.mem_of_getElem? (i := 11) rfl)), (sn_n11 _ (List.mem_of_getElem? (i := 12) rfl)), (sn_n11 _ (List.mem_of_getElem? (i := 13) rfl)), (sn_n2 _ (List.mem_of_getElem? (i := 0) rfl))⟩, List.forall_mem_cons.mpr ⟨⟨by decide, by decide, by decide, rfl, by decide +kernel, (sn_n11 _ (List.mem_of_getElem? (i := 17) rfl)), (sn_n11 _ (List.mem_of_getElem? (i := 18) rfl)), (sn_n11 _ (List.mem_of_getElem? (i := 19) rfl)), (sn_n1 _ (List.mem_of_getElem? (i := 21) rfl))⟩, List.forall_mem_cons.mpr ⟨⟨by decide, by decide, by decide, rfl, by decide +kernel, (sn_n12 _ (List.mem_of_getElem? (i := 4) rfl)), (sn_n12 _ (List.mem_of_getElem? (i := 5) rfl)), (sn_n12 _ (List.mem_of_getElem? (i := 6) rfl)), (sn_n1 _ (List.mem_of_getElem? (i := 15) rfl))⟩, List.forall_mem_cons.mpr ⟨⟨by decide, by decide, by decide, rfl, by decide +kernel, (sn_n12 _ (List.mem_of_getElem? (i := 18) rfl)), (sn_n12 _ (List.mem_of_getElem? (i := 19) rfl)), (sn_n12 _ (List.mem_of_getElem? (i := 20) rfl)), (sn_n1 _ (List.mem_of_getElem? (i := 21) rfl))⟩, List.forall_mem_cons.mpr ⟨⟨by decide, by decide, by decide, rfl, by decide +kernel, (sn_n13 _ (List.mem_of_getElem? (i := 6) rfl)), (sn_n13 _ (List.mem_of_getElem? (i := 7) rfl)), (sn_n13 _ (List.mem_of_getElem? (i := 8) rfl)), (sn_n1 _ (List.mem_of_getElem? (i := 21) rfl))⟩, List.forall_mem_cons.mpr ⟨⟨by decide, by decide, by decide, rfl, by decide +kernel, (sn_n13 _ (List.mem_of_getElem? (i := 19) rfl)), (sn_n13 _ (List.mem_of_getElem? (i := 20) rfl)), (sn_n13 _ (List.mem_of_getElem? (i := 21) rfl)), (sn_n2 _ (List.mem_of_getElem? (i := 0) rfl))⟩, List.forall_mem_cons.mpr ⟨⟨by decide, by decide, by decide, rfl, by decide +kernel, (sn_n13 _ (List.mem_of_getElem? (i := 23) rfl)), (sn_n12 _ (List.mem_of_getElem? (i := 9) rfl)), (sn_n12 _ (List.mem_of_getElem? (i := 10) rfl)), (sn_n1 _ (List.mem_of_getElem? (i := 15) rfl))⟩, List.forall_mem_cons.mpr ⟨⟨by decide, by decide, by decide, rfl, by decide +kernel, (sn_n14 _ (List.mem_of_getElem? (i := 8) rfl)), (sn_n14 _ (List.mem_of_getElem? (i := 9) rfl)), (sn_n14 _ (List.mem_of_getElem? (i := 10) rfl)), (sn_n2 _ (List.mem_of_getElem? (i := 3) rfl))⟩, List.forall_mem_cons.mpr ⟨⟨by decide, by decide, by decide, rfl, by decide +kernel, (sn_n14 _ (List.mem_of_getElem? (i := 19) rfl)), (sn_n12 _ (List.mem_of_getElem? (i := 9) rfl)), (sn_n12 _ (List.mem_of_getElem? (i := 10) rfl)), (sn_n1 _ (List.mem_of_getElem? (i := 15) rfl))⟩, fun _ h => absurd h List.not_mem_nil⟩⟩⟩⟩⟩⟩⟩⟩⟩⟩⟩⟩
theorem sn_pvl_ok3 : ∀ e ∈ sn_pvl_3, e.2.2.1 < 129 ∧ e.2.2.1 ≠ 88 ∧ sn_oc e.2.2.1 < 10 ∧ (sn_y e.2.2.1).cls = sn_cn (sn_oc e.2.2.1) ∧ (parseMethodDescriptor (sn_y e.2.2.1).desc).map (fun d => d.parameters.length) = some e.2.2.2 ∧ Cond.methodLink (sn_cn e.1) e.2.1 (sn_y e.2.2.1) ∈ wsL_law ∧ Cond.instanceMethod (sn_y e.2.2.1) ∈ wsL_law ∧ Cond.selects (sn_y e.2.2.1).cls (sn_y e.2.2.1) (sn_y e.2.2.1) ∈ wsL_law ∧ Cond.initialized (sn_y e.2.2.1).cls ∈ wsL_law := List.forall_mem_cons.mpr ⟨⟨by decide, by decide, by decide, rfl, by decide +kernel, (sn_n14 _ (List.mem_of_getElem? (i := 12) rfl)), (sn_n14 _ (List.mem_of_getElem? (i := 13) rfl)), (sn_n14 _ (List.mem_of_getElem? (i := 14) rfl)), (sn_n2 _ (List.mem_of_getElem? (i := 3) rfl))⟩, List.forall_mem_cons.mpr ⟨⟨by decide, by decide, by decide, rfl, by decide +kernel, (sn_n15 _ (List.mem_of_getElem? (i := 0) rfl)), (sn_n12 _ (List.mem_of_getElem? (i := 5) rfl)), (sn_n12 _ (List.mem_of_getElem? (i := 6) rfl)), (sn_n1 _ (List.mem_of_getElem? (i := 15) rfl))⟩, List.forall_mem_cons.mpr ⟨⟨by decide, by decide, by decide, rfl, by decide +kernel, (sn_n29 _ (List.mem_of_getElem? (i := 14) rfl)), (sn_n29 _ (List.mem_of_getElem? (i := 15) rfl)), (sn_n29 _ (List.mem_of_getElem? (i := 16) rfl)), (sn_n2 _ (List.mem_of_getElem? (i := 3) rfl))⟩, List.forall_mem_cons.mpr ⟨⟨by decide, by decide, by decide, rfl, by decide +kernel, (sn_n15 _ (List.mem_of_getElem? (i := 5) rfl)), (sn_n15 _ (List.mem_of_getElem? (i := 6) rfl)), (sn_n15 _ (List.mem_of_getElem? (i := 7) rfl)), (sn_n1 _ (List.mem_of_getElem? (i := 15) rfl))⟩, List.forall_mem_cons.mpr ⟨⟨by decide, by decide, by decide, rfl, by decide +kernel, (sn_n15 _ (List.mem_of_getElem? (i := 9) rfl)), (sn_n15 _ (List.mem_of_getElem? (i := 10) rfl)), (sn_n15 _ (List.mem_of_getElem? (i := 11) rfl)), (sn_n2 _ (List.mem_of_getElem? (i := 16) rfl))⟩, List.forall_mem_cons.mpr ⟨⟨by decide, by decide, by decide, rfl, by decide +kernel, (sn_n15 _ (List.mem_of_getElem? (i := 15) rfl)), (sn_n15 _ (List.mem_of_getElem? (i := 16) rfl)), (sn_n15 _ (List.mem_of_getElem? (i := 17) rfl)), (sn_n2 _ (List.mem_of_getElem? (i := 16) rfl))⟩, List.forall_mem_cons.mpr ⟨⟨by decide, by decide, by decide, rfl, by decide +kernel, (sn_n15 _ (List.mem_of_getElem? (i := 19) rfl)), (sn_n15 _ (List.mem_of_getElem? (i := 20) rfl)), (sn_n15 _ (List.mem_of_getElem? (i := 21) rfl)), (sn_n1 _ (List.mem_of_getElem? (i := 18) rfl))⟩, List.forall_mem_cons.mpr ⟨⟨by decide, by decide, by decide, rfl, by decide +kernel, (sn_n19 _ (List.mem_of_getElem? (i := 4) rfl)), (sn_n19 _ (List.mem_of_getElem? (i := 5) rfl)), (sn_n19 _ (List.mem_of_getElem? (i := 6) rfl)), (sn_n1 _ (List.mem_of_getElem? (i := 15) rfl))⟩, List.forall_mem_cons.mpr ⟨⟨by decide, by decide, by decide, rfl, by decide +kernel, (sn_n19 _ (List.mem_of_getElem? (i := 8) rfl)), (sn_n15 _ (List.mem_of_getElem? (i := 6) rfl)), (sn_n15 _ (List.mem_of_getElem? (i := 7) rfl)), (sn_n1 _ (List.mem_of_getElem? (i := 15) rfl))⟩, List.forall_mem_cons.mpr ⟨⟨by decide, by decide, by decide, rfl, by decide +kernel, (sn_n12 _ (List.mem_of_getElem? (i := 8) rfl)), (sn_n12 _ (List.mem_of_getElem? (i := 9) rfl)), (sn_n12 _ (List.mem_of_getElem? (i := 10) rfl)), (sn_n1 _ (List.mem_of_getElem? (i := 15) rfl))⟩, List.forall_mem_cons.mpr ⟨⟨by decide, by decide, by decide, rfl, by decide +kernel, (sn_n17 _ (List.mem_of_getElem? (i := 21) rfl)), (sn_n17 _ (List.mem_of_getElem? (i := 22) rfl)), (sn_n17 _ (List.mem_of_getElem? (i := 23) rfl)), (sn_n1 _ (List.mem_of_getElem? (i := 18) rfl))⟩, List.forall_mem_cons.mpr ⟨⟨by decide, by decide, by decide, rfl, by decide +kernel, (sn_n16 _ (List.mem_of_getElem? (i := 10) rfl)), (sn_n16 _ (List.mem_of_getElem? (i := 11) rfl)), (sn_n16 _ (List.mem_of_getElem? (i := 12) rfl)), (sn_n1 _ (List.mem_of_getElem? (i := 18) rfl))⟩, fun _ h => absurd h List.not_mem_nil⟩⟩⟩⟩⟩⟩⟩⟩⟩⟩⟩⟩
theorem sn_pvl_ok4 : ∀ e ∈ sn_pvl_4, e.2.2.1 < 129 ∧ e.2.2.1 ≠ 88 ∧ sn_oc e.2.2.1 < 10 ∧ (sn_y e.2.2.1).cls = sn_cn (sn_oc e.2.2.1) ∧ (parseMethodDescriptor (sn_y e.2.2.1).desc).map (fun d => d.parameters.length) = some e.2.2.2 ∧ Cond.methodLink (sn_cn e.1) e.2.1 (sn_y e.2.2.1) ∈ wsL_law ∧ Cond.instanceMethod (sn_y e.2.2.1) ∈ wsL_law ∧ Cond.selects (sn_y e.2.2.1).cls (sn_y e.2.2.1) (sn_y e.2.2.1) ∈ wsL_law ∧ Cond.initialized (sn_y e.2.2.1).cls ∈ wsL_law := List.forall_mem_cons.mpr ⟨⟨by decide, by decide, by decide, rfl, by decide +kernel, (sn_n17 _ (List.mem_of_getElem? (i := 12) rfl)), (sn_n16 _ (List.mem_of_getElem? (i := 7) rfl)), (sn_n16 _ (List.mem_of_getElem? (i := 8) rfl)), (sn_n1 _ (List.mem_of_getElem? (i := 18) rfl))⟩, List.forall_mem_cons.mpr ⟨⟨by decide, by decide, by decide, rfl, by decide +kernel, (sn_n17 _ (List.mem_of_getElem? (i := 13) rfl)), (sn_n17 _ (List.mem_of_getElem? (i := 14) rfl)), (sn_n17 _ (List.mem_of_getElem? (i := 15) rfl)), (sn_n1 _ (List.mem_of_getElem? (i := 18) rfl))⟩, List.forall_mem_cons.mpr ⟨⟨by decide, by decide, by decide, rfl, by decide +kernel, (sn_n17 _ (List.mem_of_getElem? (i := 17) rfl)), (sn_n17 _ (List.mem_of_getElem? (i := 18) rfl)), (sn_n17 _ (List.mem_of_getElem? (i := 19) rfl)), (sn_n1 _ (List.mem_of_getElem? (i := 18) rfl))⟩, List.forall_mem_cons.mpr ⟨⟨by decide, by decide, by decide, rfl, by decide +kernel, (sn_n8 _ (List.mem_of_getElem? (i := 12) rfl)), (sn_n8 _ (List.mem_of_getElem? (i := 13) rfl)), (sn_n8 _ (List.mem_of_getElem? (i := 14) rfl)), (sn_n1 _ (List.mem_of_getElem? (i := 2) rfl))⟩, List.forall_mem_cons.mpr ⟨⟨by decide, by decide, by decide, rfl, by decide +kernel, (sn_n8 _ (List.mem_of_getElem? (i := 16) rfl)), (sn_n8 _ (List.mem_of_getElem? (i := 17) rfl)), (sn_n8 _ (List.mem_of_getElem? (i := 18) rfl)), (sn_n1 _ (List.mem_of_getElem? (i := 12) rfl))⟩, List.forall_mem_cons.mpr ⟨⟨by decide, by decide, by decide, rfl, by decide +kernel, (sn_n9 _ (List.mem_of_getElem? (i := 12) rfl)), (sn_n9 _ (List.mem_of_getElem? (i := 13) rfl)), (sn_n9 _ (List.mem_of_getElem? (i := 14) rfl)), (sn_n1 _ (List.mem_of_getElem? (i := 2) rfl))⟩, List.forall_mem_cons.mpr ⟨⟨by decide, by decide, by decide, rfl, by decide +kernel, (sn_n9 _ (List.mem_of_getElem? (i := 18) rfl)), (sn_n9 _ (List.mem_of_getElem? (i := 19) rfl)), (sn_n9 _ (List.mem_of_getElem? (i := 20) rfl)), (sn_n1 _ (List.mem_of_getElem? (i := 15) rfl))⟩, List.forall_mem_cons.mpr ⟨⟨by decide, by decide, by decide, rfl, by decide +kernel, (sn_n9 _ (List.mem_of_getElem? (i := 22) rfl)), (sn_n9 _ (List.mem_of_getElem? (i := 23) rfl)), (sn_n10 _ (List.mem_of_getElem? (i := 0) rfl)), (sn_n1 _ (List.mem_of_getElem? (i := 18) rfl))⟩, List.forall_mem_cons.mpr ⟨⟨by decide, by decide, by decide, rfl, by decide +kernel, (sn_n17 _ (List.mem_of_getElem? (i := 3) rfl)), (sn_n17 _ (List.mem_of_getElem? (i := 4) rfl)), (sn_n17 _ (List.mem_of_getElem? (i := 5) rfl)), (sn_n1 _ (List.mem_of_getElem? (i := 2) rfl))⟩, List.forall_mem_cons.mpr ⟨⟨by decide, by decide, by decide, rfl, by decide +kernel, (sn_n18 _ (List.mem_of_getElem? (i := 5) rfl)), (sn_n17 _ (List.mem_of_getElem? (i := 14) rfl)), (sn_n17 _ (List.mem_of_getElem? (i := 15) rfl)), (sn_n1 _ (List.mem_of_getElem? (i := 18) rfl))⟩, List.forall_mem_cons.mpr ⟨⟨by decide, by decide, by decide, rfl, by decide +kernel, (sn_n18 _ (List.mem_of_getElem? (i := 6) rfl)), (sn_n18 _ (List.mem_of_getElem? (i := 7) rfl)), (sn_n18 _ (List.mem_of_getElem? (i := 8) rfl)), (sn_n1 _ (List.mem_of_getElem? (i := 18) rfl))⟩, List.forall_mem_cons.mpr ⟨⟨by decide, by decide, by decide, rfl, by decide +kernel, (sn_n16 _ (List.mem_of_getElem? (i := 6) rfl)), (sn_n16 _ (List.mem_of_getElem? (i := 7) rfl)), (sn_n16 _ (List.mem_of_getElem? (i := 8) rfl)), (sn_n1 _ (List.mem_of_getElem? (i := 18) rfl))⟩, fun _ h => absurd h List.not_mem_nil⟩⟩⟩⟩⟩⟩⟩⟩⟩⟩⟩⟩
theorem sn_pvl_ok5 : ∀ e ∈ sn_pvl_5, e.2.2.1 < 129 ∧ e.2.2.1 ≠ 88 ∧ sn_oc e.2.2.1 < 10 ∧ (sn_y e.2.2.1).cls = sn_cn (sn_oc e.2.2.1) ∧ (parseMethodDescriptor (sn_y e.2.2.1).desc).map (fun d => d.parameters.length) = some e.2.2.2 ∧ Cond.methodLink (sn_cn e.1) e.2.1 (sn_y e.2.2.1) ∈ wsL_law ∧ Cond.instanceMethod (sn_y e.2.2.1) ∈ wsL_law ∧ Cond.selects (sn_y e.2.2.1).cls (sn_y e.2.2.1) (sn_y e.2.2.1) ∈ wsL_law ∧ Cond.initialized (sn_y e.2.2.1).cls ∈ wsL_law := List.forall_mem_cons.mpr ⟨⟨by decide, by decide, by decide, rfl, by decide +kernel, (sn_n19 _ (List.mem_of_getElem? (i := 0) rfl)), (sn_n19 _ (List.mem_of_getElem? (i := 1) rfl)), (sn_n19 _ (List.mem_of_getElem? (i := 2) rfl)), (sn_n1 _ (List.mem_of_getElem? (i := 15) rfl))⟩, List.forall_mem_cons.mpr ⟨⟨by decide, by decide, by decide, rfl, by decide +kernel, (sn_n19 _ (List.mem_of_getElem? (i := 12) rfl)), (sn_n19 _ (List.mem_of_getElem? (i := 13) rfl)), (sn_n19 _ (List.mem_of_getElem? (i := 14) rfl)), (sn_n1 _ (List.mem_of_getElem? (i := 21) rfl))⟩, List.forall_mem_cons.mpr ⟨⟨by decide, by decide, by decide, rfl, by decide +kernel, (sn_n19 _ (List.mem_of_getElem? (i := 17) rfl)), (sn_n13 _ (List.mem_of_getElem? (i := 7) rfl)), (sn_n13 _ (List.mem_of_getElem? (i := 8) rfl)), (sn_n1 _ (List.mem_of_getElem? (i := 21) rfl))⟩, List.forall_mem_cons.mpr ⟨⟨by decide, by decide, by decide, rfl, by decide +kernel, (sn_n19 _ (List.mem_of_getElem? (i := 22) rfl)), (sn_n19 _ (List.mem_of_getElem? (i := 23) rfl)), (sn_n20 _ (List.mem_of_getElem? (i := 0) rfl)), (sn_n1 _ (List.mem_of_getElem? (i := 2) rfl))⟩, List.forall_mem_cons.mpr ⟨⟨by decide, by decide, by decide, rfl, by decide +kernel, (sn_n21 _ (List.mem_of_getElem? (i := 2) rfl)), (sn_n12 _ (List.mem_of_getElem? (i := 9) rfl)), (sn_n12 _ (List.mem_of_getElem? (i := 10) rfl)), (sn_n1 _ (List.mem_of_getElem? (i := 15) rfl))⟩, List.forall_mem_cons.mpr ⟨⟨by decide, by decide, by decide, rfl, by decide +kernel, (sn_n21 _ (List.mem_of_getElem? (i := 3) rfl)), (sn_n21 _ (List.mem_of_getElem? (i := 4) rfl)), (sn_n21 _ (List.mem_of_getElem? (i := 5) rfl)), (sn_n2 _ (List.mem_of_getElem? (i := 3) rfl))⟩, List.forall_mem_cons.mpr ⟨⟨by decide, by decide, by decide, rfl, by decide +kernel, (sn_n21 _ (List.mem_of_getElem? (i := 15) rfl)), (sn_n19 _ (List.mem_of_getElem? (i := 5) rfl)), (sn_n19 _ (List.mem_of_getElem? (i := 6) rfl)), (sn_n1 _ (List.mem_of_getElem? (i := 15) rfl))⟩, List.forall_mem_cons.mpr ⟨⟨by decide, by decide, by decide, rfl, by decide +kernel, (sn_n21 _ (List.mem_of_getElem? (i := 16) rfl)), (sn_n21 _ (List.mem_of_getElem? (i := 17) rfl)), (sn_n21 _ (List.mem_of_getElem? (i := 18) rfl)), (sn_n1 _ (List.mem_of_getElem? (i := 15) rfl))⟩, List.forall_mem_cons.mpr ⟨⟨by decide, by decide, by decide, rfl, by decide +kernel, (sn_n21 _ (List.mem_of_getElem? (i := 20) rfl)), (sn_n21 _ (List.mem_of_getElem? (i := 21) rfl)), (sn_n21 _ (List.mem_of_getElem? (i := 22) rfl)), (sn_n1 _ (List.mem_of_getElem? (i := 21) rfl))⟩, List.forall_mem_cons.mpr ⟨⟨by decide, by decide, by decide, rfl, by decide +kernel, (sn_n22 _ (List.mem_of_getElem? (i := 0) rfl)), (sn_n22 _ (List.mem_of_getElem? (i := 1) rfl)), (sn_n22 _ (List.mem_of_getElem? (i := 2) rfl)), (sn_n2 _ (List.mem_of_getElem? (i := 20) rfl))⟩, List.forall_mem_cons.mpr ⟨⟨by decide, by decide, by decide, rfl, by decide +kernel, (sn_n10 _ (List.mem_of_getElem? (i := 7) rfl)), (sn_n10 _ (List.mem_of_getElem? (i := 8) rfl)), (sn_n10 _ (List.mem_of_getElem? (i := 9) rfl)), (sn_n1 _ (List.mem_of_getElem? (i := 2) rfl))⟩, List.forall_mem_cons.mpr ⟨⟨by decide, by decide, by decide, rfl, by decide +kernel, (sn_n16 _ (List.mem_of_getElem? (i := 18) rfl)), (sn_n16 _ (List.mem_of_getElem? (i := 19) rfl)), (sn_n16 _ (List.mem_of_getElem? (i := 20) rfl)), (sn_n1 _ (List.mem_of_getElem? (i := 2) rfl))⟩, fun _ h => absurd h List.not_mem_nil⟩⟩⟩⟩⟩⟩⟩⟩⟩⟩⟩⟩
theorem sn_pvl_ok6 : ∀ e ∈ sn_pvl_6, e.2.2.1 < 129 ∧ e.2.2.1 ≠ 88 ∧ sn_oc e.2.2.1 < 10 ∧ (sn_y e.2.2.1).cls = sn_cn (sn_oc e.2.2.1) ∧ (parseMethodDescriptor (sn_y e.2.2.1).desc).map (fun d => d.parameters.length) = some e.2.2.2 ∧ Cond.methodLink (sn_cn e.1) e.2.1 (sn_y e.2.2.1) ∈ wsL_law ∧ Cond.instanceMethod (sn_y e.2.2.1) ∈ wsL_law ∧ Cond.selects (sn_y e.2.2.1).cls (sn_y e.2.2.1) (sn_y e.2.2.1) ∈ wsL_law ∧ Cond.initialized (sn_y e.2.2.1).cls ∈ wsL_law := List.forall_mem_cons.mpr ⟨⟨by decide, by decide, by decide, rfl, by decide +kernel, (sn_n24 _ (List.mem_of_getElem? (i := 16) rfl)), (sn_n24 _ (List.mem_of_getElem? (i := 17) rfl)), (sn_n24 _ (List.mem_of_getElem? (i := 18) rfl)), (sn_n2 _ (List.mem_of_getElem? (i := 20) rfl))⟩, List.forall_mem_cons.mpr ⟨⟨by decide, by decide, by decide, rfl, by decide +kernel, (sn_n25 _ (List.mem_of_getElem? (i := 6) rfl)), (sn_n25 _ (List.mem_of_getElem? (i := 7) rfl)), (sn_n25 _ (List.mem_of_getElem? (i := 8) rfl)), (sn_n2 _ (List.mem_of_getElem? (i := 20) rfl))⟩, List.forall_mem_cons.mpr ⟨⟨by decide, by decide, by decide, rfl, by decide +kernel, (sn_n25 _ (List.mem_of_getElem? (i := 15) rfl)), (sn_n25 _ (List.mem_of_getElem? (i := 16) rfl)), (sn_n25 _ (List.mem_of_getElem? (i := 17) rfl)), (sn_n2 _ (List.mem_of_getElem? (i := 0) rfl))⟩, List.forall_mem_cons.mpr ⟨⟨by decide, by decide, by decide, rfl, by decide +kernel, (sn_n26 _ (List.mem_of_getElem? (i := 4) rfl)), (sn_n26 _ (List.mem_of_getElem? (i := 5) rfl)), (sn_n26 _ (List.mem_of_getElem? (i := 6) rfl)), (sn_n2 _ (List.mem_of_getElem? (i := 20) rfl))⟩, List.forall_mem_cons.mpr ⟨⟨by decide, by decide, by decide, rfl, by decide +kernel, (sn_n26 _ (List.mem_of_getElem? (i := 8) rfl)), (sn_n26 _ (List.mem_of_getElem? (i := 9) rfl)), (sn_n26 _ (List.mem_of_getElem? (i := 10) rfl)), (sn_n2 _ (List.mem_of_getElem? (i := 20) rfl))⟩, List.forall_mem_cons.mpr ⟨⟨by decide, by decide, by decide, rfl, by decide +kernel, (sn_n25 _ (List.mem_of_getElem? (i := 23) rfl)), (sn_n25 _ (List.mem_of_getElem? (i := 11) rfl)), (sn_n25 _ (List.mem_of_getElem? (i := 12) rfl)), (sn_n2 _ (List.mem_of_getElem? (i := 20) rfl))⟩, List.forall_mem_cons.mpr ⟨⟨by decide, by decide, by decide, rfl, by decide +kernel, (sn_n23 _ (List.mem_of_getElem? (i := 13) rfl)), (sn_n23 _ (List.mem_of_getElem? (i := 14) rfl)), (sn_n23 _ (List.mem_of_getElem? (i := 15) rfl)), (sn_n2 _ (List.mem_of_getElem? (i := 16) rfl))⟩, List.forall_mem_cons.mpr ⟨⟨by decide, by decide, by decide, rfl, by decide +kernel, (sn_n27 _ (List.mem_of_getElem? (i := 13) rfl)), (sn_n27 _ (List.mem_of_getElem? (i := 14) rfl)), (sn_n27 _ (List.mem_of_getElem? (i := 15) rfl)), (sn_n1 _ (List.mem_of_getElem? (i := 2) rfl))⟩, List.forall_mem_cons.mpr ⟨⟨by decide, by decide, by decide, rfl, by decide +kernel, (sn_n27 _ (List.mem_of_getElem? (i := 21) rfl)), (sn_n27 _ (List.mem_of_getElem? (i := 22) rfl)), (sn_n27 _ (List.mem_of_getElem? (i := 23) rfl)), (sn_n1 _ (List.mem_of_getElem? (i := 15) rfl))⟩, List.forall_mem_cons.mpr ⟨⟨by decide, by decide, by decide, rfl, by decide +kernel, (sn_n28 _ (List.mem_of_getElem? (i := 1) rfl)), (sn_n28 _ (List.mem_of_getElem? (i := 2) rfl)), (sn_n28 _ (List.mem_of_getElem? (i := 3) rfl)), (sn_n1 _ (List.mem_of_getElem? (i := 18) rfl))⟩, List.forall_mem_cons.mpr ⟨⟨by decide, by decide, by decide, rfl, by decide +kernel, (sn_n28 _ (List.mem_of_getElem? (i := 5) rfl)), (sn_n28 _ (List.mem_of_getElem? (i := 6) rfl)), (sn_n28 _ (List.mem_of_getElem? (i := 7) rfl)), (sn_n1 _ (List.mem_of_getElem? (i := 21) rfl))⟩, List.forall_mem_cons.mpr ⟨⟨by decide, by decide, by decide, rfl, by decide +kernel, (sn_n28 _ (List.mem_of_getElem? (i := 9) rfl)), (sn_n28 _ (List.mem_of_getElem? (i := 10) rfl)), (sn_n28 _ (List.mem_of_getElem? (i := 11) rfl)), (sn_n2 _ (List.mem_of_getElem? (i := 3) rfl))⟩, fun _ h => absurd h List.not_mem_nil⟩⟩⟩⟩⟩⟩⟩⟩⟩⟩⟩⟩
theorem sn_pvl_ok7 : ∀ e ∈ sn_pvl_7, e.2.2.1 < 129 ∧ e.2.2.1 ≠ 88 ∧ sn_oc e.2.2.1 < 10 ∧ (sn_y e.2.2.1).cls = sn_cn (sn_oc e.2.2.1) ∧ (parseMethodDescriptor (sn_y e.2.2.1).desc).map (fun d => d.parameters.length) = some e.2.2.2 ∧ Cond.methodLink (sn_cn e.1) e.2.1 (sn_y e.2.2.1) ∈ wsL_law ∧ Cond.instanceMethod (sn_y e.2.2.1) ∈ wsL_law ∧ Cond.selects (sn_y e.2.2.1).cls (sn_y e.2.2.1) (sn_y e.2.2.1) ∈ wsL_law ∧ Cond.initialized (sn_y e.2.2.1).cls ∈ wsL_law := List.forall_mem_cons.mpr ⟨⟨by decide, by decide, by decide, rfl, by decide +kernel, (sn_n28 _ (List.mem_of_getElem? (i := 13) rfl)), (sn_n28 _ (List.mem_of_getElem? (i := 14) rfl)), (sn_n28 _ (List.mem_of_getElem? (i := 15) rfl)), (sn_n2 _ (List.mem_of_getElem? (i := 20) rfl))⟩, List.forall_mem_cons.mpr ⟨⟨by decide, by decide, by decide, rfl, by decide +kernel, (sn_n22 _ (List.mem_of_getElem? (i := 20) rfl)), (sn_n22 _ (List.mem_of_getElem? (i := 21) rfl)), (sn_n22 _ (List.mem_of_getElem? (i := 22) rfl)), (sn_n1 _ (List.mem_of_getElem? (i := 2) rfl))⟩, List.forall_mem_cons.mpr ⟨⟨by decide, by decide, by decide, rfl, by decide +kernel, (sn_n20 _ (List.mem_of_getElem? (i := 2) rfl)), (sn_n20 _ (List.mem_of_getElem? (i := 3) rfl)), (sn_n20 _ (List.mem_of_getElem? (i := 4) rfl)), (sn_n1 _ (List.mem_of_getElem? (i := 2) rfl))⟩, List.forall_mem_cons.mpr ⟨⟨by decide, by decide, by decide, rfl, by decide +kernel, (sn_n15 _ (List.mem_of_getElem? (i := 23) rfl)), (sn_n16 _ (List.mem_of_getElem? (i := 0) rfl)), (sn_n16 _ (List.mem_of_getElem? (i := 1) rfl)), (sn_n1 _ (List.mem_of_getElem? (i := 2) rfl))⟩, List.forall_mem_cons.mpr ⟨⟨by decide, by decide, by decide, rfl, by decide +kernel, (sn_n23 _ (List.mem_of_getElem? (i := 21) rfl)), (sn_n23 _ (List.mem_of_getElem? (i := 22) rfl)), (sn_n23 _ (List.mem_of_getElem? (i := 23) rfl)), (sn_n2 _ (List.mem_of_getElem? (i := 16) rfl))⟩, List.forall_mem_cons.mpr ⟨⟨by decide, by decide, by decide, rfl, by decide +kernel, (sn_n26 _ (List.mem_of_getElem? (i := 16) rfl)), (sn_n26 _ (List.mem_of_getElem? (i := 17) rfl)), (sn_n26 _ (List.mem_of_getElem? (i := 18) rfl)), (sn_n1 _ (List.mem_of_getElem? (i := 2) rfl))⟩, List.forall_mem_cons.mpr ⟨⟨by decide, by decide, by decide, rfl, by decide +kernel, (sn_n24 _ (List.mem_of_getElem? (i := 12) rfl)), (sn_n24 _ (List.mem_of_getElem? (i := 13) rfl)), (sn_n24 _ (List.mem_of_getElem? (i := 14) rfl)), (sn_n1 _ (List.mem_of_getElem? (i := 2) rfl))⟩, List.forall_mem_cons.mpr ⟨⟨by decide, by decide, by decide, rfl, by decide +kernel, (sn_n29 _ (List.mem_of_getElem? (i := 6) rfl)), (sn_n29 _ (List.mem_of_getElem? (i := 7) rfl)), (sn_n29 _ (List.mem_of_getElem? (i := 8) rfl)), (sn_n2 _ (List.mem_of_getElem? (i := 16) rfl))⟩, List.forall_mem_cons.mpr ⟨⟨by decide, by decide, by decide, rfl, by decide +kernel, (sn_n29 _ (List.mem_of_getElem? (i := 10) rfl)), (sn_n29 _ (List.mem_of_getElem? (i := 11) rfl)), (sn_n29 _ (List.mem_of_getElem? (i := 12) rfl)), (sn_n2 _ (List.mem_of_getElem? (i := 3) rfl))⟩, List.forall_mem_cons.mpr ⟨⟨by decide, by decide, by decide, rfl, by decide +kernel, (sn_n17 _ (List.mem_of_getElem? (i := 7) rfl)), (sn_n17 _ (List.mem_of_getElem? (i := 8) rfl)), (sn_n17 _ (List.mem_of_getElem? (i := 9) rfl)), (sn_n1 _ (List.mem_of_getElem? (i := 18) rfl))⟩, List.forall_mem_cons.mpr ⟨⟨by decide, by decide, by decide, rfl, by decide +kernel, (sn_n29 _ (List.mem_of_getElem? (i := 2) rfl)), (sn_n29 _ (List.mem_of_getElem? (i := 3) rfl)), (sn_n29 _ (List.mem_of_getElem? (i := 4) rfl)), (sn_n1 _ (List.mem_of_getElem? (i := 2) rfl))⟩, List.forall_mem_cons.mpr ⟨⟨by decide, by decide, by decide, rfl, by decide +kernel, (sn_n23 _ (List.mem_of_getElem? (i := 8) rfl)), (sn_n10 _ (List.mem_of_getElem? (i := 22) rfl)), (sn_n10 _ (List.mem_of_getElem? (i := 23) rfl)), (sn_n1 _ (List.mem_of_getElem? (i := 21) rfl))⟩, fun _ h => absurd h List.not_mem_nil⟩⟩⟩⟩⟩⟩⟩⟩⟩⟩⟩⟩
theorem sn_pvl_ok8 : ∀ e ∈ sn_pvl_8, e.2.2.1 < 129 ∧ e.2.2.1 ≠ 88 ∧ sn_oc e.2.2.1 < 10 ∧ (sn_y e.2.2.1).cls = sn_cn (sn_oc e.2.2.1) ∧ (parseMethodDescriptor (sn_y e.2.2.1).desc).map (fun d => d.parameters.length) = some e.2.2.2 ∧ Cond.methodLink (sn_cn e.1) e.2.1 (sn_y e.2.2.1) ∈ wsL_law ∧ Cond.instanceMethod (sn_y e.2.2.1) ∈ wsL_law ∧ Cond.selects (sn_y e.2.2.1).cls (sn_y e.2.2.1) (sn_y e.2.2.1) ∈ wsL_law ∧ Cond.initialized (sn_y e.2.2.1).cls ∈ wsL_law := List.forall_mem_cons.mpr ⟨⟨by decide, by decide, by decide, rfl, by decide +kernel, (sn_n20 _ (List.mem_of_getElem? (i := 13) rfl)), (sn_n15 _ (List.mem_of_getElem? (i := 20) rfl)), (sn_n15 _ (List.mem_of_getElem? (i := 21) rfl)), (sn_n1 _ (List.mem_of_getElem? (i := 18) rfl))⟩, List.forall_mem_cons.mpr ⟨⟨by decide, by decide, by decide, rfl, by decide +kernel, (sn_n20 _ (List.mem_of_getElem? (i := 14) rfl)), (sn_n20 _ (List.mem_of_getElem? (i := 15) rfl)), (sn_n20 _ (List.mem_of_getElem? (i := 16) rfl)), (sn_n2 _ (List.mem_of_getElem? (i := 16) rfl))⟩, List.forall_mem_cons.mpr ⟨⟨by decide, by decide, by decide, rfl, by decide +kernel, (sn_n20 _ (List.mem_of_getElem? (i := 18) rfl)), (sn_n20 _ (List.mem_of_getElem? (i := 19) rfl)), (sn_n20 _ (List.mem_of_getElem? (i := 20) rfl)), (sn_n2 _ (List.mem_of_getElem? (i := 20) rfl))⟩, List.forall_mem_cons.mpr ⟨⟨by decide, by decide, by decide, rfl, by decide +kernel, (sn_n26 _ (List.mem_of_getElem? (i := 20) rfl)), (sn_n26 _ (List.mem_of_getElem? (i := 21) rfl)), (sn_n26 _ (List.mem_of_getElem? (i := 22) rfl)), (sn_n2 _ (List.mem_of_getElem? (i := 20) rfl))⟩, List.forall_mem_cons.mpr ⟨⟨by decide, by decide, by decide, rfl, by decide +kernel, (sn_n24 _ (List.mem_of_getElem? (i := 20) rfl)), (sn_n24 _ (List.mem_of_getElem? (i := 21) rfl)), (sn_n24 _ (List.mem_of_getElem? (i := 22) rfl)), (sn_n2 _ (List.mem_of_getElem? (i := 20) rfl))⟩, List.forall_mem_cons.mpr ⟨⟨by decide, by decide, by decide, rfl, by decide +kernel, (sn_n10 _ (List.mem_of_getElem? (i := 12) rfl)), (sn_n10 _ (List.mem_of_getElem? (i := 13) rfl)), (sn_n10 _ (List.mem_of_getElem? (i := 14) rfl)), (sn_n2 _ (List.mem_of_getElem? (i := 0) rfl))⟩, List.forall_mem_cons.mpr ⟨⟨by decide, by decide, by decide, rfl, by decide +kernel, (sn_n14 _ (List.mem_of_getElem? (i := 4) rfl)), (sn_n14 _ (List.mem_of_getElem? (i := 5) rfl)), (sn_n14 _ (List.mem_of_getElem? (i := 6) rfl)), (sn_n2 _ (List.mem_of_getElem? (i := 3) rfl))⟩, List.forall_mem_cons.mpr ⟨⟨by decide, by decide, by decide, rfl, by decide +kernel, (sn_n14 _ (List.mem_of_getElem? (i := 20) rfl)), (sn_n14 _ (List.mem_of_getElem? (i := 21) rfl)), (sn_n14 _ (List.mem_of_getElem? (i := 22) rfl)), (sn_n2 _ (List.mem_of_getElem? (i := 3) rfl))⟩, List.forall_mem_cons.mpr ⟨⟨by decide, by decide, by decide, rfl, by decide +kernel, (sn_n15 _ (List.mem_of_getElem? (i := 1) rfl)), (sn_n15 _ (List.mem_of_getElem? (i := 2) rfl)), (sn_n15 _ (List.mem_of_getElem? (i := 3) rfl)), (sn_n2 _ (List.mem_of_getElem? (i := 16) rfl))⟩, List.forall_mem_cons.mpr ⟨⟨by decide, by decide, by decide, rfl, by decide +kernel, (sn_n8 _ (List.mem_of_getElem? (i := 0) rfl)), (sn_n8 _ (List.mem_of_getElem? (i := 1) rfl)), (sn_n8 _ (List.mem_of_getElem? (i := 2) rfl)), (sn_n1 _ (List.mem_of_getElem? (i := 2) rfl))⟩, List.forall_mem_cons.mpr ⟨⟨by decide, by decide, by decide, rfl, by decide +kernel, (sn_n8 _ (List.mem_of_getElem? (i := 20) rfl)), (sn_n8 _ (List.mem_of_getElem? (i := 21) rfl)), (sn_n8 _ (List.mem_of_getElem? (i := 22) rfl)), (sn_n1 _ (List.mem_of_getElem? (i := 2) rfl))⟩, List.forall_mem_cons.mpr ⟨⟨by decide, by decide, by decide, rfl, by decide +kernel, (sn_n9 _ (List.mem_of_getElem? (i := 6) rfl)), (sn_n9 _ (List.mem_of_getElem? (i := 7) rfl)), (sn_n9 _ (List.mem_of_getElem? (i := 8) rfl)), (sn_n1 _ (List.mem_of_getElem? (i := 2) rfl))⟩, fun _ h => absurd h List.not_mem_nil⟩⟩⟩⟩⟩⟩⟩⟩⟩⟩⟩⟩
theorem sn_pvl_ok9 : ∀ e ∈ sn_pvl_9, e.2.2.1 < 129 ∧ e.2.2.1 ≠ 88 ∧ sn_oc e.2.2.1 < 10 ∧ (sn_y e.2.2.1).cls = sn_cn (sn_oc e.2.2.1) ∧ (parseMethodDescriptor (sn_y e.2.2.1).desc).map (fun d => d.parameters.length) = some e.2.2.2 ∧ Cond.methodLink (sn_cn e.1) e.2.1 (sn_y e.2.2.1) ∈ wsL_law ∧ Cond.instanceMethod (sn_y e.2.2.1) ∈ wsL_law ∧ Cond.selects (sn_y e.2.2.1).cls (sn_y e.2.2.1) (sn_y e.2.2.1) ∈ wsL_law ∧ Cond.initialized (sn_y e.2.2.1).cls ∈ wsL_law := List.forall_mem_cons.mpr ⟨⟨by decide, by decide, by decide, rfl, by decide +kernel, (sn_n10 _ (List.mem_of_getElem? (i := 3) rfl)), (sn_n10 _ (List.mem_of_getElem? (i := 4) rfl)), (sn_n10 _ (List.mem_of_getElem? (i := 5) rfl)), (sn_n1 _ (List.mem_of_getElem? (i := 2) rfl))⟩, List.forall_mem_cons.mpr ⟨⟨by decide, by decide, by decide, rfl, by decide +kernel, (sn_n16 _ (List.mem_of_getElem? (i := 23) rfl)), (sn_n17 _ (List.mem_of_getElem? (i := 0) rfl)), (sn_n17 _ (List.mem_of_getElem? (i := 1) rfl)), (sn_n1 _ (List.mem_of_getElem? (i := 2) rfl))⟩, List.forall_mem_cons.mpr ⟨⟨by decide, by decide, by decide, rfl, by decide +kernel, (sn_n18 _ (List.mem_of_getElem? (i := 1) rfl)), (sn_n18 _ (List.mem_of_getElem? (i := 2) rfl)), (sn_n18 _ (List.mem_of_getElem? (i := 3) rfl)), (sn_n1 _ (List.mem_of_getElem? (i := 2) rfl))⟩, List.forall_mem_cons.mpr ⟨⟨by decide, by decide, by decide, rfl, by decide +kernel, (sn_n18 _ (List.mem_of_getElem? (i := 10) rfl)), (sn_n18 _ (List.mem_of_getElem? (i := 11) rfl)), (sn_n18 _ (List.mem_of_getElem? (i := 12) rfl)), (sn_n1 _ (List.mem_of_getElem? (i := 2) rfl))⟩, List.forall_mem_cons.mpr ⟨⟨by decide, by decide, by decide, rfl, by decide +kernel, (sn_n18 _ (List.mem_of_getElem? (i := 14) rfl)), (sn_n18 _ (List.mem_of_getElem? (i := 15) rfl)), (sn_n18 _ (List.mem_of_getElem? (i := 16) rfl)), (sn_n1 _ (List.mem_of_getElem? (i := 2) rfl))⟩, List.forall_mem_cons.mpr ⟨⟨by decide, by decide, by decide, rfl, by decide +kernel, (sn_n18 _ (List.mem_of_getElem? (i := 20) rfl)), (sn_n18 _ (List.mem_of_getElem? (i := 21) rfl)), (sn_n18 _ (List.mem_of_getElem? (i := 22) rfl)), (sn_n1 _ (List.mem_of_getElem? (i := 2) rfl))⟩, List.forall_mem_cons.mpr ⟨⟨by decide, by decide, by decide, rfl, by decide +kernel, (sn_n19 _ (List.mem_of_getElem? (i := 18) rfl)), (sn_n19 _ (List.mem_of_getElem? (i := 19) rfl)), (sn_n19 _ (List.mem_of_getElem? (i := 20) rfl)), (sn_n1 _ (List.mem_of_getElem? (i := 2) rfl))⟩, List.forall_mem_cons.mpr ⟨⟨by decide, by decide, by decide, rfl, by decide +kernel, (sn_n20 _ (List.mem_of_getElem? (i := 22) rfl)), (sn_n20 _ (List.mem_of_getElem? (i := 23) rfl)), (sn_n21 _ (List.mem_of_getElem? (i := 0) rfl)), (sn_n1 _ (List.mem_of_getElem? (i := 2) rfl))⟩, List.forall_mem_cons.mpr ⟨⟨by decide, by decide, by decide, rfl, by decide +kernel, (sn_n21 _ (List.mem_of_getElem? (i := 11) rfl)), (sn_n21 _ (List.mem_of_getElem? (i := 12) rfl)), (sn_n21 _ (List.mem_of_getElem? (i := 13) rfl)), (sn_n1 _ (List.mem_of_getElem? (i := 2) rfl))⟩, List.forall_mem_cons.mpr ⟨⟨by decide, by decide, by decide, rfl, by decide +kernel, (sn_n24 _ (List.mem_of_getElem? (i := 1) rfl)), (sn_n24 _ (List.mem_of_getElem? (i := 2) rfl)), (sn_n24 _ (List.mem_of_getElem? (i := 3) rfl)), (sn_n1 _ (List.mem_of_getElem? (i := 2) rfl))⟩, List.forall_mem_cons.mpr ⟨⟨by decide, by decide, by decide, rfl, by decide +kernel, (sn_n28 _ (List.mem_of_getElem? (i := 18) rfl)), (sn_n28 _ (List.mem_of_getElem? (i := 19) rfl)), (sn_n28 _ (List.mem_of_getElem? (i := 20) rfl)), (sn_n1 _ (List.mem_of_getElem? (i := 2) rfl))⟩, List.forall_mem_cons.mpr ⟨⟨by decide, by decide, by decide, rfl, by decide +kernel, (sn_n26 _ (List.mem_of_getElem? (i := 12) rfl)), (sn_n26 _ (List.mem_of_getElem? (i := 13) rfl)), (sn_n26 _ (List.mem_of_getElem? (i := 14) rfl)), (sn_n1 _ (List.mem_of_getElem? (i := 2) rfl))⟩, fun _ h => absurd h List.not_mem_nil⟩⟩⟩⟩⟩⟩⟩⟩⟩⟩⟩⟩
theorem sn_pvl_ok10 : ∀ e ∈ sn_pvl_10, e.2.2.1 < 129 ∧ e.2.2.1 ≠ 88 ∧ sn_oc e.2.2.1 < 10 ∧ (sn_y e.2.2.1).cls = sn_cn (sn_oc e.2.2.1) ∧ (parseMethodDescriptor (sn_y e.2.2.1).desc).map (fun d => d.parameters.length) = some e.2.2.2 ∧ Cond.methodLink (sn_cn e.1) e.2.1 (sn_y e.2.2.1) ∈ wsL_law ∧ Cond.instanceMethod (sn_y e.2.2.1) ∈ wsL_law ∧ Cond.selects (sn_y e.2.2.1).cls (sn_y e.2.2.1) (sn_y e.2.2.1) ∈ wsL_law ∧ Cond.initialized (sn_y e.2.2.1).cls ∈ wsL_law := List.forall_mem_cons.mpr ⟨⟨by decide, by decide, by decide, rfl, by decide +kernel, (sn_n24 _ (List.mem_of_getElem? (i := 8) rfl)), (sn_n24 _ (List.mem_of_getElem? (i := 9) rfl)), (sn_n24 _ (List.mem_of_getElem? (i := 10) rfl)), (sn_n1 _ (List.mem_of_getElem? (i := 2) rfl))⟩, List.forall_mem_cons.mpr ⟨⟨by decide, by decide, by decide, rfl, by decide +kernel, (sn_n29 _ (List.mem_of_getElem? (i := 18) rfl)), (sn_n29 _ (List.mem_of_getElem? (i := 19) rfl)), (sn_n29 _ (List.mem_of_getElem? (i := 20) rfl)), (sn_n1 _ (List.mem_of_getElem? (i := 2) rfl))⟩, List.forall_mem_cons.mpr ⟨⟨by decide, by decide, by decide, rfl, by decide +kernel, (sn_n22 _ (List.mem_of_getElem? (i := 11) rfl)), (sn_n22 _ (List.mem_of_getElem? (i := 12) rfl)), (sn_n22 _ (List.mem_of_getElem? (i := 13) rfl)), (sn_n1 _ (List.mem_of_getElem? (i := 2) rfl))⟩, List.forall_mem_cons.mpr ⟨⟨by decide, by decide, by decide, rfl, by decide +kernel, (sn_n22 _ (List.mem_of_getElem? (i := 16) rfl)), (sn_n22 _ (List.mem_of_getElem? (i := 17) rfl)), (sn_n22 _ (List.mem_of_getElem? (i := 18) rfl)), (sn_n1 _ (List.mem_of_getElem? (i := 2) rfl))⟩, List.forall_mem_cons.mpr ⟨⟨by decide, by decide, by decide, rfl, by decide +kernel, (sn_n23 _ (List.mem_of_getElem? (i := 9) rfl)), (sn_n23 _ (List.mem_of_getElem? (i := 10) rfl)), (sn_n23 _ (List.mem_of_getElem? (i := 11) rfl)), (sn_n1 _ (List.mem_of_getElem? (i := 2) rfl))⟩, List.forall_mem_cons.mpr ⟨⟨by decide, by decide, by decide, rfl, by decide +kernel, (sn_n23 _ (List.mem_of_getElem? (i := 17) rfl)), (sn_n23 _ (List.mem_of_getElem? (i := 18) rfl)), (sn_n23 _ (List.mem_of_getElem? (i := 19) rfl)), (sn_n1 _ (List.mem_of_getElem? (i := 2) rfl))⟩, List.forall_mem_cons.mpr ⟨⟨by decide, by decide, by decide, rfl, by decide +kernel, (sn_n25 _ (List.mem_of_getElem? (i := 2) rfl)), (sn_n25 _ (List.mem_of_getElem? (i := 3) rfl)), (sn_n25 _ (List.mem_of_getElem? (i := 4) rfl)), (sn_n1 _ (List.mem_of_getElem? (i := 2) rfl))⟩, List.forall_mem_cons.mpr ⟨⟨by decide, by decide, by decide, rfl, by decide +kernel, (sn_n25 _ (List.mem_of_getElem? (i := 19) rfl)), (sn_n25 _ (List.mem_of_getElem? (i := 20) rfl)), (sn_n25 _ (List.mem_of_getElem? (i := 21) rfl)), (sn_n1 _ (List.mem_of_getElem? (i := 2) rfl))⟩, List.forall_mem_cons.mpr ⟨⟨by decide, by decide, by decide, rfl, by decide +kernel, (sn_n26 _ (List.mem_of_getElem? (i := 0) rfl)), (sn_n26 _ (List.mem_of_getElem? (i := 1) rfl)), (sn_n26 _ (List.mem_of_getElem? (i := 2) rfl)), (sn_n1 _ (List.mem_of_getElem? (i := 2) rfl))⟩, List.forall_mem_cons.mpr ⟨⟨by decide, by decide, by decide, rfl, by decide +kernel, (sn_n27 _ (List.mem_of_getElem? (i := 9) rfl)), (sn_n27 _ (List.mem_of_getElem? (i := 10) rfl)), (sn_n27 _ (List.mem_of_getElem? (i := 11) rfl)), (sn_n1 _ (List.mem_of_getElem? (i := 2) rfl))⟩, List.forall_mem_cons.mpr ⟨⟨by decide, by decide, by decide, rfl, by decide +kernel, (sn_n27 _ (List.mem_of_getElem? (i := 17) rfl)), (sn_n27 _ (List.mem_of_getElem? (i := 18) rfl)), (sn_n27 _ (List.mem_of_getElem? (i := 19) rfl)), (sn_n1 _ (List.mem_of_getElem? (i := 2) rfl))⟩, fun _ h => absurd h List.not_mem_nil⟩⟩⟩⟩⟩⟩⟩⟩⟩⟩⟩
theorem sn_pvl_ok : ∀ e ∈ sn_pvl, e.2.2.1 < 129 ∧ e.2.2.1 ≠ 88 ∧ sn_oc e.2.2.1 < 10 ∧ (sn_y e.2.2.1).cls = sn_cn (sn_oc e.2.2.1) ∧ (parseMethodDescriptor (sn_y e.2.2.1).desc).map (fun d => d.parameters.length) = some e.2.2.2 ∧ Cond.methodLink (sn_cn e.1) e.2.1 (sn_y e.2.2.1) ∈ wsL_law ∧ Cond.instanceMethod (sn_y e.2.2.1) ∈ wsL_law ∧ Cond.selects (sn_y e.2.2.1).cls (sn_y e.2.2.1) (sn_y e.2.2.1) ∈ wsL_law ∧ Cond.initialized (sn_y e.2.2.1).cls ∈ wsL_law := List.forall_mem_append.mpr ⟨sn_pvl_ok1, List.forall_mem_append.mpr ⟨sn_pvl_ok2, List.forall_mem_append.mpr ⟨sn_pvl_ok3, List.forall_mem_append.mpr ⟨sn_pvl_ok4, List.forall_mem_append.mpr ⟨sn_pvl_ok5, List.forall_mem_append.mpr ⟨sn_pvl_ok6, List.forall_mem_append.mpr ⟨sn_pvl_ok7, List.forall_mem_append.mpr ⟨sn_pvl_ok8, List.forall_mem_append.mpr ⟨sn_pvl_ok9, sn_pvl_ok10⟩⟩⟩⟩⟩⟩⟩⟩⟩
theorem sn_psl_ok1 : ∀ e ∈ sn_psl_1, e.2.2.1 < 129 ∧ sn_oc e.2.2.1 < 11 ∧ (parseMethodDescriptor (sn_y e.2.2.1).desc).map (fun d => d.parameters.length) = some e.2.2.2 ∧ (Cond.methodLink (sn_cn e.1) e.2.1 (sn_y e.2.2.1) ∈ wsL_law ∨ (e.1, e.2.1, e.2.2.1) ∈ sn_nl) ∧ Cond.static (sn_y e.2.2.1) ∈ wsL_law ∧ Cond.initialized (sn_y e.2.2.1).cls ∈ wsL_law := List.forall_mem_cons.mpr ⟨⟨by decide, by decide, by decide +kernel, (Or.inl (sn_n11 _ (List.mem_of_getElem? (i := 1) rfl))), (sn_n11 _ (List.mem_of_getElem? (i := 2) rfl)), (sn_n1 _ (List.mem_of_getElem? (i := 21) rfl))⟩, List.forall_mem_cons.mpr ⟨⟨by decide, by decide, by decide +kernel, (Or.inr (by decide)), (sn_n19 _ (List.mem_of_getElem? (i := 10) rfl)), (sn_n1 _ (List.mem_of_getElem? (i := 2) rfl))⟩, List.forall_mem_cons.mpr ⟨⟨by decide, by decide, by decide +kernel, (Or.inr (by decide)), (sn_n11 _ (List.mem_of_getElem? (i := 21) rfl)), (sn_n1 _ (List.mem_of_getElem? (i := 2) rfl))⟩, List.forall_mem_cons.mpr ⟨⟨by decide, by decide, by decide +kernel, (Or.inl (sn_n11 _ (List.mem_of_getElem? (i := 16) rfl))), (sn_n11 _ (List.mem_of_getElem? (i := 2) rfl)), (sn_n1 _ (List.mem_of_getElem? (i := 21) rfl))⟩, List.forall_mem_cons.mpr ⟨⟨by decide, by decide, by decide +kernel, (Or.inl (sn_n11 _ (List.mem_of_getElem? (i := 8) rfl))), (sn_n11 _ (List.mem_of_getElem? (i := 9) rfl)), (sn_n2 _ (List.mem_of_getElem? (i := 0) rfl))⟩, List.forall_mem_cons.mpr ⟨⟨by decide, by decide, by decide +kernel, (Or.inr (by decide)), (sn_n12 _ (List.mem_of_getElem? (i := 12) rfl)), (sn_n1 _ (List.mem_of_getElem? (i := 2) rfl))⟩, List.forall_mem_cons.mpr ⟨⟨by decide, by decide, by decide +kernel, (Or.inr (by decide)), (sn_n11 _ (List.mem_of_getElem? (i := 21) rfl)), (sn_n1 _ (List.mem_of_getElem? (i := 2) rfl))⟩, List.forall_mem_cons.mpr ⟨⟨by decide, by decide, by decide +kernel, (Or.inl (sn_n14 _ (List.mem_of_getElem? (i := 16) rfl))), (sn_n14 _ (List.mem_of_getElem? (i := 17) rfl)), (sn_n2 _ (List.mem_of_getElem? (i := 3) rfl))⟩, List.forall_mem_cons.mpr ⟨⟨by decide, by decide, by decide +kernel, (Or.inr (by decide)), (sn_n12 _ (List.mem_of_getElem? (i := 12) rfl)), (sn_n1 _ (List.mem_of_getElem? (i := 2) rfl))⟩, List.forall_mem_cons.mpr ⟨⟨by decide, by decide, by decide +kernel, (Or.inr (by decide)), (sn_n11 _ (List.mem_of_getElem? (i := 21) rfl)), (sn_n1 _ (List.mem_of_getElem? (i := 2) rfl))⟩, List.forall_mem_cons.mpr ⟨⟨by decide, by decide, by decide +kernel, (Or.inr (by decide)), (sn_n12 _ (List.mem_of_getElem? (i := 12) rfl)), (sn_n1 _ (List.mem_of_getElem? (i := 2) rfl))⟩, List.forall_mem_cons.mpr ⟨⟨by decide, by decide, by decide +kernel, (Or.inr (by decide)), (sn_n8 _ (List.mem_of_getElem? (i := 10) rfl)), (sn_n1 _ (List.mem_of_getElem? (i := 2) rfl))⟩, fun _ h => absurd h List.not_mem_nil⟩⟩⟩⟩⟩⟩⟩⟩⟩⟩⟩⟩
theorem sn_psl_ok2 : ∀ e ∈ sn_psl_2, e.2.2.1 < 129 ∧ sn_oc e.2.2.1 < 11 ∧ (parseMethodDescriptor (sn_y e.2.2.1).desc).map (fun d => d.parameters.length) = some e.2.2.2 ∧ (Cond.methodLink (sn_cn e.1) e.2.1 (sn_y e.2.2.1) ∈ wsL_law ∨ (e.1, e.2.1, e.2.2.1) ∈ sn_nl) ∧ Cond.static (sn_y e.2.2.1) ∈ wsL_law ∧ Cond.initialized (sn_y e.2.2.1).cls ∈ wsL_law := List.forall_mem_cons.mpr ⟨⟨by decide, by decide, by decide +kernel, (Or.inl (sn_n8 _ (List.mem_of_getElem? (i := 9) rfl))), (sn_n8 _ (List.mem_of_getElem? (i := 10) rfl)), (sn_n1 _ (List.mem_of_getElem? (i := 2) rfl))⟩, List.forall_mem_cons.mpr ⟨⟨by decide, by decide, by decide +kernel, (Or.inl (sn_n19 _ (List.mem_of_getElem? (i := 9) rfl))), (sn_n19 _ (List.mem_of_getElem? (i := 10) rfl)), (sn_n1 _ (List.mem_of_getElem? (i := 2) rfl))⟩, List.forall_mem_cons.mpr ⟨⟨by decide, by decide, by decide +kernel, (Or.inl (sn_n7 _ (List.mem_of_getElem? (i := 15) rfl))), (sn_n7 _ (List.mem_of_getElem? (i := 16) rfl)), (sn_n7 _ (List.mem_of_getElem? (i := 17) rfl))⟩, List.forall_mem_cons.mpr ⟨⟨by decide, by decide, by decide +kernel, (Or.inl (sn_n7 _ (List.mem_of_getElem? (i := 20) rfl))), (sn_n7 _ (List.mem_of_getElem? (i := 21) rfl)), (sn_n7 _ (List.mem_of_getElem? (i := 17) rfl))⟩, List.forall_mem_cons.mpr ⟨⟨by decide, by decide, by decide +kernel, (Or.inl (sn_n22 _ (List.mem_of_getElem? (i := 4) rfl))), (sn_n22 _ (List.mem_of_getElem? (i := 5) rfl)), (sn_n7 _ (List.mem_of_getElem? (i := 17) rfl))⟩, List.forall_mem_cons.mpr ⟨⟨by decide, by decide, by decide +kernel, (Or.inl (sn_n24 _ (List.mem_of_getElem? (i := 5) rfl))), (sn_n24 _ (List.mem_of_getElem? (i := 6) rfl)), (sn_n7 _ (List.mem_of_getElem? (i := 17) rfl))⟩, List.forall_mem_cons.mpr ⟨⟨by decide, by decide, by decide +kernel, (Or.inl (sn_n27 _ (List.mem_of_getElem? (i := 6) rfl))), (sn_n27 _ (List.mem_of_getElem? (i := 7) rfl)), (sn_n7 _ (List.mem_of_getElem? (i := 17) rfl))⟩, List.forall_mem_cons.mpr ⟨⟨by decide, by decide, by decide +kernel, (Or.inl (sn_n22 _ (List.mem_of_getElem? (i := 7) rfl))), (sn_n22 _ (List.mem_of_getElem? (i := 8) rfl)), (sn_n7 _ (List.mem_of_getElem? (i := 17) rfl))⟩, fun _ h => absurd h List.not_mem_nil⟩⟩⟩⟩⟩⟩⟩⟩
theorem sn_psl_ok : ∀ e ∈ sn_psl, e.2.2.1 < 129 ∧ sn_oc e.2.2.1 < 11 ∧ (parseMethodDescriptor (sn_y e.2.2.1).desc).map (fun d => d.parameters.length) = some e.2.2.2 ∧ (Cond.methodLink (sn_cn e.1) e.2.1 (sn_y e.2.2.1) ∈ wsL_law ∨ (e.1, e.2.1, e.2.2.1) ∈ sn_nl) ∧ Cond.static (sn_y e.2.2.1) ∈ wsL_law ∧ Cond.initialized (sn_y e.2.2.1).cls ∈ wsL_law := List.forall_mem_append.mpr ⟨sn_psl_ok1, sn_psl_ok2⟩
theorem sn_pcl_ok1 : ∀ e ∈ sn_pcl_1, (e.2.2.1 = 200 ∧ Cond.methodLink (sn_cn e.1) e.2.1 objectInit ∈ wsL_law) ∨ (e.2.2.1 < 10 ∧ (sn_y e.2.2.1).name = "<init>" ∧ (parseMethodDescriptor (sn_y e.2.2.1).desc).map (fun d => d.parameters.length) = some e.2.2.2 ∧ (Cond.methodLink (sn_cn e.1) e.2.1 (sn_y e.2.2.1) ∈ wsL_law ∨ (e.1, e.2.1, e.2.2.1) ∈ sn_nl) ∧ Cond.instanceMethod (sn_y e.2.2.1) ∈ wsL_law ∧ Cond.initialized (sn_y e.2.2.1).cls ∈ wsL_law) := List.forall_mem_cons.mpr ⟨Or.inl ⟨rfl, (sn_n4 _ (List.mem_of_getElem? (i := 13) rfl))⟩, List.forall_mem_cons.mpr ⟨Or.inl ⟨rfl, (sn_n7 _ (List.mem_of_getElem? (i := 4) rfl))⟩, List.forall_mem_cons.mpr ⟨Or.inl ⟨rfl, (sn_n4 _ (List.mem_of_getElem? (i := 23) rfl))⟩, List.forall_mem_cons.mpr ⟨Or.inl ⟨rfl, (sn_n3 _ (List.mem_of_getElem? (i := 7) rfl))⟩, List.forall_mem_cons.mpr ⟨Or.inl ⟨rfl, (sn_n5 _ (List.mem_of_getElem? (i := 15) rfl))⟩, List.forall_mem_cons.mpr ⟨Or.inl ⟨rfl, (sn_n6 _ (List.mem_of_getElem? (i := 15) rfl))⟩, List.forall_mem_cons.mpr ⟨Or.inl ⟨rfl, (sn_n6 _ (List.mem_of_getElem? (i := 6) rfl))⟩, List.forall_mem_cons.mpr ⟨Or.inl ⟨rfl, (sn_n3 _ (List.mem_of_getElem? (i := 16) rfl))⟩, List.forall_mem_cons.mpr ⟨Or.inl ⟨rfl, (sn_n4 _ (List.mem_of_getElem? (i := 4) rfl))⟩, List.forall_mem_cons.mpr ⟨Or.inl ⟨rfl, (sn_n1 _ (List.mem_of_getElem? (i := 7) rfl))⟩, List.forall_mem_cons.mpr ⟨Or.inr ⟨by decide, rfl, by decide +kernel, (Or.inr (by decide)), (sn_n3 _ (List.mem_of_getElem? (i := 5) rfl)), (sn_n1 _ (List.mem_of_getElem? (i := 12) rfl))⟩, List.forall_mem_cons.mpr ⟨Or.inr ⟨by decide, rfl, by decide +kernel, (Or.inr (by decide)), (sn_n3 _ (List.mem_of_getElem? (i := 14) rfl)), (sn_n1 _ (List.mem_of_getElem? (i := 15) rfl))⟩, fun _ h => absurd h List.not_mem_nil⟩⟩⟩⟩⟩⟩⟩⟩⟩⟩⟩⟩
theorem sn_pcl_ok2 : ∀ e ∈ sn_pcl_2, (e.2.2.1 = 200 ∧ Cond.methodLink (sn_cn e.1) e.2.1 objectInit ∈ wsL_law) ∨ (e.2.2.1 < 10 ∧ (sn_y e.2.2.1).name = "<init>" ∧ (parseMethodDescriptor (sn_y e.2.2.1).desc).map (fun d => d.parameters.length) = some e.2.2.2 ∧ (Cond.methodLink (sn_cn e.1) e.2.1 (sn_y e.2.2.1) ∈ wsL_law ∨ (e.1, e.2.1, e.2.2.1) ∈ sn_nl) ∧ Cond.instanceMethod (sn_y e.2.2.1) ∈ wsL_law ∧ Cond.initialized (sn_y e.2.2.1).cls ∈ wsL_law) := List.forall_mem_cons.mpr ⟨Or.inr ⟨by decide, rfl, by decide +kernel, (Or.inl (sn_n4 _ (List.mem_of_getElem? (i := 1) rfl))), (sn_n4 _ (List.mem_of_getElem? (i := 2) rfl)), (sn_n1 _ (List.mem_of_getElem? (i := 18) rfl))⟩, List.forall_mem_cons.mpr ⟨Or.inr ⟨by decide, rfl, by decide +kernel, (Or.inl (sn_n4 _ (List.mem_of_getElem? (i := 10) rfl))), (sn_n4 _ (List.mem_of_getElem? (i := 11) rfl)), (sn_n1 _ (List.mem_of_getElem? (i := 21) rfl))⟩, List.forall_mem_cons.mpr ⟨Or.inr ⟨by decide, rfl, by decide +kernel, (Or.inl (sn_n4 _ (List.mem_of_getElem? (i := 20) rfl))), (sn_n4 _ (List.mem_of_getElem? (i := 21) rfl)), (sn_n2 _ (List.mem_of_getElem? (i := 0) rfl))⟩, List.forall_mem_cons.mpr ⟨Or.inr ⟨by decide, rfl, by decide +kernel, (Or.inl (sn_n5 _ (List.mem_of_getElem? (i := 12) rfl))), (sn_n5 _ (List.mem_of_getElem? (i := 13) rfl)), (sn_n2 _ (List.mem_of_getElem? (i := 3) rfl))⟩, List.forall_mem_cons.mpr ⟨Or.inr ⟨by decide, rfl, by decide +kernel, (Or.inr (by decide)), (sn_n6 _ (List.mem_of_getElem? (i := 4) rfl)), (sn_n2 _ (List.mem_of_getElem? (i := 6) rfl))⟩, List.forall_mem_cons.mpr ⟨Or.inr ⟨by decide, rfl, by decide +kernel, (Or.inl (sn_n6 _ (List.mem_of_getElem? (i := 12) rfl))), (sn_n6 _ (List.mem_of_getElem? (i := 13) rfl)), (sn_n2 _ (List.mem_of_getElem? (i := 16) rfl))⟩, List.forall_mem_cons.mpr ⟨Or.inr ⟨by decide, rfl, by decide +kernel, (Or.inl (sn_n7 _ (List.mem_of_getElem? (i := 1) rfl))), (sn_n7 _ (List.mem_of_getElem? (i := 2) rfl)), (sn_n2 _ (List.mem_of_getElem? (i := 20) rfl))⟩, List.forall_mem_cons.mpr ⟨Or.inr ⟨by decide, rfl, by decide +kernel, (Or.inl (sn_n1 _ (List.mem_of_getElem? (i := 4) rfl))), (sn_n1 _ (List.mem_of_getElem? (i := 5) rfl)), (sn_n1 _ (List.mem_of_getElem? (i := 2) rfl))⟩, fun _ h => absurd h List.not_mem_nil⟩⟩⟩⟩⟩⟩⟩⟩
theorem sn_pcl_ok : ∀ e ∈ sn_pcl, (e.2.2.1 = 200 ∧ Cond.methodLink (sn_cn e.1) e.2.1 objectInit ∈ wsL_law) ∨ (e.2.2.1 < 10 ∧ (sn_y e.2.2.1).name = "<init>" ∧ (parseMethodDescriptor (sn_y e.2.2.1).desc).map (fun d => d.parameters.length) = some e.2.2.2 ∧ (Cond.methodLink (sn_cn e.1) e.2.1 (sn_y e.2.2.1) ∈ wsL_law ∨ (e.1, e.2.1, e.2.2.1) ∈ sn_nl) ∧ Cond.instanceMethod (sn_y e.2.2.1) ∈ wsL_law ∧ Cond.initialized (sn_y e.2.2.1).cls ∈ wsL_law) := List.forall_mem_append.mpr ⟨sn_pcl_ok1, sn_pcl_ok2⟩
theorem sn_pxl_ok1 : ∀ e ∈ sn_pxl_1, e.2.2 < 3 ∧ Cond.methodLink (sn_cn e.1) e.2.1 (if e.2.2 = 0 then Lib.Math.abs.name else if e.2.2 = 1 then Lib.Math.max.name else Lib.Math.min.name) ∈ wsL_law := List.forall_mem_cons.mpr ⟨⟨by decide, (sn_n12 _ (List.mem_of_getElem? (i := 22) rfl))⟩, List.forall_mem_cons.mpr ⟨⟨by decide, (sn_n25 _ (List.mem_of_getElem? (i := 14) rfl))⟩, List.forall_mem_cons.mpr ⟨⟨by decide, (sn_n27 _ (List.mem_of_getElem? (i := 0) rfl))⟩, List.forall_mem_cons.mpr ⟨⟨by decide, (sn_n21 _ (List.mem_of_getElem? (i := 7) rfl))⟩, List.forall_mem_cons.mpr ⟨⟨by decide, (sn_n21 _ (List.mem_of_getElem? (i := 10) rfl))⟩, List.forall_mem_cons.mpr ⟨⟨by decide, (sn_n16 _ (List.mem_of_getElem? (i := 15) rfl))⟩, fun _ h => absurd h List.not_mem_nil⟩⟩⟩⟩⟩⟩
theorem sn_pxl_ok : ∀ e ∈ sn_pxl, e.2.2 < 3 ∧ Cond.methodLink (sn_cn e.1) e.2.1 (if e.2.2 = 0 then Lib.Math.abs.name else if e.2.2 = 1 then Lib.Math.max.name else Lib.Math.min.name) ∈ wsL_law := sn_pxl_ok1
theorem sn_code_0 : Cond.code (sn_y 0) (sn_bc 0) (sn_ml 0) (sn_rt 0) ∈ wsL_law := (sn_n1 _ (List.mem_of_getElem? (i := 6) rfl))
theorem sn_code_1 : Cond.code (sn_y 1) (sn_bc 1) (sn_ml 1) (sn_rt 1) ∈ wsL_law := (sn_n3 _ (List.mem_of_getElem? (i := 6) rfl))
theorem sn_code_2 : Cond.code (sn_y 2) (sn_bc 2) (sn_ml 2) (sn_rt 2) ∈ wsL_law := (sn_n3 _ (List.mem_of_getElem? (i := 15) rfl))
theorem sn_code_3 : Cond.code (sn_y 3) (sn_bc 3) (sn_ml 3) (sn_rt 3) ∈ wsL_law := (sn_n4 _ (List.mem_of_getElem? (i := 3) rfl))
theorem sn_code_4 : Cond.code (sn_y 4) (sn_bc 4) (sn_ml 4) (sn_rt 4) ∈ wsL_law := (sn_n4 _ (List.mem_of_getElem? (i := 12) rfl))
theorem sn_code_5 : Cond.code (sn_y 5) (sn_bc 5) (sn_ml 5) (sn_rt 5) ∈ wsL_law := (sn_n4 _ (List.mem_of_getElem? (i := 22) rfl))
theorem sn_code_6 : Cond.code (sn_y 6) (sn_bc 6) (sn_ml 6) (sn_rt 6) ∈ wsL_law := (sn_n5 _ (List.mem_of_getElem? (i := 14) rfl))
theorem sn_code_7 : Cond.code (sn_y 7) (sn_bc 7) (sn_ml 7) (sn_rt 7) ∈ wsL_law := (sn_n6 _ (List.mem_of_getElem? (i := 5) rfl))
theorem sn_code_8 : Cond.code (sn_y 8) (sn_bc 8) (sn_ml 8) (sn_rt 8) ∈ wsL_law := (sn_n6 _ (List.mem_of_getElem? (i := 14) rfl))
theorem sn_code_9 : Cond.code (sn_y 9) (sn_bc 9) (sn_ml 9) (sn_rt 9) ∈ wsL_law := (sn_n7 _ (List.mem_of_getElem? (i := 3) rfl))
theorem sn_code_10 : Cond.code (sn_y 10) (sn_bc 10) (sn_ml 10) (sn_rt 10) ∈ wsL_law := (sn_n7 _ (List.mem_of_getElem? (i := 18) rfl))
theorem sn_code_11 : Cond.code (sn_y 11) (sn_bc 11) (sn_ml 11) (sn_rt 11) ∈ wsL_law := (sn_n7 _ (List.mem_of_getElem? (i := 22) rfl))
theorem sn_code_12 : Cond.code (sn_y 12) (sn_bc 12) (sn_ml 12) (sn_rt 12) ∈ wsL_law := (sn_n8 _ (List.mem_of_getElem? (i := 3) rfl))
theorem sn_code_13 : Cond.code (sn_y 13) (sn_bc 13) (sn_ml 13) (sn_rt 13) ∈ wsL_law := (sn_n8 _ (List.mem_of_getElem? (i := 11) rfl))
theorem sn_code_14 : Cond.code (sn_y 14) (sn_bc 14) (sn_ml 14) (sn_rt 14) ∈ wsL_law := (sn_n8 _ (List.mem_of_getElem? (i := 15) rfl))
theorem sn_code_15 : Cond.code (sn_y 15) (sn_bc 15) (sn_ml 15) (sn_rt 15) ∈ wsL_law := (sn_n8 _ (List.mem_of_getElem? (i := 19) rfl))
theorem sn_code_16 : Cond.code (sn_y 16) (sn_bc 16) (sn_ml 16) (sn_rt 16) ∈ wsL_law := (sn_n8 _ (List.mem_of_getElem? (i := 23) rfl))
theorem sn_code_17 : Cond.code (sn_y 17) (sn_bc 17) (sn_ml 17) (sn_rt 17) ∈ wsL_law := (sn_n9 _ (List.mem_of_getElem? (i := 9) rfl))
theorem sn_code_18 : Cond.code (sn_y 18) (sn_bc 18) (sn_ml 18) (sn_rt 18) ∈ wsL_law := (sn_n9 _ (List.mem_of_getElem? (i := 15) rfl))
theorem sn_code_19 : Cond.code (sn_y 19) (sn_bc 19) (sn_ml 19) (sn_rt 19) ∈ wsL_law := (sn_n9 _ (List.mem_of_getElem? (i := 21) rfl))
theorem sn_code_20 : Cond.code (sn_y 20) (sn_bc 20) (sn_ml 20) (sn_rt 20) ∈ wsL_law := (sn_n10 _ (List.mem_of_getElem? (i := 1) rfl))
theorem sn_code_21 : Cond.code (sn_y 21) (sn_bc 21) (sn_ml 21) (sn_rt 21) ∈ wsL_law := (sn_n10 _ (List.mem_of_getElem? (i := 6) rfl))
theorem sn_code_22 : Cond.code (sn_y 22) (sn_bc 22) (sn_ml 22) (sn_rt 22) ∈ wsL_law := (sn_n10 _ (List.mem_of_getElem? (i := 10) rfl))
theorem sn_code_23 : Cond.code (sn_y 23) (sn_bc 23) (sn_ml 23) (sn_rt 23) ∈ wsL_law := (sn_n10 _ (List.mem_of_getElem? (i := 15) rfl))
theorem sn_code_24 : Cond.code (sn_y 24) (sn_bc 24) (sn_ml 24) (sn_rt 24) ∈ wsL_law := (sn_n10 _ (List.mem_of_getElem? (i := 20) rfl))
theorem sn_code_25 : Cond.code (sn_y 25) (sn_bc 25) (sn_ml 25) (sn_rt 25) ∈ wsL_law := (sn_n11 _ (List.mem_of_getElem? (i := 0) rfl))
theorem sn_code_26 : Cond.code (sn_y 26) (sn_bc 26) (sn_ml 26) (sn_rt 26) ∈ wsL_law := (sn_n11 _ (List.mem_of_getElem? (i := 3) rfl))
theorem sn_code_27 : Cond.code (sn_y 27) (sn_bc 27) (sn_ml 27) (sn_rt 27) ∈ wsL_law := (sn_n11 _ (List.mem_of_getElem? (i := 7) rfl))
theorem sn_code_28 : Cond.code (sn_y 28) (sn_bc 28) (sn_ml 28) (sn_rt 28) ∈ wsL_law := (sn_n11 _ (List.mem_of_getElem? (i := 10) rfl))
theorem sn_code_29 : Cond.code (sn_y 29) (sn_bc 29) (sn_ml 29) (sn_rt 29) ∈ wsL_law := (sn_n11 _ (List.mem_of_getElem? (i := 14) rfl))
theorem sn_code_30 : Cond.code (sn_y 30) (sn_bc 30) (sn_ml 30) (sn_rt 30) ∈ wsL_law := (sn_n11 _ (List.mem_of_getElem? (i := 20) rfl))
theorem sn_code_31 : Cond.code (sn_y 31) (sn_bc 31) (sn_ml 31) (sn_rt 31) ∈ wsL_law := (sn_n11 _ (List.mem_of_getElem? (i := 22) rfl))
theorem sn_code_32 : Cond.code (sn_y 32) (sn_bc 32) (sn_ml 32) (sn_rt 32) ∈ wsL_law := (sn_n12 _ (List.mem_of_getElem? (i := 3) rfl))
theorem sn_code_33 : Cond.code (sn_y 33) (sn_bc 33) (sn_ml 33) (sn_rt 33) ∈ wsL_law := (sn_n12 _ (List.mem_of_getElem? (i := 7) rfl))
theorem sn_code_34 : Cond.code (sn_y 34) (sn_bc 34) (sn_ml 34) (sn_rt 34) ∈ wsL_law := (sn_n12 _ (List.mem_of_getElem? (i := 11) rfl))
theorem sn_code_35 : Cond.code (sn_y 35) (sn_bc 35) (sn_ml 35) (sn_rt 35) ∈ wsL_law := (sn_n12 _ (List.mem_of_getElem? (i := 13) rfl))
theorem sn_code_36 : Cond.code (sn_y 36) (sn_bc 36) (sn_ml 36) (sn_rt 36) ∈ wsL_law := (sn_n12 _ (List.mem_of_getElem? (i := 17) rfl))
theorem sn_code_37 : Cond.code (sn_y 37) (sn_bc 37) (sn_ml 37) (sn_rt 37) ∈ wsL_law := (sn_n12 _ (List.mem_of_getElem? (i := 21) rfl))
theorem sn_code_38 : Cond.code (sn_y 38) (sn_bc 38) (sn_ml 38) (sn_rt 38) ∈ wsL_law := (sn_n13 _ (List.mem_of_getElem? (i := 1) rfl))
theorem sn_code_39 : Cond.code (sn_y 39) (sn_bc 39) (sn_ml 39) (sn_rt 39) ∈ wsL_law := (sn_n13 _ (List.mem_of_getElem? (i := 5) rfl))
theorem sn_code_40 : Cond.code (sn_y 40) (sn_bc 40) (sn_ml 40) (sn_rt 40) ∈ wsL_law := (sn_n13 _ (List.mem_of_getElem? (i := 9) rfl))
theorem sn_code_41 : Cond.code (sn_y 41) (sn_bc 41) (sn_ml 41) (sn_rt 41) ∈ wsL_law := (sn_n13 _ (List.mem_of_getElem? (i := 13) rfl))
theorem sn_code_42 : Cond.code (sn_y 42) (sn_bc 42) (sn_ml 42) (sn_rt 42) ∈ wsL_law := (sn_n13 _ (List.mem_of_getElem? (i := 17) rfl))
theorem sn_code_43 : Cond.code (sn_y 43) (sn_bc 43) (sn_ml 43) (sn_rt 43) ∈ wsL_law := (sn_n13 _ (List.mem_of_getElem? (i := 22) rfl))
theorem sn_code_44 : Cond.code (sn_y 44) (sn_bc 44) (sn_ml 44) (sn_rt 44) ∈ wsL_law := (sn_n14 _ (List.mem_of_getElem? (i := 3) rfl))
theorem sn_code_45 : Cond.code (sn_y 45) (sn_bc 45) (sn_ml 45) (sn_rt 45) ∈ wsL_law := (sn_n14 _ (List.mem_of_getElem? (i := 7) rfl))
theorem sn_code_46 : Cond.code (sn_y 46) (sn_bc 46) (sn_ml 46) (sn_rt 46) ∈ wsL_law := (sn_n14 _ (List.mem_of_getElem? (i := 11) rfl))
theorem sn_code_47 : Cond.code (sn_y 47) (sn_bc 47) (sn_ml 47) (sn_rt 47) ∈ wsL_law := (sn_n14 _ (List.mem_of_getElem? (i := 15) rfl))
theorem sn_code_48 : Cond.code (sn_y 48) (sn_bc 48) (sn_ml 48) (sn_rt 48) ∈ wsL_law := (sn_n14 _ (List.mem_of_getElem? (i := 18) rfl))
theorem sn_code_49 : Cond.code (sn_y 49) (sn_bc 49) (sn_ml 49) (sn_rt 49) ∈ wsL_law := (sn_n14 _ (List.mem_of_getElem? (i := 23) rfl))
theorem sn_code_50 : Cond.code (sn_y 50) (sn_bc 50) (sn_ml 50) (sn_rt 50) ∈ wsL_law := (sn_n15 _ (List.mem_of_getElem? (i := 4) rfl))
theorem sn_code_51 : Cond.code (sn_y 51) (sn_bc 51) (sn_ml 51) (sn_rt 51) ∈ wsL_law := (sn_n15 _ (List.mem_of_getElem? (i := 8) rfl))
theorem sn_code_52 : Cond.code (sn_y 52) (sn_bc 52) (sn_ml 52) (sn_rt 52) ∈ wsL_law := (sn_n15 _ (List.mem_of_getElem? (i := 12) rfl))
theorem sn_code_53 : Cond.code (sn_y 53) (sn_bc 53) (sn_ml 53) (sn_rt 53) ∈ wsL_law := (sn_n15 _ (List.mem_of_getElem? (i := 18) rfl))
theorem sn_code_54 : Cond.code (sn_y 54) (sn_bc 54) (sn_ml 54) (sn_rt 54) ∈ wsL_law := (sn_n15 _ (List.mem_of_getElem? (i := 22) rfl))
theorem sn_code_55 : Cond.code (sn_y 55) (sn_bc 55) (sn_ml 55) (sn_rt 55) ∈ wsL_law := (sn_n16 _ (List.mem_of_getElem? (i := 2) rfl))
theorem sn_code_56 : Cond.code (sn_y 56) (sn_bc 56) (sn_ml 56) (sn_rt 56) ∈ wsL_law := (sn_n16 _ (List.mem_of_getElem? (i := 9) rfl))
theorem sn_code_57 : Cond.code (sn_y 57) (sn_bc 57) (sn_ml 57) (sn_rt 57) ∈ wsL_law := (sn_n16 _ (List.mem_of_getElem? (i := 13) rfl))
theorem sn_code_58 : Cond.code (sn_y 58) (sn_bc 58) (sn_ml 58) (sn_rt 58) ∈ wsL_law := (sn_n16 _ (List.mem_of_getElem? (i := 17) rfl))
theorem sn_code_59 : Cond.code (sn_y 59) (sn_bc 59) (sn_ml 59) (sn_rt 59) ∈ wsL_law := (sn_n16 _ (List.mem_of_getElem? (i := 21) rfl))
theorem sn_code_60 : Cond.code (sn_y 60) (sn_bc 60) (sn_ml 60) (sn_rt 60) ∈ wsL_law := (sn_n17 _ (List.mem_of_getElem? (i := 2) rfl))
theorem sn_code_61 : Cond.code (sn_y 61) (sn_bc 61) (sn_ml 61) (sn_rt 61) ∈ wsL_law := (sn_n17 _ (List.mem_of_getElem? (i := 6) rfl))
theorem sn_code_62 : Cond.code (sn_y 62) (sn_bc 62) (sn_ml 62) (sn_rt 62) ∈ wsL_law := (sn_n17 _ (List.mem_of_getElem? (i := 10) rfl))
theorem sn_code_63 : Cond.code (sn_y 63) (sn_bc 63) (sn_ml 63) (sn_rt 63) ∈ wsL_law := (sn_n17 _ (List.mem_of_getElem? (i := 16) rfl))
theorem sn_code_64 : Cond.code (sn_y 64) (sn_bc 64) (sn_ml 64) (sn_rt 64) ∈ wsL_law := (sn_n17 _ (List.mem_of_getElem? (i := 20) rfl))
theorem sn_code_65 : Cond.code (sn_y 65) (sn_bc 65) (sn_ml 65) (sn_rt 65) ∈ wsL_law := (sn_n18 _ (List.mem_of_getElem? (i := 0) rfl))
theorem sn_code_66 : Cond.code (sn_y 66) (sn_bc 66) (sn_ml 66) (sn_rt 66) ∈ wsL_law := (sn_n18 _ (List.mem_of_getElem? (i := 4) rfl))
theorem sn_code_67 : Cond.code (sn_y 67) (sn_bc 67) (sn_ml 67) (sn_rt 67) ∈ wsL_law := (sn_n18 _ (List.mem_of_getElem? (i := 9) rfl))
theorem sn_code_68 : Cond.code (sn_y 68) (sn_bc 68) (sn_ml 68) (sn_rt 68) ∈ wsL_law := (sn_n18 _ (List.mem_of_getElem? (i := 13) rfl))
theorem sn_code_69 : Cond.code (sn_y 69) (sn_bc 69) (sn_ml 69) (sn_rt 69) ∈ wsL_law := (sn_n18 _ (List.mem_of_getElem? (i := 17) rfl))
theorem sn_code_70 : Cond.code (sn_y 70) (sn_bc 70) (sn_ml 70) (sn_rt 70) ∈ wsL_law := (sn_n18 _ (List.mem_of_getElem? (i := 23) rfl))
theorem sn_code_71 : Cond.code (sn_y 71) (sn_bc 71) (sn_ml 71) (sn_rt 71) ∈ wsL_law := (sn_n19 _ (List.mem_of_getElem? (i := 3) rfl))
theorem sn_code_72 : Cond.code (sn_y 72) (sn_bc 72) (sn_ml 72) (sn_rt 72) ∈ wsL_law := (sn_n19 _ (List.mem_of_getElem? (i := 7) rfl))
theorem sn_code_73 : Cond.code (sn_y 73) (sn_bc 73) (sn_ml 73) (sn_rt 73) ∈ wsL_law := (sn_n19 _ (List.mem_of_getElem? (i := 11) rfl))
theorem sn_code_74 : Cond.code (sn_y 74) (sn_bc 74) (sn_ml 74) (sn_rt 74) ∈ wsL_law := (sn_n19 _ (List.mem_of_getElem? (i := 15) rfl))
theorem sn_code_75 : Cond.code (sn_y 75) (sn_bc 75) (sn_ml 75) (sn_rt 75) ∈ wsL_law := (sn_n19 _ (List.mem_of_getElem? (i := 21) rfl))
theorem sn_code_76 : Cond.code (sn_y 76) (sn_bc 76) (sn_ml 76) (sn_rt 76) ∈ wsL_law := (sn_n20 _ (List.mem_of_getElem? (i := 1) rfl))
theorem sn_code_77 : Cond.code (sn_y 77) (sn_bc 77) (sn_ml 77) (sn_rt 77) ∈ wsL_law := (sn_n20 _ (List.mem_of_getElem? (i := 5) rfl))
theorem sn_code_78 : Cond.code (sn_y 78) (sn_bc 78) (sn_ml 78) (sn_rt 78) ∈ wsL_law := (sn_n20 _ (List.mem_of_getElem? (i := 17) rfl))
theorem sn_code_79 : Cond.code (sn_y 79) (sn_bc 79) (sn_ml 79) (sn_rt 79) ∈ wsL_law := (sn_n20 _ (List.mem_of_getElem? (i := 21) rfl))
theorem sn_code_80 : Cond.code (sn_y 80) (sn_bc 80) (sn_ml 80) (sn_rt 80) ∈ wsL_law := (sn_n21 _ (List.mem_of_getElem? (i := 1) rfl))
theorem sn_code_81 : Cond.code (sn_y 81) (sn_bc 81) (sn_ml 81) (sn_rt 81) ∈ wsL_law := (sn_n21 _ (List.mem_of_getElem? (i := 6) rfl))
theorem sn_code_82 : Cond.code (sn_y 82) (sn_bc 82) (sn_ml 82) (sn_rt 82) ∈ wsL_law := (sn_n21 _ (List.mem_of_getElem? (i := 9) rfl))
theorem sn_code_83 : Cond.code (sn_y 83) (sn_bc 83) (sn_ml 83) (sn_rt 83) ∈ wsL_law := (sn_n21 _ (List.mem_of_getElem? (i := 14) rfl))
theorem sn_code_84 : Cond.code (sn_y 84) (sn_bc 84) (sn_ml 84) (sn_rt 84) ∈ wsL_law := (sn_n21 _ (List.mem_of_getElem? (i := 19) rfl))
theorem sn_code_85 : Cond.code (sn_y 85) (sn_bc 85) (sn_ml 85) (sn_rt 85) ∈ wsL_law := (sn_n21 _ (List.mem_of_getElem? (i := 23) rfl))
theorem sn_code_86 : Cond.code (sn_y 86) (sn_bc 86) (sn_ml 86) (sn_rt 86) ∈ wsL_law := (sn_n22 _ (List.mem_of_getElem? (i := 3) rfl))
theorem sn_code_87 : Cond.code (sn_y 87) (sn_bc 87) (sn_ml 87) (sn_rt 87) ∈ wsL_law := (sn_n22 _ (List.mem_of_getElem? (i := 6) rfl))
theorem sn_code_89 : Cond.code (sn_y 89) (sn_bc 89) (sn_ml 89) (sn_rt 89) ∈ wsL_law := (sn_n22 _ (List.mem_of_getElem? (i := 14) rfl))
theorem sn_code_90 : Cond.code (sn_y 90) (sn_bc 90) (sn_ml 90) (sn_rt 90) ∈ wsL_law := (sn_n22 _ (List.mem_of_getElem? (i := 19) rfl))
theorem sn_code_91 : Cond.code (sn_y 91) (sn_bc 91) (sn_ml 91) (sn_rt 91) ∈ wsL_law := (sn_n22 _ (List.mem_of_getElem? (i := 23) rfl))
theorem sn_code_92 : Cond.code (sn_y 92) (sn_bc 92) (sn_ml 92) (sn_rt 92) ∈ wsL_law := (sn_n23 _ (List.mem_of_getElem? (i := 12) rfl))
theorem sn_code_93 : Cond.code (sn_y 93) (sn_bc 93) (sn_ml 93) (sn_rt 93) ∈ wsL_law := (sn_n23 _ (List.mem_of_getElem? (i := 16) rfl))
theorem sn_code_94 : Cond.code (sn_y 94) (sn_bc 94) (sn_ml 94) (sn_rt 94) ∈ wsL_law := (sn_n23 _ (List.mem_of_getElem? (i := 20) rfl))
theorem sn_code_95 : Cond.code (sn_y 95) (sn_bc 95) (sn_ml 95) (sn_rt 95) ∈ wsL_law := (sn_n24 _ (List.mem_of_getElem? (i := 0) rfl))
theorem sn_code_96 : Cond.code (sn_y 96) (sn_bc 96) (sn_ml 96) (sn_rt 96) ∈ wsL_law := (sn_n24 _ (List.mem_of_getElem? (i := 4) rfl))
theorem sn_code_97 : Cond.code (sn_y 97) (sn_bc 97) (sn_ml 97) (sn_rt 97) ∈ wsL_law := (sn_n24 _ (List.mem_of_getElem? (i := 7) rfl))
theorem sn_code_98 : Cond.code (sn_y 98) (sn_bc 98) (sn_ml 98) (sn_rt 98) ∈ wsL_law := (sn_n24 _ (List.mem_of_getElem? (i := 11) rfl))
theorem sn_code_99 : Cond.code (sn_y 99) (sn_bc 99) (sn_ml 99) (sn_rt 99) ∈ wsL_law := (sn_n24 _ (List.mem_of_getElem? (i := 15) rfl))
theorem sn_code_100 : Cond.code (sn_y 100) (sn_bc 100) (sn_ml 100) (sn_rt 100) ∈ wsL_law := (sn_n24 _ (List.mem_of_getElem? (i := 19) rfl))
theorem sn_code_101 : Cond.code (sn_y 101) (sn_bc 101) (sn_ml 101) (sn_rt 101) ∈ wsL_law := (sn_n24 _ (List.mem_of_getElem? (i := 23) rfl))
theorem sn_code_102 : Cond.code (sn_y 102) (sn_bc 102) (sn_ml 102) (sn_rt 102) ∈ wsL_law := (sn_n25 _ (List.mem_of_getElem? (i := 5) rfl))
theorem sn_code_103 : Cond.code (sn_y 103) (sn_bc 103) (sn_ml 103) (sn_rt 103) ∈ wsL_law := (sn_n25 _ (List.mem_of_getElem? (i := 9) rfl))
theorem sn_code_104 : Cond.code (sn_y 104) (sn_bc 104) (sn_ml 104) (sn_rt 104) ∈ wsL_law := (sn_n25 _ (List.mem_of_getElem? (i := 13) rfl))
theorem sn_code_105 : Cond.code (sn_y 105) (sn_bc 105) (sn_ml 105) (sn_rt 105) ∈ wsL_law := (sn_n25 _ (List.mem_of_getElem? (i := 18) rfl))
theorem sn_code_106 : Cond.code (sn_y 106) (sn_bc 106) (sn_ml 106) (sn_rt 106) ∈ wsL_law := (sn_n25 _ (List.mem_of_getElem? (i := 22) rfl))
theorem sn_code_107 : Cond.code (sn_y 107) (sn_bc 107) (sn_ml 107) (sn_rt 107) ∈ wsL_law := (sn_n26 _ (List.mem_of_getElem? (i := 3) rfl))
theorem sn_code_108 : Cond.code (sn_y 108) (sn_bc 108) (sn_ml 108) (sn_rt 108) ∈ wsL_law := (sn_n26 _ (List.mem_of_getElem? (i := 7) rfl))
theorem sn_code_109 : Cond.code (sn_y 109) (sn_bc 109) (sn_ml 109) (sn_rt 109) ∈ wsL_law := (sn_n26 _ (List.mem_of_getElem? (i := 11) rfl))
theorem sn_code_110 : Cond.code (sn_y 110) (sn_bc 110) (sn_ml 110) (sn_rt 110) ∈ wsL_law := (sn_n26 _ (List.mem_of_getElem? (i := 15) rfl))
theorem sn_code_111 : Cond.code (sn_y 111) (sn_bc 111) (sn_ml 111) (sn_rt 111) ∈ wsL_law := (sn_n26 _ (List.mem_of_getElem? (i := 19) rfl))
theorem sn_code_112 : Cond.code (sn_y 112) (sn_bc 112) (sn_ml 112) (sn_rt 112) ∈ wsL_law := (sn_n26 _ (List.mem_of_getElem? (i := 23) rfl))
theorem sn_code_113 : Cond.code (sn_y 113) (sn_bc 113) (sn_ml 113) (sn_rt 113) ∈ wsL_law := (sn_n27 _ (List.mem_of_getElem? (i := 4) rfl))
theorem sn_code_114 : Cond.code (sn_y 114) (sn_bc 114) (sn_ml 114) (sn_rt 114) ∈ wsL_law := (sn_n27 _ (List.mem_of_getElem? (i := 8) rfl))
theorem sn_code_115 : Cond.code (sn_y 115) (sn_bc 115) (sn_ml 115) (sn_rt 115) ∈ wsL_law := (sn_n27 _ (List.mem_of_getElem? (i := 12) rfl))
theorem sn_code_116 : Cond.code (sn_y 116) (sn_bc 116) (sn_ml 116) (sn_rt 116) ∈ wsL_law := (sn_n27 _ (List.mem_of_getElem? (i := 16) rfl))
theorem sn_code_117 : Cond.code (sn_y 117) (sn_bc 117) (sn_ml 117) (sn_rt 117) ∈ wsL_law := (sn_n27 _ (List.mem_of_getElem? (i := 20) rfl))
theorem sn_code_118 : Cond.code (sn_y 118) (sn_bc 118) (sn_ml 118) (sn_rt 118) ∈ wsL_law := (sn_n28 _ (List.mem_of_getElem? (i := 0) rfl))
theorem sn_code_119 : Cond.code (sn_y 119) (sn_bc 119) (sn_ml 119) (sn_rt 119) ∈ wsL_law := (sn_n28 _ (List.mem_of_getElem? (i := 4) rfl))
theorem sn_code_120 : Cond.code (sn_y 120) (sn_bc 120) (sn_ml 120) (sn_rt 120) ∈ wsL_law := (sn_n28 _ (List.mem_of_getElem? (i := 8) rfl))
theorem sn_code_121 : Cond.code (sn_y 121) (sn_bc 121) (sn_ml 121) (sn_rt 121) ∈ wsL_law := (sn_n28 _ (List.mem_of_getElem? (i := 12) rfl))
theorem sn_code_122 : Cond.code (sn_y 122) (sn_bc 122) (sn_ml 122) (sn_rt 122) ∈ wsL_law := (sn_n28 _ (List.mem_of_getElem? (i := 16) rfl))
theorem sn_code_123 : Cond.code (sn_y 123) (sn_bc 123) (sn_ml 123) (sn_rt 123) ∈ wsL_law := (sn_n28 _ (List.mem_of_getElem? (i := 21) rfl))
theorem sn_code_124 : Cond.code (sn_y 124) (sn_bc 124) (sn_ml 124) (sn_rt 124) ∈ wsL_law := (sn_n29 _ (List.mem_of_getElem? (i := 5) rfl))
theorem sn_code_125 : Cond.code (sn_y 125) (sn_bc 125) (sn_ml 125) (sn_rt 125) ∈ wsL_law := (sn_n29 _ (List.mem_of_getElem? (i := 9) rfl))
theorem sn_code_126 : Cond.code (sn_y 126) (sn_bc 126) (sn_ml 126) (sn_rt 126) ∈ wsL_law := (sn_n29 _ (List.mem_of_getElem? (i := 13) rfl))
theorem sn_code_127 : Cond.code (sn_y 127) (sn_bc 127) (sn_ml 127) (sn_rt 127) ∈ wsL_law := (sn_n29 _ (List.mem_of_getElem? (i := 17) rfl))
theorem sn_code_128 : Cond.code (sn_y 128) (sn_bc 128) (sn_ml 128) (sn_rt 128) ∈ wsL_law := (sn_n29 _ (List.mem_of_getElem? (i := 21) rfl))
theorem sn_code_all : ∀ j, j < 129 → j ≠ 88 → Cond.code (sn_y j) (sn_bc j) (sn_ml j) (sn_rt j) ∈ wsL_law := fun j h h88 => match j, h, h88 with
  | 0, _, _ => sn_code_0
  | 1, _, _ => sn_code_1
  | 2, _, _ => sn_code_2
  | 3, _, _ => sn_code_3
  | 4, _, _ => sn_code_4
  | 5, _, _ => sn_code_5
  | 6, _, _ => sn_code_6
  | 7, _, _ => sn_code_7
  | 8, _, _ => sn_code_8
  | 9, _, _ => sn_code_9
  | 10, _, _ => sn_code_10
  | 11, _, _ => sn_code_11
  | 12, _, _ => sn_code_12
  | 13, _, _ => sn_code_13
  | 14, _, _ => sn_code_14
  | 15, _, _ => sn_code_15
  | 16, _, _ => sn_code_16
  | 17, _, _ => sn_code_17
  | 18, _, _ => sn_code_18
  | 19, _, _ => sn_code_19
  | 20, _, _ => sn_code_20
  | 21, _, _ => sn_code_21
  | 22, _, _ => sn_code_22
  | 23, _, _ => sn_code_23
  | 24, _, _ => sn_code_24
  | 25, _, _ => sn_code_25
  | 26, _, _ => sn_code_26
  | 27, _, _ => sn_code_27
  | 28, _, _ => sn_code_28
  | 29, _, _ => sn_code_29
  | 30, _, _ => sn_code_30
  | 31, _, _ => sn_code_31
  | 32, _, _ => sn_code_32
  | 33, _, _ => sn_code_33
  | 34, _, _ => sn_code_34
  | 35, _, _ => sn_code_35
  | 36, _, _ => sn_code_36
  | 37, _, _ => sn_code_37
  | 38, _, _ => sn_code_38
  | 39, _, _ => sn_code_39
  | 40, _, _ => sn_code_40
  | 41, _, _ => sn_code_41
  | 42, _, _ => sn_code_42
  | 43, _, _ => sn_code_43
  | 44, _, _ => sn_code_44
  | 45, _, _ => sn_code_45
  | 46, _, _ => sn_code_46
  | 47, _, _ => sn_code_47
  | 48, _, _ => sn_code_48
  | 49, _, _ => sn_code_49
  | 50, _, _ => sn_code_50
  | 51, _, _ => sn_code_51
  | 52, _, _ => sn_code_52
  | 53, _, _ => sn_code_53
  | 54, _, _ => sn_code_54
  | 55, _, _ => sn_code_55
  | 56, _, _ => sn_code_56
  | 57, _, _ => sn_code_57
  | 58, _, _ => sn_code_58
  | 59, _, _ => sn_code_59
  | 60, _, _ => sn_code_60
  | 61, _, _ => sn_code_61
  | 62, _, _ => sn_code_62
  | 63, _, _ => sn_code_63
  | 64, _, _ => sn_code_64
  | 65, _, _ => sn_code_65
  | 66, _, _ => sn_code_66
  | 67, _, _ => sn_code_67
  | 68, _, _ => sn_code_68
  | 69, _, _ => sn_code_69
  | 70, _, _ => sn_code_70
  | 71, _, _ => sn_code_71
  | 72, _, _ => sn_code_72
  | 73, _, _ => sn_code_73
  | 74, _, _ => sn_code_74
  | 75, _, _ => sn_code_75
  | 76, _, _ => sn_code_76
  | 77, _, _ => sn_code_77
  | 78, _, _ => sn_code_78
  | 79, _, _ => sn_code_79
  | 80, _, _ => sn_code_80
  | 81, _, _ => sn_code_81
  | 82, _, _ => sn_code_82
  | 83, _, _ => sn_code_83
  | 84, _, _ => sn_code_84
  | 85, _, _ => sn_code_85
  | 86, _, _ => sn_code_86
  | 87, _, _ => sn_code_87
  | 89, _, _ => sn_code_89
  | 90, _, _ => sn_code_90
  | 91, _, _ => sn_code_91
  | 92, _, _ => sn_code_92
  | 93, _, _ => sn_code_93
  | 94, _, _ => sn_code_94
  | 95, _, _ => sn_code_95
  | 96, _, _ => sn_code_96
  | 97, _, _ => sn_code_97
  | 98, _, _ => sn_code_98
  | 99, _, _ => sn_code_99
  | 100, _, _ => sn_code_100
  | 101, _, _ => sn_code_101
  | 102, _, _ => sn_code_102
  | 103, _, _ => sn_code_103
  | 104, _, _ => sn_code_104
  | 105, _, _ => sn_code_105
  | 106, _, _ => sn_code_106
  | 107, _, _ => sn_code_107
  | 108, _, _ => sn_code_108
  | 109, _, _ => sn_code_109
  | 110, _, _ => sn_code_110
  | 111, _, _ => sn_code_111
  | 112, _, _ => sn_code_112
  | 113, _, _ => sn_code_113
  | 114, _, _ => sn_code_114
  | 115, _, _ => sn_code_115
  | 116, _, _ => sn_code_116
  | 117, _, _ => sn_code_117
  | 118, _, _ => sn_code_118
  | 119, _, _ => sn_code_119
  | 120, _, _ => sn_code_120
  | 121, _, _ => sn_code_121
  | 122, _, _ => sn_code_122
  | 123, _, _ => sn_code_123
  | 124, _, _ => sn_code_124
  | 125, _, _ => sn_code_125
  | 126, _, _ => sn_code_126
  | 127, _, _ => sn_code_127
  | 128, _, _ => sn_code_128
  | 88, _, h => absurd rfl h
  | n + 129, h, _ => absurd h (by omega)
theorem sn_ycls : ∀ j, j < 129 → (sn_y j).cls = sn_cn (sn_oc j) ∧ sn_oc j < 12 := fun j h => match j, h with
  | 0, _ => ⟨rfl, by decide⟩
  | 1, _ => ⟨rfl, by decide⟩
  | 2, _ => ⟨rfl, by decide⟩
  | 3, _ => ⟨rfl, by decide⟩
  | 4, _ => ⟨rfl, by decide⟩
  | 5, _ => ⟨rfl, by decide⟩
  | 6, _ => ⟨rfl, by decide⟩
  | 7, _ => ⟨rfl, by decide⟩
  | 8, _ => ⟨rfl, by decide⟩
  | 9, _ => ⟨rfl, by decide⟩
  | 10, _ => ⟨rfl, by decide⟩
  | 11, _ => ⟨rfl, by decide⟩
  | 12, _ => ⟨rfl, by decide⟩
  | 13, _ => ⟨rfl, by decide⟩
  | 14, _ => ⟨rfl, by decide⟩
  | 15, _ => ⟨rfl, by decide⟩
  | 16, _ => ⟨rfl, by decide⟩
  | 17, _ => ⟨rfl, by decide⟩
  | 18, _ => ⟨rfl, by decide⟩
  | 19, _ => ⟨rfl, by decide⟩
  | 20, _ => ⟨rfl, by decide⟩
  | 21, _ => ⟨rfl, by decide⟩
  | 22, _ => ⟨rfl, by decide⟩
  | 23, _ => ⟨rfl, by decide⟩
  | 24, _ => ⟨rfl, by decide⟩
  | 25, _ => ⟨rfl, by decide⟩
  | 26, _ => ⟨rfl, by decide⟩
  | 27, _ => ⟨rfl, by decide⟩
  | 28, _ => ⟨rfl, by decide⟩
  | 29, _ => ⟨rfl, by decide⟩
  | 30, _ => ⟨rfl, by decide⟩
  | 31, _ => ⟨rfl, by decide⟩
  | 32, _ => ⟨rfl, by decide⟩
  | 33, _ => ⟨rfl, by decide⟩
  | 34, _ => ⟨rfl, by decide⟩
  | 35, _ => ⟨rfl, by decide⟩
  | 36, _ => ⟨rfl, by decide⟩
  | 37, _ => ⟨rfl, by decide⟩
  | 38, _ => ⟨rfl, by decide⟩
  | 39, _ => ⟨rfl, by decide⟩
  | 40, _ => ⟨rfl, by decide⟩
  | 41, _ => ⟨rfl, by decide⟩
  | 42, _ => ⟨rfl, by decide⟩
  | 43, _ => ⟨rfl, by decide⟩
  | 44, _ => ⟨rfl, by decide⟩
  | 45, _ => ⟨rfl, by decide⟩
  | 46, _ => ⟨rfl, by decide⟩
  | 47, _ => ⟨rfl, by decide⟩
  | 48, _ => ⟨rfl, by decide⟩
  | 49, _ => ⟨rfl, by decide⟩
  | 50, _ => ⟨rfl, by decide⟩
  | 51, _ => ⟨rfl, by decide⟩
  | 52, _ => ⟨rfl, by decide⟩
  | 53, _ => ⟨rfl, by decide⟩
  | 54, _ => ⟨rfl, by decide⟩
  | 55, _ => ⟨rfl, by decide⟩
  | 56, _ => ⟨rfl, by decide⟩
  | 57, _ => ⟨rfl, by decide⟩
  | 58, _ => ⟨rfl, by decide⟩
  | 59, _ => ⟨rfl, by decide⟩
  | 60, _ => ⟨rfl, by decide⟩
  | 61, _ => ⟨rfl, by decide⟩
  | 62, _ => ⟨rfl, by decide⟩
  | 63, _ => ⟨rfl, by decide⟩
  | 64, _ => ⟨rfl, by decide⟩
  | 65, _ => ⟨rfl, by decide⟩
  | 66, _ => ⟨rfl, by decide⟩
  | 67, _ => ⟨rfl, by decide⟩
  | 68, _ => ⟨rfl, by decide⟩
  | 69, _ => ⟨rfl, by decide⟩
  | 70, _ => ⟨rfl, by decide⟩
  | 71, _ => ⟨rfl, by decide⟩
  | 72, _ => ⟨rfl, by decide⟩
  | 73, _ => ⟨rfl, by decide⟩
  | 74, _ => ⟨rfl, by decide⟩
  | 75, _ => ⟨rfl, by decide⟩
  | 76, _ => ⟨rfl, by decide⟩
  | 77, _ => ⟨rfl, by decide⟩
  | 78, _ => ⟨rfl, by decide⟩
  | 79, _ => ⟨rfl, by decide⟩
  | 80, _ => ⟨rfl, by decide⟩
  | 81, _ => ⟨rfl, by decide⟩
  | 82, _ => ⟨rfl, by decide⟩
  | 83, _ => ⟨rfl, by decide⟩
  | 84, _ => ⟨rfl, by decide⟩
  | 85, _ => ⟨rfl, by decide⟩
  | 86, _ => ⟨rfl, by decide⟩
  | 87, _ => ⟨rfl, by decide⟩
  | 88, _ => ⟨rfl, by decide⟩
  | 89, _ => ⟨rfl, by decide⟩
  | 90, _ => ⟨rfl, by decide⟩
  | 91, _ => ⟨rfl, by decide⟩
  | 92, _ => ⟨rfl, by decide⟩
  | 93, _ => ⟨rfl, by decide⟩
  | 94, _ => ⟨rfl, by decide⟩
  | 95, _ => ⟨rfl, by decide⟩
  | 96, _ => ⟨rfl, by decide⟩
  | 97, _ => ⟨rfl, by decide⟩
  | 98, _ => ⟨rfl, by decide⟩
  | 99, _ => ⟨rfl, by decide⟩
  | 100, _ => ⟨rfl, by decide⟩
  | 101, _ => ⟨rfl, by decide⟩
  | 102, _ => ⟨rfl, by decide⟩
  | 103, _ => ⟨rfl, by decide⟩
  | 104, _ => ⟨rfl, by decide⟩
  | 105, _ => ⟨rfl, by decide⟩
  | 106, _ => ⟨rfl, by decide⟩
  | 107, _ => ⟨rfl, by decide⟩
  | 108, _ => ⟨rfl, by decide⟩
  | 109, _ => ⟨rfl, by decide⟩
  | 110, _ => ⟨rfl, by decide⟩
  | 111, _ => ⟨rfl, by decide⟩
  | 112, _ => ⟨rfl, by decide⟩
  | 113, _ => ⟨rfl, by decide⟩
  | 114, _ => ⟨rfl, by decide⟩
  | 115, _ => ⟨rfl, by decide⟩
  | 116, _ => ⟨rfl, by decide⟩
  | 117, _ => ⟨rfl, by decide⟩
  | 118, _ => ⟨rfl, by decide⟩
  | 119, _ => ⟨rfl, by decide⟩
  | 120, _ => ⟨rfl, by decide⟩
  | 121, _ => ⟨rfl, by decide⟩
  | 122, _ => ⟨rfl, by decide⟩
  | 123, _ => ⟨rfl, by decide⟩
  | 124, _ => ⟨rfl, by decide⟩
  | 125, _ => ⟨rfl, by decide⟩
  | 126, _ => ⟨rfl, by decide⟩
  | 127, _ => ⟨rfl, by decide⟩
  | 128, _ => ⟨rfl, by decide⟩
  | n + 129, h => absurd h (by omega)
theorem sn_plain (j : Nat) (h : j < 129) : (sn_y j).cls ≠ "java/lang/invoke/MethodHandle" ∧ (sn_y j).cls ≠ "java/lang/invoke/VarHandle" := by
  rw [(sn_ycls j h).1]
  exact sn_cn_plain _ (sn_ycls j h).2
theorem sn_in_name : ∀ j, sn_in j = true → (sn_y j).name = "<init>" := fun j h => by
  have h1 := of_decide_eq_true h
  simp only [List.mem_cons, List.not_mem_nil, or_false] at h1
  rcases h1 with rfl | rfl | rfl | rfl | rfl | rfl | rfl | rfl | rfl | rfl <;> rfl
theorem sn_code_88 : Cond.codeWith (sn_y 88) (sn_bc 88) (sn_ml 88) (sn_rt 88) [(0, 14, 15, 110)] ∈ wsL_law := (sn_n22 _ (List.mem_of_getElem? (i := 9) rfl))
theorem sn_ws_static : Cond.fieldLink RX9 458 "Songnations" "WEIGHTS" "[I" ∈ wsL_law := (sn_n11 _ (List.mem_of_getElem? (i := 23) rfl))
theorem sn_ws_arr : Cond.arrayClass .int ∈ wsL_law ∧ Cond.arrayClass .boolean ∈ wsL_law := ⟨(sn_n1 _ (List.mem_of_getElem? (i := 3) rfl)), (sn_n3 _ (List.mem_of_getElem? (i := 19) rfl))⟩
theorem sn_ws_mna : ∀ o ∈ [0, 1, 2, 4], Cond.classLink (sn_cn o) 9 "[[I" ∈ wsL_law := List.forall_mem_cons.mpr ⟨(sn_n4 _ (List.mem_of_getElem? (i := 14) rfl)), List.forall_mem_cons.mpr ⟨(sn_n7 _ (List.mem_of_getElem? (i := 5) rfl)), List.forall_mem_cons.mpr ⟨(sn_n5 _ (List.mem_of_getElem? (i := 0) rfl)), List.forall_mem_cons.mpr ⟨(sn_n5 _ (List.mem_of_getElem? (i := 16) rfl)), fun _ h => absurd h List.not_mem_nil⟩⟩⟩⟩
theorem sn_ws_obj : Cond.instanceMethod objectInit ∈ wsL_law ∧ Cond.code objectInit ⟨#[0xb1]⟩ 1 none ∈ wsL_law := ⟨(sn_n1 _ (List.mem_of_getElem? (i := 8) rfl)), (sn_n1 _ (List.mem_of_getElem? (i := 9) rfl))⟩
theorem sn_ws_math : (Cond.static Lib.Math.abs.name ∈ wsL_law ∧ Cond.static Lib.Math.max.name ∈ wsL_law ∧ Cond.static Lib.Math.min.name ∈ wsL_law) ∧ Cond.initialized "java/lang/Math" ∈ wsL_law ∧ Cond.code Lib.Math.abs.name Lib.Math.abs.code 1 (some .int) ∈ wsL_law ∧ Cond.code Lib.Math.max.name Lib.Math.max.code 2 (some .int) ∈ wsL_law ∧ Cond.code Lib.Math.min.name Lib.Math.min.code 2 (some .int) ∈ wsL_law := ⟨⟨(sn_n12 _ (List.mem_of_getElem? (i := 23) rfl)), (sn_n16 _ (List.mem_of_getElem? (i := 16) rfl)), (sn_n21 _ (List.mem_of_getElem? (i := 8) rfl))⟩, (sn_n13 _ (List.mem_of_getElem? (i := 0) rfl)), (sn_n13 _ (List.mem_of_getElem? (i := 1) rfl)), (sn_n16 _ (List.mem_of_getElem? (i := 17) rfl)), (sn_n21 _ (List.mem_of_getElem? (i := 9) rfl))⟩

theorem sn_find {α : Type} {t : List (Nat × Nat × α)} {o i : Nat} {x : α} (h : (t.find? (fun q => q.1 == o && q.2.1 == i)).map (fun q => q.2.2) = some x) : (o, i, x) ∈ t := by
  obtain ⟨⟨a, b, y⟩, h1, h2⟩ := Option.map_eq_some_iff.mp h
  have h3 := List.find?_some h1
  have h4 := List.mem_of_find?_eq_some h1
  simp only [Bool.and_eq_true, beq_iff_eq] at h3
  obtain ⟨rfl, rfl⟩ := h3
  dsimp only at h2
  rw [← h2]
  exact h4
theorem sn_pf_ok {o i ci k : Nat} (h : sn_pf o i = some (ci, k)) : ci < 10 ∧ k < sn_nf ci ∧ (sn_T ci k).1 = sn_cn ci ∧ (sn_T ci k).2.2.2 = sn_ff ci k ∧ Cond.fieldLink (sn_cn o) i (sn_cn ci) (sn_T ci k).2.1 (sn_T ci k).2.2.1 ∈ wsL_law := sn_pfl_ok (o, i, ci, k) (sn_find h)

theorem sn_code_ok : ∀ j, j < 129 → j ≠ 88 → Cond.code (sn_y j) (sn_bc j) (sn_ml j) (sn_rt j) ∈ wsL_law ∧ (sn_y j).cls ≠ "java/lang/invoke/MethodHandle" ∧ (sn_y j).cls ≠ "java/lang/invoke/VarHandle" := fun j h h88 => ⟨sn_code_all j h h88, sn_plain j h⟩
