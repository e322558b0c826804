section
-- ===== PART A: goes FIRST, ahead of the names: the tables' words, and 'selects' of the private methods out of them =====
/-- a private method of a class that the tables say can be made, by its rows of tables_1 -/
def lw_okq (q : MethodName × Nat) : Prop := (q.1.cls ≠ "java/lang/invoke/MethodHandle" ∧ q.1.cls ≠ "java/lang/invoke/VarHandle") ∧ Cond.instantiable q.1.cls q.2 ∈ tables_1 ∧ Cond.privateMethod q.1 ∈ tables_1 ∧ Cond.instanceMethod q.1 ∈ tables_1
theorem lw_p0 : lw_okq (⟨"java/lang/Throwable", "fillInStackTrace", "(I)Ljava/lang/Throwable;"⟩, 6) := ⟨⟨by decide +kernel, by decide +kernel⟩, List.mem_of_getElem? (i := 438) (by decide +kernel), List.mem_of_getElem? (i := 436) (by decide +kernel), List.mem_of_getElem? (i := 437) (by decide +kernel)⟩
theorem lw_p1 : lw_okq (⟨"Songnations", "needPhase", "(I)V"⟩, 16) := ⟨⟨by decide +kernel, by decide +kernel⟩, List.mem_of_getElem? (i := 19) (by decide +kernel), List.mem_of_getElem? (i := 468) (by decide +kernel), List.mem_of_getElem? (i := 469) (by decide +kernel)⟩
theorem lw_p2 : lw_okq (⟨"Songnations", "needLand", "(I)V"⟩, 16) := ⟨⟨by decide +kernel, by decide +kernel⟩, List.mem_of_getElem? (i := 19) (by decide +kernel), List.mem_of_getElem? (i := 504) (by decide +kernel), List.mem_of_getElem? (i := 505) (by decide +kernel)⟩
theorem lw_p3 : lw_okq (⟨"Songnations", "canMove", "()Z"⟩, 16) := ⟨⟨by decide +kernel, by decide +kernel⟩, List.mem_of_getElem? (i := 19) (by decide +kernel), List.mem_of_getElem? (i := 539) (by decide +kernel), List.mem_of_getElem? (i := 540) (by decide +kernel)⟩
theorem lw_p4 : lw_okq (⟨"Songnations$Stage", "writeTrial", "(II)V"⟩, 5) := ⟨⟨by decide +kernel, by decide +kernel⟩, List.mem_of_getElem? (i := 101) (by decide +kernel), List.mem_of_getElem? (i := 552) (by decide +kernel), List.mem_of_getElem? (i := 553) (by decide +kernel)⟩
theorem lw_p5 : lw_okq (⟨"Songnations$Stage", "delayOf", "([I)I"⟩, 5) := ⟨⟨by decide +kernel, by decide +kernel⟩, List.mem_of_getElem? (i := 101) (by decide +kernel), List.mem_of_getElem? (i := 560) (by decide +kernel), List.mem_of_getElem? (i := 561) (by decide +kernel)⟩
theorem lw_p6 : lw_okq (⟨"Songnations", "needSong", "(I)V"⟩, 16) := ⟨⟨by decide +kernel, by decide +kernel⟩, List.mem_of_getElem? (i := 19) (by decide +kernel), List.mem_of_getElem? (i := 617) (by decide +kernel), List.mem_of_getElem? (i := 618) (by decide +kernel)⟩
theorem lw_p7 : lw_okq (⟨"Songnations", "count", "()V"⟩, 16) := ⟨⟨by decide +kernel, by decide +kernel⟩, List.mem_of_getElem? (i := 19) (by decide +kernel), List.mem_of_getElem? (i := 659) (by decide +kernel), List.mem_of_getElem? (i := 660) (by decide +kernel)⟩
theorem lw_p8 : lw_okq (⟨"Songnations$Juries", "countLand", "(I)V"⟩, 11) := ⟨⟨by decide +kernel, by decide +kernel⟩, List.mem_of_getElem? (i := 150) (by decide +kernel), List.mem_of_getElem? (i := 667) (by decide +kernel), List.mem_of_getElem? (i := 668) (by decide +kernel)⟩
theorem lw_p9 : lw_okq (⟨"Songnations$Juries", "addBallots", "(I)V"⟩, 11) := ⟨⟨by decide +kernel, by decide +kernel⟩, List.mem_of_getElem? (i := 150) (by decide +kernel), List.mem_of_getElem? (i := 675) (by decide +kernel), List.mem_of_getElem? (i := 676) (by decide +kernel)⟩
theorem lw_p10 : lw_okq (⟨"Songnations$Juries", "isCounting", "(II)Z"⟩, 11) := ⟨⟨by decide +kernel, by decide +kernel⟩, List.mem_of_getElem? (i := 150) (by decide +kernel), List.mem_of_getElem? (i := 682) (by decide +kernel), List.mem_of_getElem? (i := 683) (by decide +kernel)⟩
theorem lw_p11 : lw_okq (⟨"Songnations$Juries", "sortCandidates", "(I)V"⟩, 11) := ⟨⟨by decide +kernel, by decide +kernel⟩, List.mem_of_getElem? (i := 150) (by decide +kernel), List.mem_of_getElem? (i := 696) (by decide +kernel), List.mem_of_getElem? (i := 697) (by decide +kernel)⟩
theorem lw_p12 : lw_okq (⟨"Songnations$Juries", "findOutlier", "(I)I"⟩, 11) := ⟨⟨by decide +kernel, by decide +kernel⟩, List.mem_of_getElem? (i := 150) (by decide +kernel), List.mem_of_getElem? (i := 704) (by decide +kernel), List.mem_of_getElem? (i := 705) (by decide +kernel)⟩
theorem lw_p13 : lw_okq (⟨"Songnations$Juries", "findPraised", "(I)I"⟩, 11) := ⟨⟨by decide +kernel, by decide +kernel⟩, List.mem_of_getElem? (i := 150) (by decide +kernel), List.mem_of_getElem? (i := 715) (by decide +kernel), List.mem_of_getElem? (i := 716) (by decide +kernel)⟩
theorem lw_p14 : lw_okq (⟨"Songnations$Juries", "voidPairs", "()V"⟩, 11) := ⟨⟨by decide +kernel, by decide +kernel⟩, List.mem_of_getElem? (i := 150) (by decide +kernel), List.mem_of_getElem? (i := 720) (by decide +kernel), List.mem_of_getElem? (i := 721) (by decide +kernel)⟩
theorem lw_p15 : lw_okq (⟨"Songnations$Juries", "borrowSums", "(I)V"⟩, 11) := ⟨⟨by decide +kernel, by decide +kernel⟩, List.mem_of_getElem? (i := 150) (by decide +kernel), List.mem_of_getElem? (i := 724) (by decide +kernel), List.mem_of_getElem? (i := 725) (by decide +kernel)⟩
def lw_privs_1 : List (MethodName × Nat) := [(⟨"java/lang/Throwable", "fillInStackTrace", "(I)Ljava/lang/Throwable;"⟩, 6), (⟨"Songnations", "needPhase", "(I)V"⟩, 16), (⟨"Songnations", "needLand", "(I)V"⟩, 16), (⟨"Songnations", "canMove", "()Z"⟩, 16), (⟨"Songnations$Stage", "writeTrial", "(II)V"⟩, 5), (⟨"Songnations$Stage", "delayOf", "([I)I"⟩, 5), (⟨"Songnations", "needSong", "(I)V"⟩, 16), (⟨"Songnations", "count", "()V"⟩, 16), (⟨"Songnations$Juries", "countLand", "(I)V"⟩, 11), (⟨"Songnations$Juries", "addBallots", "(I)V"⟩, 11), (⟨"Songnations$Juries", "isCounting", "(II)Z"⟩, 11), (⟨"Songnations$Juries", "sortCandidates", "(I)V"⟩, 11), (⟨"Songnations$Juries", "findOutlier", "(I)I"⟩, 11), (⟨"Songnations$Juries", "findPraised", "(I)I"⟩, 11), (⟨"Songnations$Juries", "voidPairs", "()V"⟩, 11), (⟨"Songnations$Juries", "borrowSums", "(I)V"⟩, 11)]
theorem lw_r1 : ∀ q ∈ lw_privs_1, lw_okq q := List.forall_mem_cons.mpr ⟨lw_p0, List.forall_mem_cons.mpr ⟨lw_p1, List.forall_mem_cons.mpr ⟨lw_p2, List.forall_mem_cons.mpr ⟨lw_p3, List.forall_mem_cons.mpr ⟨lw_p4, List.forall_mem_cons.mpr ⟨lw_p5, List.forall_mem_cons.mpr ⟨lw_p6, List.forall_mem_cons.mpr ⟨lw_p7, List.forall_mem_cons.mpr ⟨lw_p8, List.forall_mem_cons.mpr ⟨lw_p9, List.forall_mem_cons.mpr ⟨lw_p10, List.forall_mem_cons.mpr ⟨lw_p11, List.forall_mem_cons.mpr ⟨lw_p12, List.forall_mem_cons.mpr ⟨lw_p13, List.forall_mem_cons.mpr ⟨lw_p14, List.forall_mem_cons.mpr ⟨lw_p15, fun _ h => absurd h List.not_mem_nil⟩⟩⟩⟩⟩⟩⟩⟩⟩⟩⟩⟩⟩⟩⟩⟩
theorem lw_p16 : lw_okq (⟨"Songnations$Juries", "addCandidates", "(II)V"⟩, 11) := ⟨⟨by decide +kernel, by decide +kernel⟩, List.mem_of_getElem? (i := 150) (by decide +kernel), List.mem_of_getElem? (i := 728) (by decide +kernel), List.mem_of_getElem? (i := 729) (by decide +kernel)⟩
theorem lw_p17 : lw_okq (⟨"Songnations$Juries", "givePoints", "(I)V"⟩, 11) := ⟨⟨by decide +kernel, by decide +kernel⟩, List.mem_of_getElem? (i := 150) (by decide +kernel), List.mem_of_getElem? (i := 733) (by decide +kernel), List.mem_of_getElem? (i := 734) (by decide +kernel)⟩
theorem lw_p18 : lw_okq (⟨"Songnations$Phones", "countSong", "(III)V"⟩, 11) := ⟨⟨by decide +kernel, by decide +kernel⟩, List.mem_of_getElem? (i := 195) (by decide +kernel), List.mem_of_getElem? (i := 742) (by decide +kernel), List.mem_of_getElem? (i := 743) (by decide +kernel)⟩
theorem lw_p19 : lw_okq (⟨"Songnations$Phones", "fullCallers", "(III)I"⟩, 11) := ⟨⟨by decide +kernel, by decide +kernel⟩, List.mem_of_getElem? (i := 195) (by decide +kernel), List.mem_of_getElem? (i := 746) (by decide +kernel), List.mem_of_getElem? (i := 747) (by decide +kernel)⟩
theorem lw_p20 : lw_okq (⟨"Songnations$Ranking", "addPoints", "(I)V"⟩, 9) := ⟨⟨by decide +kernel, by decide +kernel⟩, List.mem_of_getElem? (i := 267) (by decide +kernel), List.mem_of_getElem? (i := 763) (by decide +kernel), List.mem_of_getElem? (i := 764) (by decide +kernel)⟩
theorem lw_p21 : lw_okq (⟨"Songnations$Ranking", "keyWithout", "(II)I"⟩, 9) := ⟨⟨by decide +kernel, by decide +kernel⟩, List.mem_of_getElem? (i := 267) (by decide +kernel), List.mem_of_getElem? (i := 767) (by decide +kernel), List.mem_of_getElem? (i := 768) (by decide +kernel)⟩
theorem lw_p22 : lw_okq (⟨"Songnations", "voidJuries", "()I"⟩, 16) := ⟨⟨by decide +kernel, by decide +kernel⟩, List.mem_of_getElem? (i := 19) (by decide +kernel), List.mem_of_getElem? (i := 776) (by decide +kernel), List.mem_of_getElem? (i := 777) (by decide +kernel)⟩
theorem lw_p23 : lw_okq (⟨"Songnations", "numberOfSong", "(II)I"⟩, 16) := ⟨⟨by decide +kernel, by decide +kernel⟩, List.mem_of_getElem? (i := 19) (by decide +kernel), List.mem_of_getElem? (i := 785) (by decide +kernel), List.mem_of_getElem? (i := 786) (by decide +kernel)⟩
theorem lw_p24 : lw_okq (⟨"Songnations", "numberOfContest", "(I)I"⟩, 16) := ⟨⟨by decide +kernel, by decide +kernel⟩, List.mem_of_getElem? (i := 19) (by decide +kernel), List.mem_of_getElem? (i := 807) (by decide +kernel), List.mem_of_getElem? (i := 808) (by decide +kernel)⟩
theorem lw_p25 : lw_okq (⟨"Songnations", "canStillChange", "()Z"⟩, 16) := ⟨⟨by decide +kernel, by decide +kernel⟩, List.mem_of_getElem? (i := 19) (by decide +kernel), List.mem_of_getElem? (i := 815) (by decide +kernel), List.mem_of_getElem? (i := 816) (by decide +kernel)⟩
theorem lw_p26 : lw_okq (⟨"Songnations$Board", "stillToCome", "(I)I"⟩, 9) := ⟨⟨by decide +kernel, by decide +kernel⟩, List.mem_of_getElem? (i := 305) (by decide +kernel), List.mem_of_getElem? (i := 826) (by decide +kernel), List.mem_of_getElem? (i := 827) (by decide +kernel)⟩
theorem lw_p27 : lw_okq (⟨"Songnations", "closestLand", "()I"⟩, 16) := ⟨⟨by decide +kernel, by decide +kernel⟩, List.mem_of_getElem? (i := 19) (by decide +kernel), List.mem_of_getElem? (i := 834) (by decide +kernel), List.mem_of_getElem? (i := 835) (by decide +kernel)⟩
theorem lw_p28 : lw_okq (⟨"Songnations$Stage", "delayWith", "(II)I"⟩, 5) := ⟨⟨by decide +kernel, by decide +kernel⟩, List.mem_of_getElem? (i := 101) (by decide +kernel), List.mem_of_getElem? (i := 864) (by decide +kernel), List.mem_of_getElem? (i := 865) (by decide +kernel)⟩
theorem lw_p29 : lw_okq (⟨"Songnations", "digestOfLand", "(JI)J"⟩, 16) := ⟨⟨by decide +kernel, by decide +kernel⟩, List.mem_of_getElem? (i := 19) (by decide +kernel), List.mem_of_getElem? (i := 874) (by decide +kernel), List.mem_of_getElem? (i := 875) (by decide +kernel)⟩
theorem lw_p30 : lw_okq (⟨"Songnations", "numberOfLand", "(II)I"⟩, 16) := ⟨⟨by decide +kernel, by decide +kernel⟩, List.mem_of_getElem? (i := 19) (by decide +kernel), List.mem_of_getElem? (i := 878) (by decide +kernel), List.mem_of_getElem? (i := 879) (by decide +kernel)⟩
theorem lw_p31 : lw_okq (⟨"Songnations$Phones", "winsTie", "(III)Z"⟩, 11) := ⟨⟨by decide +kernel, by decide +kernel⟩, List.mem_of_getElem? (i := 195) (by decide +kernel), List.mem_of_getElem? (i := 887) (by decide +kernel), List.mem_of_getElem? (i := 888) (by decide +kernel)⟩
def lw_privs_2 : List (MethodName × Nat) := [(⟨"Songnations$Juries", "addCandidates", "(II)V"⟩, 11), (⟨"Songnations$Juries", "givePoints", "(I)V"⟩, 11), (⟨"Songnations$Phones", "countSong", "(III)V"⟩, 11), (⟨"Songnations$Phones", "fullCallers", "(III)I"⟩, 11), (⟨"Songnations$Ranking", "addPoints", "(I)V"⟩, 9), (⟨"Songnations$Ranking", "keyWithout", "(II)I"⟩, 9), (⟨"Songnations", "voidJuries", "()I"⟩, 16), (⟨"Songnations", "numberOfSong", "(II)I"⟩, 16), (⟨"Songnations", "numberOfContest", "(I)I"⟩, 16), (⟨"Songnations", "canStillChange", "()Z"⟩, 16), (⟨"Songnations$Board", "stillToCome", "(I)I"⟩, 9), (⟨"Songnations", "closestLand", "()I"⟩, 16), (⟨"Songnations$Stage", "delayWith", "(II)I"⟩, 5), (⟨"Songnations", "digestOfLand", "(JI)J"⟩, 16), (⟨"Songnations", "numberOfLand", "(II)I"⟩, 16), (⟨"Songnations$Phones", "winsTie", "(III)Z"⟩, 11)]
theorem lw_r2 : ∀ q ∈ lw_privs_2, lw_okq q := List.forall_mem_cons.mpr ⟨lw_p16, List.forall_mem_cons.mpr ⟨lw_p17, List.forall_mem_cons.mpr ⟨lw_p18, List.forall_mem_cons.mpr ⟨lw_p19, List.forall_mem_cons.mpr ⟨lw_p20, List.forall_mem_cons.mpr ⟨lw_p21, List.forall_mem_cons.mpr ⟨lw_p22, List.forall_mem_cons.mpr ⟨lw_p23, List.forall_mem_cons.mpr ⟨lw_p24, List.forall_mem_cons.mpr ⟨lw_p25, List.forall_mem_cons.mpr ⟨lw_p26, List.forall_mem_cons.mpr ⟨lw_p27, List.forall_mem_cons.mpr ⟨lw_p28, List.forall_mem_cons.mpr ⟨lw_p29, List.forall_mem_cons.mpr ⟨lw_p30, List.forall_mem_cons.mpr ⟨lw_p31, fun _ h => absurd h List.not_mem_nil⟩⟩⟩⟩⟩⟩⟩⟩⟩⟩⟩⟩⟩⟩⟩⟩
theorem lw_p32 : lw_okq (⟨"Songnations", "findHost", "()I"⟩, 16) := ⟨⟨by decide +kernel, by decide +kernel⟩, List.mem_of_getElem? (i := 19) (by decide +kernel), List.mem_of_getElem? (i := 981) (by decide +kernel), List.mem_of_getElem? (i := 982) (by decide +kernel)⟩
def lw_privs_3 : List (MethodName × Nat) := [(⟨"Songnations", "findHost", "()I"⟩, 16)]
theorem lw_r3 : ∀ q ∈ lw_privs_3, lw_okq q := List.forall_mem_cons.mpr ⟨lw_p32, fun _ h => absurd h List.not_mem_nil⟩
def lw_privs : List (MethodName × Nat) := lw_privs_1 ++ (lw_privs_2 ++ (lw_privs_3))
def lw_tbl : List Cond := k2_sels lw_privs ++ tables_1
theorem lw_privs_ok : ∀ q ∈ lw_privs, lw_okq q := by
  show ∀ q ∈ lw_privs_1 ++ (lw_privs_2 ++ (lw_privs_3)), lw_okq q
  exact List.forall_mem_append.mpr ⟨lw_r1, List.forall_mem_append.mpr ⟨lw_r2, lw_r3⟩⟩
/-- the streams that the claim lets the run draw from -/
abbrev lw_cs : List Choice := [Jvm.Choice.named "NaN.bits"]
theorem lw_bits : nanBits ∈ lw_cs := by first | decide | exact List.mem_cons_self | simp [lw_cs, nanBits]
end
section
/-! ===== BEGIN words of one list among another's, by their places ===== -/
theorem goodIn_r {big : List Cond} (ws : List Cond) (ps : List Nat) (hp : ws = ps.filterMap (fun i => big[i]?)) (h : ws.all goodWord = true) : GoodIn big ws := by
  intro w hw
  have h1 := List.all_eq_true.mp h w hw
  rw [hp] at hw
  obtain ⟨i, -, hi⟩ := List.mem_filterMap.mp hw
  have hm : w ∈ big := by first | exact List.mem_of_getElem? hi | exact List.getElem?_mem hi
  exact ⟨hm, good_of_word h1⟩
theorem goodIn_app {big a b : List Cond} (ha : GoodIn big a) (hb : GoodIn big b) : GoodIn big (a ++ b) := fun w h => (List.mem_append.mp h).elim (ha w) (hb w)
theorem goodIn_ca {big a b : List Cond} {c : Cond} (ha : GoodIn big (c :: a)) (hb : GoodIn big b) : GoodIn big (c :: (a ++ b)) := fun w h => (List.mem_cons.mp h).elim (fun e => ha w (List.mem_cons.mpr (Or.inl e))) (fun h => (List.mem_append.mp h).elim (fun h => ha w (List.mem_cons.mpr (Or.inr h))) (hb w))
theorem goodIn_sub {big ws : List Cond} (hm : ∀ w ∈ ws, w ∈ big) (h : ws.all goodWord = true) : GoodIn big ws := fun w hw => ⟨hm w hw, good_of_word (List.all_eq_true.mp h w hw)⟩
/-! ===== END ===== -/

/-! ===== BEGIN new T[n][m]: the outer array a place, the inner ones among the pooled ===== -/
/-- f, but v at every address of l -/
def vr_up {α : Type} (f : Nat → α) (l : List Nat) (v : α) : Nat → α := fun a => if a ∈ l then v else f a
theorem vr_up_in {α : Type} {f : Nat → α} {l : List Nat} {v : α} {a : Nat} (h : a ∈ l) : vr_up f l v a = v := if_pos h
theorem vr_up_ne {α : Type} {f : Nat → α} {l : List Nat} {v : α} {a : Nat} (h : a ∉ l) : vr_up f l v a = f a := if_neg h
theorem vr_rows {L l : List Nat} {f : Nat → va_E} {e : va_E} (h : ∀ a, a ∈ l → a ∉ L) : va_pl L f ++ l.map (fun a => (a, e)) = va_pl (L ++ l) (vr_up f l e) := by
  unfold va_pl
  rw [List.map_append]
  congr 1
  · apply List.map_congr_left
    intro a ha
    rw [vr_up_ne (fun q => h a q ha)]
  · apply List.map_congr_left
    intro a ha
    rw [vr_up_in ha]
theorem vr_lay {X rows : va_W} {x : Nat × va_E} {pl : va_W} {D : va_G} {cl : List vw_C} {H : Heap} (hP : va_P D cl (((X ++ pl) ++ [x]) ++ rows) H) : va_P D cl ((X ++ [x]) ++ (pl ++ rows)) H := by
  rw [List.append_assoc (X ++ pl)] at hP
  have h := va_P.swap hP
  rw [← List.append_assoc X] at h
  have h2 := va_P.swap h
  rw [List.append_assoc (X ++ [x])] at h2
  exact h2
theorem vr_layD {X rows : va_W} {x : Nat × va_E} {pl : va_W} {A : Nat → Prop} (hD : va_D A (((X ++ pl) ++ [x]) ++ rows)) : va_D A ((X ++ [x]) ++ (pl ++ rows)) := by
  rw [List.append_assoc (X ++ pl)] at hD
  have h := va_D.swap hD
  rw [← List.append_assoc X] at h
  have h2 := va_D.swap h
  rw [List.append_assoc (X ++ [x])] at h2
  exact h2
theorem vr_outer (c : ClassId) (N h0 : Nat) : ∀ i : Nat, Jvm.Free.Multi.outerC c N h0 i = arrV c N (fun j => va_rf (if j < i then some (h0 + 1 + j) else none))
  | 0 => by
    show ({ cls := c, slots := Array.replicate N .null, vm := .none } : Cell) = _
    rw [arrV_new]
    refine congrArg (arrV c N) (funext fun j => ?_)
    simp [va_rf]
  | i + 1 => by
    show (Jvm.Free.Multi.outerC c N h0 i).setSlot i (.ref (h0 + 1 + i)) = _
    rw [vr_outer c N h0 i, arrV_store]
    refine congrArg (arrV c N) (funext fun j => ?_)
    by_cases e : j = i
    · subst e
      simp [updV, va_rf]
    · by_cases h : j < i
      · simp [updV, e, h, Nat.lt_succ_of_lt h]
      · simp [updV, e, h, show ¬ j < i + 1 by omega]
/-! ===== END ===== -/

/-! ===== BEGIN exceptions that leave a method, and their catching by the caller (launches without stack traces) ===== -/
section VXA
/-! The laws vx_back, vx_callV, vx_callS, vx_callSW, vx_throw0, vx_throwS follow proofs of the library, with one case more: JvmDerived/Free/Laws.lean (Back.of_free), Shelf42/LK1.lean (callV, callS), Shelf/KitTraced.lean (throwNew0V, throwNewS). -/
/-- where a method has thrown q: the class by its name, the cell, what was written, the world -/
def vx_T (XC : String → State → State → Prop) (st : State) (q : Addr) (t : State) (mc ms : Nat) (free : Addr → Prop) : Prop :=
  ∃ (E : String) (ce : Cell) (L : List Loc), XC E st t ∧ t.heap[q]? = some ce ∧ ce.vm = .none ∧ st.vm.findClass E = some ce.cls ∧ st.WarmedH t.vm ∧ st.sameButNew ({ t with vm := st.vm } : State) L mc ms ∧ ∀ z ∈ L, free z.base
def vx_Q (Qc : Array Value → State → Outcome → State → Prop) (XC : String → State → State → Prop) (mc ms : Nat) (free : Addr → Prop) : Array Value → State → Outcome → State → Prop := fun a st o t =>
  (Qc a st o t ∧ ∃ L, FrameEnd st o t L mc ms ∧ ∀ q ∈ L, free q.base) ∨ ∃ q, o = .threw q ∧ vx_T XC st q t mc ms free
/-- a callee that returns or throws -/
def vx_Met (l : Launch) (y : MethodName) (ws : List Cond) (rm : Room) (Pc : Array Value → State → Prop) (Qc : Array Value → State → Outcome → State → Prop) (XC : String → State → State → Prop) (mc ms : Nat) (free : Addr → Prop) : Prop :=
  MetFree l y (headSpec ws rm) Pc (fun _ _ _ _ _ => True) (vx_Q Qc XC mc ms free)
def vx_Post (XC : String → State → State → Prop) (mc ms : Nat) (free : Addr → Prop) : Pt → Array Value → Addr → Pt → Prop := fun A a q B =>
  ∃ (g : JFrame) (mk : MethodId) (t : State) (L : List Loc) (E : String) (ce : Cell), B.U.heap = t.heap ∧ B.U.vm = t.vm ∧ XC E (A.U.calling g mk a) t ∧ t.heap[q]? = some ce ∧ ce.vm = .none ∧ A.U.vm.findClass E = some ce.cls ∧ B.locs = A.locs ++ L ∧ (∀ z ∈ L, free z.base) ∧ B.cells = A.cells + mc ∧ B.slots = A.slots + ms
def vx_Back (l : Launch) (R : Room) (p : Program) (e : Env) (below : List Frame) (s : State) (sargs : Array Value) (y : MethodName) (len W9 : Nat)
    (Pre : Pt → Array Value → Prop) (Post : Pt → Array Value → Option Value → Pt → Prop) (PostX : Pt → Array Value → Addr → Pt → Prop) : Prop :=
  ∀ (m : MethodId) (meth : Method) (c : Code) (A : Pt) (g : JFrame) (ig : Instr) (mk : MethodId) (a : Array Value),
    Stand p l e R s m sargs below meth c A.U A.locs A.cells A.slots → g.method = m → g.locals.size = c.maxLocals → decode c.code g.pc = .ok (ig, len) →
    2 * g.monitorRoom + (g.stack.map fun v => v.category).sum ≤ W9 → A.U.methodNamed? y = some mk → Pre A a →
    (∃ (v : Option Value) (B : Pt), Stand p l e R s m sargs below meth c B.U B.locs B.cells B.slots ∧ Post A a v B ∧
      Steps p.tables e below (doInvoke e (A.U.setTop g) [] mk a).1 (B.U.setTop { g with pc := g.pc + len, stack := v.toList ++ g.stack })) ∨
    (∃ (q : Addr) (B : Pt), Stand p l e R s m sargs below meth c B.U B.locs B.cells B.slots ∧ PostX A a q B ∧
      Steps p.tables e below (doInvoke e (A.U.setTop g) [] mk a).1 ((B.U.setTop g).pushFrame (.throwing q)))
section Payer
variable {l : Launch} {R : Room} {p : Program} {e : Env} {below : List Frame} {s : State} {sargs : Array Value} {y : MethodName} {len W9 : Nat}
theorem vx_back {ws : List Cond} {rm : Room} {Pc : Array Value → State → Prop} {Qc : Array Value → State → Outcome → State → Prop} {XC : String → State → State → Prop} {mc ms : Nat} {free : Addr → Prop} {bytes : ByteArray} {maxL : Nat} {ret : Option FieldType}
    (hM : vx_Met l y ws rm Pc Qc XC mc ms free) (hblind : FrameBlind Pc) (hrc : rm.cells = mc) (hrs : rm.slots = ms)
    (hframes : rm.frames + 1 ≤ R.frames) (hlocals : W9 + (maxL + 11) + rm.locals ≤ R.locals)
    (hws : ∀ w ∈ ws, ∀ a' U, s.WarmedH U.vm → w.before a' U = true) (hcode : Cond.code y bytes maxL ret ∈ ws) (hinit : ∀ a' U, s.WarmedH U.vm → (Cond.initialized y.cls).before a' U = true) :
    vx_Back l R p e below s sargs y len W9 (PreOf R mc ms Pc) (PostOf Qc mc ms free) (vx_Post XC mc ms free) := by
  intro m meth c A g ig mk a X hg hsize hdg hW hn hp
  have h1 : (headSpec ws rm).pre.before a A.U = true := atoms_intro fun w hw => hws w hw _ _ X.warmed
  have h2 : (Cond.code y bytes maxL ret).before a A.U = true := hws _ hcode _ _ X.warmed
  have h3 : (Cond.initialized y.cls).before a A.U = true := hinit _ _ X.warmed
  have h4 : A.cells + (headSpec ws rm).room.cells ≤ R.cells := by rw [show (headSpec ws rm).room.cells = mc from hrc]; exact hp.1
  have h5 : A.slots + (headSpec ws rm).room.slots ≤ R.slots := by rw [show (headSpec ws rm).room.slots = ms from hrs]; exact hp.2.1
  have hPc : Pc a (A.U.calling g mk a) := hblind _ _ _ _ hp.2.2
  obtain ⟨U, Ls, c0, s0⟩ := A
  dsimp only [Pt.U, Pt.locs, Pt.cells, Pt.slots] at h1 h2 h3 h4 h5 X hn hPc ⊢
  obtain ⟨methY, cY, hmY, hcY, -, hlY, -, -, -, -⟩ := Cond.code_spec hn h2
  obtain ⟨kY, hkY, -⟩ := className_of_methodNamed hn
  have hinitY : kY.init = .initialized := Cond.initialized_spec (findClass_of_methodNamed hn) hkY h3
  have h : At U g.method c below := by rw [hg]; exact X.here
  have hlocals9 : W9 + (maxL + 11) + (headSpec ws rm).room.locals ≤ R.locals := hlocals
  have happ : (headSpec ws rm).appliesLoose y e.platform (U.calling g mk a) = true :=
    Spec.appliesLoose_calling (g := g) h hdg hn hkY hinitY
      (X.room_calling (g := g) (R' := (headSpec ws rm).room) hsize hmY hcY hframes (by rw [hlY]; omega) h4 h5) h1
  obtain ⟨mid, hmid⟩ := h.above
  have hfr : (U.setTop g).frames = (.java g :: mid) ++ below := by rw [State.frames_setTop' g h.top, hmid]; rfl
  obtain ⟨o, s₂, hsteps, -, hend, hq⟩ := Steps.callFree hM p X.admits X.cas X.clock (acts := []) hfr happ hPc trivial
  have hq' : vx_Q Qc XC mc ms free a (U.calling g mk a) o s₂ := hq
  rw [State.frames_setTop' g h.top] at hend
  obtain ⟨g₀, hg0⟩ := Option.isSome_iff_exists.mp h.top
  obtain ⟨r, hr⟩ := State.topJava?_eq_some.mp hg0
  have hr' : (({ U with heap := s₂.heap, slotsUsed := s₂.slotsUsed } : State).setVm s₂.vm).frames = .java g₀ :: r := hr
  rcases hq' with ⟨hqc, L, hfe, hL⟩ | ⟨q, rfl, E, ce, L, hx, hce, hcv, hcl, hW₂, hsm, hL⟩
  · obtain ⟨⟨v, rfl⟩, hW₂, e2, q2, q3, q4, q5, q6⟩ := id hfe
    have e3 : s₂ = ({ (U.calling g mk a).setFrames s₂.frames with heap := s₂.heap, slotsUsed := s₂.slotsUsed } : State).setVm s₂.vm := by
      have : s₂ = ({ s₂ with vm := (U.calling g mk a).vm } : State).setVm s₂.vm := rfl
      rw [e2] at this
      exact this
    obtain ⟨c₂, i₂, len₂, hc₂, hd₂, hf₂⟩ := hend
    have hW' : U.WarmedH s₂.vm := hW₂
    have hcc : c₂ = c := by
      have h1 : s₂.code? g.method = U.code? g.method := by
        rw [State.code?_eq, State.code?_eq, hW'.alike.method?]
      exact Option.some.inj (hc₂.symm.trans (h1.trans h.code))
    subst hcc
    have hlen : len₂ = len := by rw [hdg] at hd₂; cases hd₂; rfl
    subst hlen
    have hs₂ : s₂ = (({ U with heap := s₂.heap, slotsUsed := s₂.slotsUsed } : State).setVm s₂.vm).setTop { g with pc := g.pc + len₂, stack := v.toList ++ g.stack } := by
      refine e3.trans ?_
      rw [hf₂, State.calling_eq h.top, State.setFrames_setFrames, State.setTop_of_frames _ hr', hr]
      rfl
    have hsame : U.sameButNew ({ U with heap := s₂.heap, slotsUsed := s₂.slotsUsed } : State) L mc ms := by
      refine ⟨?_, q2, q3, q4, q5, q6⟩
      obtain ⟨t, ht, -⟩ := State.frames_cons hr
      show ({ U with heap := s₂.heap, slotsUsed := s₂.slotsUsed } : State) = { U.setFrames U.frames with heap := s₂.heap, slotsUsed := s₂.slotsUsed }
      rw [State.setFrames_self ht]
    subst hg
    refine Or.inl ⟨v, ⟨(({ U with heap := s₂.heap, slotsUsed := s₂.slotsUsed } : State).setVm s₂.vm), Ls ++ L, c0 + mc, s0 + ms⟩,
      ⟨X.admits, X.cas, X.clock, X.frames, X.room, X.hears, X.method, X.code, (X.here.setHeapUsed s₂.heap s₂.slotsUsed).setVm hW'.alike, X.tail, State.WarmedH.trans X.warmed hW', X.limits, X.bytes, X.same.trans (hsame.setVm s.vm)⟩,
      ⟨g, mk, s₂, L, rfl, rfl, hqc, rfl, hL, rfl, rfl⟩, ?_⟩
    show Steps p.tables e below _ ((({ U with heap := s₂.heap, slotsUsed := s₂.slotsUsed } : State).setVm s₂.vm).setTop { g with pc := g.pc + len₂, stack := v.toList ++ g.stack })
    rw [← hs₂]
    exact hsteps
  · obtain ⟨e2, q2, q3, q4, q5, q6⟩ := id hsm
    have e3 : s₂ = ({ (U.calling g mk a).setFrames s₂.frames with heap := s₂.heap, slotsUsed := s₂.slotsUsed } : State).setVm s₂.vm := by
      have : s₂ = ({ s₂ with vm := (U.calling g mk a).vm } : State).setVm s₂.vm := rfl
      rw [e2] at this
      exact this
    have hf₂ : s₂.frames = .throwing q :: .java g :: U.frames.tail := hend
    have hW' : U.WarmedH s₂.vm := hW₂
    have hs₂ : s₂ = ((({ U with heap := s₂.heap, slotsUsed := s₂.slotsUsed } : State).setVm s₂.vm).setTop g).pushFrame (.throwing q) := by
      refine e3.trans ?_
      rw [hf₂, State.calling_eq h.top, State.setFrames_setFrames, State.pushFrame, State.frames_setTop _ hr', State.setTop_of_frames _ hr', State.setFrames_setFrames, hr]
      rfl
    have hsame : U.sameButNew ({ U with heap := s₂.heap, slotsUsed := s₂.slotsUsed } : State) L mc ms := by
      refine ⟨?_, q2, q3, q4, q5, q6⟩
      obtain ⟨t, ht, -⟩ := State.frames_cons hr
      show ({ U with heap := s₂.heap, slotsUsed := s₂.slotsUsed } : State) = { U.setFrames U.frames with heap := s₂.heap, slotsUsed := s₂.slotsUsed }
      rw [State.setFrames_self ht]
    subst hg
    refine Or.inr ⟨q, ⟨(({ U with heap := s₂.heap, slotsUsed := s₂.slotsUsed } : State).setVm s₂.vm), Ls ++ L, c0 + mc, s0 + ms⟩,
      ⟨X.admits, X.cas, X.clock, X.frames, X.room, X.hears, X.method, X.code, (X.here.setHeapUsed s₂.heap s₂.slotsUsed).setVm hW'.alike, X.tail, State.WarmedH.trans X.warmed hW', X.limits, X.bytes, X.same.trans (hsame.setVm s.vm)⟩,
      ⟨g, mk, s₂, L, E, ce, rfl, rfl, hx, hce, hcv, hcl, rfl, hL, rfl, rfl⟩, ?_⟩
    show Steps p.tables e below _ (((({ U with heap := s₂.heap, slotsUsed := s₂.slotsUsed } : State).setVm s₂.vm).setTop g).pushFrame (.throwing q))
    rw [← hs₂]
    exact hsteps
end Payer
section Calls
variable {p : Program} {l : Launch} {e : Env} {R : Room} {s : State} {m : MethodId} {args : Array Value} {below : List Frame} {meth : Method} {c : Code} {T : State} {locs : List Loc} {cells slots : Nat}
theorem vx_callV (X : Stand p l e R s m args below meth c T locs cells slots) (hexec : p.tables.exec = Jvm.exec) {own C : String} {index : Nat} {y : MethodName} {bytes : ByteArray} {maxL : Nat} {ret : Option FieldType}
    (hown : s.vm.findClass own = some m.cls) (hlink : (Cond.methodLink own index y).before args s = true) (hinst : (Cond.instanceMethod y).before args s = true) (hsel : (Cond.selects C y y).before args s = true)
    (hcode : (Cond.code y bytes maxL ret).before args s = true) (hy : y.cls ≠ "java/lang/invoke/MethodHandle" ∧ y.cls ≠ "java/lang/invoke/VarHandle")
    {W9 : Nat} {Pre : Pt → Array Value → Prop} {Post : Pt → Array Value → Option Value → Pt → Prop} {PostX : Pt → Array Value → Addr → Pt → Prop} (hK : vx_Back l R p e below s args y 3 W9 Pre Post PostX)
    {b : Addr} {cellB : Cell} (hcell : T.heap[b]? = some cellB) (hobj : cellB.vm.isStatics = false) (hcls : s.vm.findClass C = some cellB.cls)
    {g : JFrame} (hg : g.method = m) (hsize : g.locals.size = c.maxLocals) {argsL rest : List Value} (hlen : ∀ sig, parseMethodDescriptor y.desc = some sig → argsL.length = sig.parameters.length)
    (hstack : g.stack = argsL.reverse ++ .ref b :: rest) (hW : 2 * g.monitorRoom + (rest.map fun v => v.category).sum ≤ W9) (hdg : decode c.code g.pc = .ok (.invokevirtual index, 3))
    (hpre : ∀ vm₁, s.WarmedH vm₁ → Pre ⟨T.setVm vm₁, locs, cells, slots⟩ (Value.ref b :: argsL).toArray) :
    (∃ (v : Option Value) (vm₁ : Vm) (B : Pt), s.WarmedH vm₁ ∧ Stand p l e R s m args below meth c B.U B.locs B.cells B.slots ∧ Post ⟨T.setVm vm₁, locs, cells, slots⟩ (Value.ref b :: argsL).toArray v B ∧
      ∀ target, Steps p.tables e below (B.U.setTop { g with pc := g.pc + 3, stack := v.toList ++ rest }) target → Steps p.tables e below (T.setTop g) target) ∨
    (∃ (q : Addr) (vm₁ : Vm) (B : Pt), s.WarmedH vm₁ ∧ Stand p l e R s m args below meth c B.U B.locs B.cells B.slots ∧ PostX ⟨T.setVm vm₁, locs, cells, slots⟩ (Value.ref b :: argsL).toArray q B ∧
      Steps p.tables e below (T.setTop g) ((B.U.setTop { g with stack := rest }).pushFrame (.throwing q))) := by
  obtain ⟨mk, methM, hnamed, hmethM, hstM, habM⟩ := Cond.instanceMethod_spec hinst
  obtain ⟨methM', cM, hmethM', -, -, -, -, -, -, hsigM⟩ := Cond.code_spec hnamed hcode
  cases hmethM.symm.trans hmethM'
  obtain ⟨c2, r2, m2, q1, q2, q3, q4, kP, hkP, hkPi⟩ := Cond.selects_spec hsel
  cases hcls.symm.trans q1
  cases (State.methodFound?_of_named hnamed hy).symm.trans q2
  cases hnamed.symm.trans q3
  have hselP : selectMethod e.platform s.vm cellB.cls mk = .method mk := by rw [Launch.admits_selectMethod X.admits]; exact q4
  obtain ⟨vm₁, X₁, hstep₁⟩ := X.invokevirtual hexec hown hlink hnamed hmethM hstM hkP hkPi hy (a := b) (cell := cellB) hcell
    (fun z h => by rw [h] at hobj; cases hobj) hselP hmethM habM hkP hkPi (g := g) hg (argsL := argsL) (rest := rest) (hlen _ hsigM) hstack hdg
  rcases hK m meth c ⟨T.setVm vm₁, locs, cells, slots⟩ { g with stack := rest } (.invokevirtual index) mk (Value.ref b :: argsL).toArray X₁ hg hsize hdg hW (X₁.named hnamed) (hpre vm₁ X₁.warmed) with ⟨v, B, X', hpost, hsteps⟩ | ⟨q, B, X', hpost, hsteps⟩
  · exact Or.inl ⟨v, vm₁, B, X₁.warmed, X', hpost, fun target h => hstep₁ _ fun acts => by rw [doInvoke_state]; exact hsteps.trans h⟩
  · exact Or.inr ⟨q, vm₁, B, X₁.warmed, X', hpost, hstep₁ _ fun acts => by rw [doInvoke_state]; exact hsteps⟩
theorem vx_callS (X : Stand p l e R s m args below meth c T locs cells slots) (hexec : p.tables.exec = Jvm.exec) {own : String} {index : Nat} {y : MethodName} {bytes : ByteArray} {maxL : Nat} {ret : Option FieldType}
    (hown : s.vm.findClass own = some m.cls) (hlink : (Cond.methodLink own index y).before args s = true) (hstat : (Cond.static y).before args s = true) (hinit : (Cond.initialized y.cls).before args s = true)
    (hcode : (Cond.code y bytes maxL ret).before args s = true) (hy : y.cls ≠ "java/lang/invoke/MethodHandle" ∧ y.cls ≠ "java/lang/invoke/VarHandle")
    {W9 : Nat} {Pre : Pt → Array Value → Prop} {Post : Pt → Array Value → Option Value → Pt → Prop} {PostX : Pt → Array Value → Addr → Pt → Prop} (hK : vx_Back l R p e below s args y 3 W9 Pre Post PostX)
    {g : JFrame} (hg : g.method = m) (hsize : g.locals.size = c.maxLocals) {argsL rest : List Value} (hlen : ∀ sig, parseMethodDescriptor y.desc = some sig → argsL.length = sig.parameters.length)
    (hstack : g.stack = argsL.reverse ++ rest) (hW : 2 * g.monitorRoom + (rest.map fun v => v.category).sum ≤ W9) (hdg : decode c.code g.pc = .ok (.invokestatic index, 3))
    (hpre : ∀ vm₁, s.WarmedH vm₁ → Pre ⟨T.setVm vm₁, locs, cells, slots⟩ argsL.toArray) :
    (∃ (v : Option Value) (vm₁ : Vm) (B : Pt), s.WarmedH vm₁ ∧ Stand p l e R s m args below meth c B.U B.locs B.cells B.slots ∧ Post ⟨T.setVm vm₁, locs, cells, slots⟩ argsL.toArray v B ∧
      ∀ target, Steps p.tables e below (B.U.setTop { g with pc := g.pc + 3, stack := v.toList ++ rest }) target → Steps p.tables e below (T.setTop g) target) ∨
    (∃ (q : Addr) (vm₁ : Vm) (B : Pt), s.WarmedH vm₁ ∧ Stand p l e R s m args below meth c B.U B.locs B.cells B.slots ∧ PostX ⟨T.setVm vm₁, locs, cells, slots⟩ argsL.toArray q B ∧
      Steps p.tables e below (T.setTop g) ((B.U.setTop { g with stack := rest }).pushFrame (.throwing q))) := by
  obtain ⟨mk, hnamed⟩ := Cond.code_named hcode
  obtain ⟨methM, cM, hmethM, -, -, -, -, -, -, hsigM⟩ := Cond.code_spec hnamed hcode
  have hstatic : methM.isStatic = true := Cond.static_spec hnamed hmethM hstat
  obtain ⟨kP, hkP, -⟩ := className_of_methodNamed hnamed
  have hinitP : kP.init = .initialized := Cond.initialized_spec (findClass_of_methodNamed hnamed) hkP hinit
  obtain ⟨vm₁, X₁, hstep₁⟩ := X.invokestatic hexec hown hlink hnamed hmethM hstatic hkP hinitP hy (g := g) hg (argsL := argsL) (rest := rest) (hlen _ hsigM) hstack hdg
  rcases hK m meth c ⟨T.setVm vm₁, locs, cells, slots⟩ { g with stack := rest } (.invokestatic index) mk argsL.toArray X₁ hg hsize hdg hW (X₁.named hnamed) (hpre vm₁ X₁.warmed) with ⟨v, B, X', hpost, hsteps⟩ | ⟨q, B, X', hpost, hsteps⟩
  · exact Or.inl ⟨v, vm₁, B, X₁.warmed, X', hpost, fun target h => hstep₁ _ fun acts => by rw [doInvoke_state]; exact hsteps.trans h⟩
  · exact Or.inr ⟨q, vm₁, B, X₁.warmed, X', hpost, hstep₁ _ fun acts => by rw [doInvoke_state]; exact hsteps⟩
end Calls
theorem vx_cls {s : State} {T : State} {vm₁ : Vm} {E : String} {k : ClassId} (hW : s.WarmedH vm₁) (h : (T.setVm vm₁).vm.findClass E = some k) : s.vm.findClass E = some k := by
  have h1 : vm₁.findClass E = some k := h
  rw [hW.alike.findClass] at h1
  exact h1
/-- the method's frame g, with q thrown over it -/
def vx_W (p : Program) (l : Launch) (e : Env) (R : Room) (s : State) (m : MethodId) (args : Array Value) (below : List Frame) (meth : Method) (c : Code) (H : Heap) (locs : List Loc) (cells slots : Nat) (Q : State → Prop) (g : JFrame) (q : Addr) : Prop :=
  ∀ T : State, T.heap = H → Stand p l e R s m args below meth c T locs cells slots → ∃ t, Steps p.tables e below ((T.setTop g).pushFrame (.throwing q)) t ∧ Q t
def vx_Run (p : Program) (l : Launch) (e : Env) (R : Room) (s : State) (m : MethodId) (args : Array Value) (below : List Frame) (meth : Method) (c : Code) (H : Heap) (locs : List Loc) (cells slots mc ms : Nat) (g : JFrame) (rest : List Value) (Qa : State → Outcome → State → Prop) (XC : String → State → State → Prop) (free : Addr → Prop) : Prop :=
  ∀ T : State, T.heap = H → Stand p l e R s m args below meth c T locs cells slots →
    (∃ (v : Option Value) (st₀ t T' : State) (L : List Loc), st₀.heap = H ∧ Stand p l e R s m args below meth c T' (locs ++ L) (cells + mc) (slots + ms) ∧ (∀ q ∈ L, free q.base) ∧ T'.heap = t.heap ∧ T'.vm = t.vm ∧ Qa st₀ (.returned v) t ∧
      Goes p e below T g T' { g with pc := g.pc + 3, stack := v.toList ++ rest }) ∨
    (∃ (q : Addr) (st₀ t T' : State) (L : List Loc) (E : String) (ce : Cell), st₀.heap = H ∧ Stand p l e R s m args below meth c T' (locs ++ L) (cells + mc) (slots + ms) ∧ (∀ z ∈ L, free z.base) ∧ T'.heap = t.heap ∧ T'.vm = t.vm ∧ XC E st₀ t ∧ t.heap[q]? = some ce ∧ ce.vm = .none ∧ s.vm.findClass E = some ce.cls ∧
      Steps p.tables e below (T.setTop g) ((T'.setTop { g with stack := rest }).pushFrame (.throwing q)))
def vx_X {S : Type} (px : S → Prop) (B : String → S → State → Prop) (A : Nat → Prop) : String → State → State → Prop := fun E st t => ∃ u : S, px u ∧ B E u t ∧ va_F A st t
section Runs
variable {p : Program} {l : Launch} {e : Env} {R : Room} {s : State} {m : MethodId} {args : Array Value} {below : List Frame} {meth : Method} {c : Code} {H : Heap} {locs : List Loc} {cells slots : Nat}
variable {y : MethodName} {bytes cc : ByteArray} {maxL nL mc ms n index : Nat} {ret : Option FieldType} {ws : List Cond} {rm : Room} {Pc : Array Value → State → Prop} {Qc : Array Value → State → Outcome → State → Prop} {XC : String → State → State → Prop} {free : Addr → Prop} {Ts : List Cond} {own C : String} {b : Addr} {As rest : List Value} {g : JFrame}
theorem vx_callBack (cb : CallB R s args own index y bytes maxL ret ws rm mc ms n) (hM : vx_Met l y ws rm Pc Qc XC mc ms free) (hbl : FrameBlind Pc) : vx_Back l R p e below s args y 3 8 (PreOf R mc ms Pc) (PostOf Qc mc ms free) (vx_Post XC mc ms free) := by
  obtain ⟨hrc, hrs, hfr, hlo, hws, hcw, -, hini, -⟩ := cb
  exact vx_back (bytes := bytes) (maxL := maxL) (ret := ret) hM hbl hrc hrs hfr hlo hws hcw (fun a' U hW => word_at hW (Or.inl (by first | rfl | simp [Cond.onTables, Cond.keeps, Cond.steady])) hini)
theorem vx_runV (S : CallFix p m c cc nL s args Ts own) (hM : vx_Met l y ws rm Pc Qc XC mc ms free) (cw : CallW R s args own C index y bytes maxL ret ws rm mc ms n) (hp : PreV s H C b Pc As)
    (hg : g.method = m) (hn : As.length = n) (hsize : g.locals.size = nL) (hstack : g.stack = As.reverse ++ .ref b :: rest) (hW : 2 * g.monitorRoom + (rest.map fun v => v.category).sum ≤ 8) (hdg : decode cc g.pc = .ok (.invokevirtual index, 3)) (hf : cells + mc ≤ R.cells ∧ slots + ms ≤ R.slots) :
    vx_Run p l e R s m args below meth c H locs cells slots mc ms g rest (Qc (Value.ref b :: As).toArray) XC free := by
  have hK : vx_Back l R p e below s args y 3 8 (PreOf R mc ms Pc) (PostOf Qc mc ms free) (vx_Post XC mc ms free) := vx_callBack cw.1 hM hp.1
  obtain ⟨⟨-, -, -, -, -, -, hcode, -, hy, hlen, hl⟩, hin, hse⟩ := cw
  obtain ⟨hx, hb, hml, ho, -⟩ := S
  obtain ⟨-, ⟨cellB, hcB, hoB, hclB⟩, hPc⟩ := hp
  intro T hT X
  rcases vx_callV X hx (C := C) (bytes := bytes) (maxL := maxL) (ret := ret) ho hl hin hse hcode hy hK (by rw [hT]; exact hcB) hoB hclB hg (hsize.trans hml.symm) (argsL := As) (rest := rest) (fun sig h => hn.trans (hlen sig h)) hstack hW (by rw [hb]; exact hdg)
    (fun vm₁ hW₁ => ⟨hf.1, hf.2, hPc (T.setVm vm₁) hT hW₁⟩) with ⟨v, vm₁, ⟨U', l2, c2, s2⟩, hW₁, X', ⟨g', mk, t, L, e1, e2, hq, h1, hL, h2, h3⟩, st⟩ | ⟨q, vm₁, ⟨U', l2, c2, s2⟩, hW₁, X', ⟨g', mk, t, L, E, ce, e1, e2, hq, hce, hcv, hcl, h1, hL, h2, h3⟩, st⟩
  · dsimp only [Pt.U, Pt.locs, Pt.cells, Pt.slots] at X' e1 e2 h1 h2 h3 st
    subst h1; subst h2; subst h3
    exact Or.inl ⟨v, (T.setVm vm₁).calling g' mk (Value.ref b :: As).toArray, t, U', L, hT, X', hL, e1, e2, hq, st⟩
  · dsimp only [Pt.U, Pt.locs, Pt.cells, Pt.slots] at X' e1 e2 h1 h2 h3 st hcl
    subst h1; subst h2; subst h3
    exact Or.inr ⟨q, (T.setVm vm₁).calling g' mk (Value.ref b :: As).toArray, t, U', L, E, ce, hT, X', hL, e1, e2, hq, hce, hcv, vx_cls hW₁ hcl, st⟩
theorem vx_runS (S : CallFix p m c cc nL s args Ts own) (hM : vx_Met l y ws rm Pc Qc XC mc ms free) (cw : CallB R s args own index y bytes maxL ret ws rm mc ms n ∧ (Cond.static y).before args s = true) (hp : PreS s H Pc As)
    (hg : g.method = m) (hn : As.length = n) (hsize : g.locals.size = nL) (hstack : g.stack = As.reverse ++ rest) (hW : 2 * g.monitorRoom + (rest.map fun v => v.category).sum ≤ 8) (hdg : decode cc g.pc = .ok (.invokestatic index, 3)) (hf : cells + mc ≤ R.cells ∧ slots + ms ≤ R.slots) :
    vx_Run p l e R s m args below meth c H locs cells slots mc ms g rest (Qc As.toArray) XC free := by
  have hK : vx_Back l R p e below s args y 3 8 (PreOf R mc ms Pc) (PostOf Qc mc ms free) (vx_Post XC mc ms free) := vx_callBack cw.1 hM hp.1
  obtain ⟨⟨-, -, -, -, -, -, hcode, hini, hy, hlen, hl⟩, hstt⟩ := cw
  obtain ⟨hx, hb, hml, ho, -⟩ := S
  intro T hT X
  rcases vx_callS X hx (bytes := bytes) (maxL := maxL) (ret := ret) ho hl hstt hini hcode hy hK hg (hsize.trans hml.symm) (argsL := As) (rest := rest) (fun sig h => hn.trans (hlen sig h)) hstack hW (by rw [hb]; exact hdg)
    (fun vm₁ hW₁ => ⟨hf.1, hf.2, hp.2 (T.setVm vm₁) hT hW₁⟩) with ⟨v, vm₁, ⟨U', l2, c2, s2⟩, hW₁, X', ⟨g', mk, t, L, e1, e2, hq, h1, hL, h2, h3⟩, st⟩ | ⟨q, vm₁, ⟨U', l2, c2, s2⟩, hW₁, X', ⟨g', mk, t, L, E, ce, e1, e2, hq, hce, hcv, hcl, h1, hL, h2, h3⟩, st⟩
  · dsimp only [Pt.U, Pt.locs, Pt.cells, Pt.slots] at X' e1 e2 h1 h2 h3 st
    subst h1; subst h2; subst h3
    exact Or.inl ⟨v, (T.setVm vm₁).calling g' mk As.toArray, t, U', L, hT, X', hL, e1, e2, hq, st⟩
  · dsimp only [Pt.U, Pt.locs, Pt.cells, Pt.slots] at X' e1 e2 h1 h2 h3 st hcl
    subst h1; subst h2; subst h3
    exact Or.inr ⟨q, (T.setVm vm₁).calling g' mk As.toArray, t, U', L, E, ce, hT, X', hL, e1, e2, hq, hce, hcv, vx_cls hW₁ hcl, st⟩
end Runs
section Rows
variable {p : Program} {l : Launch} {e : Env} {R : Room} {s : State} {m : MethodId} {args : Array Value} {below : List Frame} {meth : Method} {c : Code} {H : Heap} {locs : List Loc} {cells slots : Nat} {Q : State → Prop}
variable {mc ms : Nat} {free : Addr → Prop} {A0 A1 : Nat → Prop} {H0 : Heap} {a : Array Value} {pc : Nat} {ls : Array Slot} {st0 rest : List Value}
theorem vx_keep {st₀ t T' : State} {L : List Loc} (h0 : st₀.heap = H) (e1 : T'.heap = t.heap) (hS : va_S A0 H0 H locs) (hA : ∀ q, q < H.size → A1 q → A0 q) (hf : ∀ q, free q → A0 q) (hL : ∀ q ∈ L, free q.base) (hF : va_F A1 st₀ t) :
    H.size ≤ T'.heap.size ∧ (∀ q : Nat, q < H.size → ¬ A1 q → T'.heap[q]? = H[q]?) ∧ va_S A0 H0 T'.heap (locs ++ L) := by
  obtain ⟨hz, hk⟩ := hF
  rw [h0] at hz hk
  exact ⟨by rw [e1]; exact hz, fun q h1 h2 => by rw [e1]; exact hk q h1 h2,
    ⟨Nat.le_trans hS.1 (by rw [e1]; exact hz), fun q h1 h2 => by rw [e1, hk q (Nat.lt_of_lt_of_le h1 hS.1) (fun z => h2 (hA q (Nat.lt_of_lt_of_le h1 hS.1) z))]; exact hS.2.1 q h1 h2, fun q hq => by
      rcases List.mem_append.mp hq with h | h
      · exact hS.2.2 q h
      · exact hf _ (hL q h)⟩⟩
theorem vx_calli {S SX : Type} {post : Int32 → S → Prop} {px : SX → Prop} {B : S → State → Prop} {BX : String → SX → State → Prop} {AX : Nat → Prop} (hr : vx_Run p l e R s m args below meth c H locs cells slots mc ms (F0 m pc ls st0) rest (va_Qi post B A1 a) (vx_X px BX AX) free) (hS : va_S A0 H0 H locs) (hA : ∀ q, q < H.size → A1 q → A0 q) (hf : ∀ q, free q → A0 q) (hAX : ∀ q, q < H.size → AX q → A0 q)
    (kx : ∀ (E : String) (ce : Cell) (q9 : Addr) (u : SX) (t : State) (H1 : Heap) (locs1 : List Loc), t.heap = H1 → s.vm.Alike t.vm → px u → BX E u t → H.size ≤ H1.size → (∀ q : Nat, q < H.size → ¬ AX q → H1[q]? = H[q]?) → va_S A0 H0 H1 locs1 → H1[q9]? = some ce → ce.vm = .none → s.vm.findClass E = some ce.cls → vx_W p l e R s m args below meth c H1 locs1 (cells + mc) (slots + ms) Q (F0 m pc ls rest) q9)
    (kk : ∀ (r : Int32) (u : S) (t : State) (H1 : Heap) (locs1 : List Loc), t.heap = H1 → s.vm.Alike t.vm → post r u → B u t → H.size ≤ H1.size → (∀ q : Nat, q < H.size → ¬ A1 q → H1[q]? = H[q]?) → va_S A0 H0 H1 locs1 → W p l e R s m args below meth c H1 locs1 (cells + mc) (slots + ms) Q (F0 m (pc + 3) ls (.int r :: rest))) : W p l e R s m args below meth c H locs cells slots Q (F0 m pc ls st0) := by
  intro T hT X
  rcases hr T hT X with ⟨v, st₀, t, T', L, h0, X', hL, e1, e2, ⟨⟨r, u, hv, hp, hb⟩, hF⟩, st⟩ | ⟨q, st₀, t, T', L, E, ce, h0, X', hL, e1, e2, ⟨u, hp, hb, hF⟩, hce, hcv, hcl, st⟩
  · cases hv
    obtain ⟨k1, k2, k3⟩ := vx_keep h0 e1 hS hA hf hL hF
    obtain ⟨t2, a1, b1⟩ := kk r u t T'.heap (locs ++ L) e1.symm (by rw [← e2]; exact X'.warmed.alike) hp hb k1 k2 k3 T' rfl X'
    exact ⟨t2, st t2 a1, b1⟩
  · obtain ⟨k1, k2, k3⟩ := vx_keep h0 e1 hS hAX hf hL hF
    obtain ⟨t2, a1, b1⟩ := kx E ce q u t T'.heap (locs ++ L) e1.symm (by rw [← e2]; exact X'.warmed.alike) hp hb k1 k2 k3 (by rw [e1]; exact hce) hcv hcl T' rfl X'
    exact ⟨t2, st.trans a1, b1⟩
theorem vx_calll {S SX : Type} {post : Int64 → S → Prop} {px : SX → Prop} {B : S → State → Prop} {BX : String → SX → State → Prop} {AX : Nat → Prop} (hr : vx_Run p l e R s m args below meth c H locs cells slots mc ms (F0 m pc ls st0) rest (va_Ql post B A1 a) (vx_X px BX AX) free) (hS : va_S A0 H0 H locs) (hA : ∀ q, q < H.size → A1 q → A0 q) (hf : ∀ q, free q → A0 q) (hAX : ∀ q, q < H.size → AX q → A0 q)
    (kx : ∀ (E : String) (ce : Cell) (q9 : Addr) (u : SX) (t : State) (H1 : Heap) (locs1 : List Loc), t.heap = H1 → s.vm.Alike t.vm → px u → BX E u t → H.size ≤ H1.size → (∀ q : Nat, q < H.size → ¬ AX q → H1[q]? = H[q]?) → va_S A0 H0 H1 locs1 → H1[q9]? = some ce → ce.vm = .none → s.vm.findClass E = some ce.cls → vx_W p l e R s m args below meth c H1 locs1 (cells + mc) (slots + ms) Q (F0 m pc ls rest) q9)
    (kk : ∀ (r : Int64) (u : S) (t : State) (H1 : Heap) (locs1 : List Loc), t.heap = H1 → s.vm.Alike t.vm → post r u → B u t → H.size ≤ H1.size → (∀ q : Nat, q < H.size → ¬ A1 q → H1[q]? = H[q]?) → va_S A0 H0 H1 locs1 → W p l e R s m args below meth c H1 locs1 (cells + mc) (slots + ms) Q (F0 m (pc + 3) ls (.long r :: rest))) : W p l e R s m args below meth c H locs cells slots Q (F0 m pc ls st0) := by
  intro T hT X
  rcases hr T hT X with ⟨v, st₀, t, T', L, h0, X', hL, e1, e2, ⟨⟨r, u, hv, hp, hb⟩, hF⟩, st⟩ | ⟨q, st₀, t, T', L, E, ce, h0, X', hL, e1, e2, ⟨u, hp, hb, hF⟩, hce, hcv, hcl, st⟩
  · cases hv
    obtain ⟨k1, k2, k3⟩ := vx_keep h0 e1 hS hA hf hL hF
    obtain ⟨t2, a1, b1⟩ := kk r u t T'.heap (locs ++ L) e1.symm (by rw [← e2]; exact X'.warmed.alike) hp hb k1 k2 k3 T' rfl X'
    exact ⟨t2, st t2 a1, b1⟩
  · obtain ⟨k1, k2, k3⟩ := vx_keep h0 e1 hS hAX hf hL hF
    obtain ⟨t2, a1, b1⟩ := kx E ce q u t T'.heap (locs ++ L) e1.symm (by rw [← e2]; exact X'.warmed.alike) hp hb k1 k2 k3 (by rw [e1]; exact hce) hcv hcl T' rfl X'
    exact ⟨t2, st.trans a1, b1⟩
theorem vx_callf {S SX : Type} {post : UInt32 → S → Prop} {px : SX → Prop} {B : S → State → Prop} {BX : String → SX → State → Prop} {AX : Nat → Prop} (hr : vx_Run p l e R s m args below meth c H locs cells slots mc ms (F0 m pc ls st0) rest (va_Qf post B A1 a) (vx_X px BX AX) free) (hS : va_S A0 H0 H locs) (hA : ∀ q, q < H.size → A1 q → A0 q) (hf : ∀ q, free q → A0 q) (hAX : ∀ q, q < H.size → AX q → A0 q)
    (kx : ∀ (E : String) (ce : Cell) (q9 : Addr) (u : SX) (t : State) (H1 : Heap) (locs1 : List Loc), t.heap = H1 → s.vm.Alike t.vm → px u → BX E u t → H.size ≤ H1.size → (∀ q : Nat, q < H.size → ¬ AX q → H1[q]? = H[q]?) → va_S A0 H0 H1 locs1 → H1[q9]? = some ce → ce.vm = .none → s.vm.findClass E = some ce.cls → vx_W p l e R s m args below meth c H1 locs1 (cells + mc) (slots + ms) Q (F0 m pc ls rest) q9)
    (kk : ∀ (r : UInt32) (u : S) (t : State) (H1 : Heap) (locs1 : List Loc), t.heap = H1 → s.vm.Alike t.vm → post r u → B u t → H.size ≤ H1.size → (∀ q : Nat, q < H.size → ¬ A1 q → H1[q]? = H[q]?) → va_S A0 H0 H1 locs1 → W p l e R s m args below meth c H1 locs1 (cells + mc) (slots + ms) Q (F0 m (pc + 3) ls (.float r :: rest))) : W p l e R s m args below meth c H locs cells slots Q (F0 m pc ls st0) := by
  intro T hT X
  rcases hr T hT X with ⟨v, st₀, t, T', L, h0, X', hL, e1, e2, ⟨⟨r, u, hv, hp, hb⟩, hF⟩, st⟩ | ⟨q, st₀, t, T', L, E, ce, h0, X', hL, e1, e2, ⟨u, hp, hb, hF⟩, hce, hcv, hcl, st⟩
  · cases hv
    obtain ⟨k1, k2, k3⟩ := vx_keep h0 e1 hS hA hf hL hF
    obtain ⟨t2, a1, b1⟩ := kk r u t T'.heap (locs ++ L) e1.symm (by rw [← e2]; exact X'.warmed.alike) hp hb k1 k2 k3 T' rfl X'
    exact ⟨t2, st t2 a1, b1⟩
  · obtain ⟨k1, k2, k3⟩ := vx_keep h0 e1 hS hAX hf hL hF
    obtain ⟨t2, a1, b1⟩ := kx E ce q u t T'.heap (locs ++ L) e1.symm (by rw [← e2]; exact X'.warmed.alike) hp hb k1 k2 k3 (by rw [e1]; exact hce) hcv hcl T' rfl X'
    exact ⟨t2, st.trans a1, b1⟩
theorem vx_calld {S SX : Type} {post : UInt64 → S → Prop} {px : SX → Prop} {B : S → State → Prop} {BX : String → SX → State → Prop} {AX : Nat → Prop} (hr : vx_Run p l e R s m args below meth c H locs cells slots mc ms (F0 m pc ls st0) rest (va_Qd post B A1 a) (vx_X px BX AX) free) (hS : va_S A0 H0 H locs) (hA : ∀ q, q < H.size → A1 q → A0 q) (hf : ∀ q, free q → A0 q) (hAX : ∀ q, q < H.size → AX q → A0 q)
    (kx : ∀ (E : String) (ce : Cell) (q9 : Addr) (u : SX) (t : State) (H1 : Heap) (locs1 : List Loc), t.heap = H1 → s.vm.Alike t.vm → px u → BX E u t → H.size ≤ H1.size → (∀ q : Nat, q < H.size → ¬ AX q → H1[q]? = H[q]?) → va_S A0 H0 H1 locs1 → H1[q9]? = some ce → ce.vm = .none → s.vm.findClass E = some ce.cls → vx_W p l e R s m args below meth c H1 locs1 (cells + mc) (slots + ms) Q (F0 m pc ls rest) q9)
    (kk : ∀ (r : UInt64) (u : S) (t : State) (H1 : Heap) (locs1 : List Loc), t.heap = H1 → s.vm.Alike t.vm → post r u → B u t → H.size ≤ H1.size → (∀ q : Nat, q < H.size → ¬ A1 q → H1[q]? = H[q]?) → va_S A0 H0 H1 locs1 → W p l e R s m args below meth c H1 locs1 (cells + mc) (slots + ms) Q (F0 m (pc + 3) ls (.double r :: rest))) : W p l e R s m args below meth c H locs cells slots Q (F0 m pc ls st0) := by
  intro T hT X
  rcases hr T hT X with ⟨v, st₀, t, T', L, h0, X', hL, e1, e2, ⟨⟨r, u, hv, hp, hb⟩, hF⟩, st⟩ | ⟨q, st₀, t, T', L, E, ce, h0, X', hL, e1, e2, ⟨u, hp, hb, hF⟩, hce, hcv, hcl, st⟩
  · cases hv
    obtain ⟨k1, k2, k3⟩ := vx_keep h0 e1 hS hA hf hL hF
    obtain ⟨t2, a1, b1⟩ := kk r u t T'.heap (locs ++ L) e1.symm (by rw [← e2]; exact X'.warmed.alike) hp hb k1 k2 k3 T' rfl X'
    exact ⟨t2, st t2 a1, b1⟩
  · obtain ⟨k1, k2, k3⟩ := vx_keep h0 e1 hS hAX hf hL hF
    obtain ⟨t2, a1, b1⟩ := kx E ce q u t T'.heap (locs ++ L) e1.symm (by rw [← e2]; exact X'.warmed.alike) hp hb k1 k2 k3 (by rw [e1]; exact hce) hcv hcl T' rfl X'
    exact ⟨t2, st.trans a1, b1⟩
theorem vx_callv {S SX : Type} {post : S → Prop} {px : SX → Prop} {B : S → State → Prop} {BX : String → SX → State → Prop} {AX : Nat → Prop} (hr : vx_Run p l e R s m args below meth c H locs cells slots mc ms (F0 m pc ls st0) rest (va_Qv post B A1 a) (vx_X px BX AX) free) (hS : va_S A0 H0 H locs) (hA : ∀ q, q < H.size → A1 q → A0 q) (hf : ∀ q, free q → A0 q) (hAX : ∀ q, q < H.size → AX q → A0 q)
    (kx : ∀ (E : String) (ce : Cell) (q9 : Addr) (u : SX) (t : State) (H1 : Heap) (locs1 : List Loc), t.heap = H1 → s.vm.Alike t.vm → px u → BX E u t → H.size ≤ H1.size → (∀ q : Nat, q < H.size → ¬ AX q → H1[q]? = H[q]?) → va_S A0 H0 H1 locs1 → H1[q9]? = some ce → ce.vm = .none → s.vm.findClass E = some ce.cls → vx_W p l e R s m args below meth c H1 locs1 (cells + mc) (slots + ms) Q (F0 m pc ls rest) q9)
    (kk : ∀ (u : S) (t : State) (H1 : Heap) (locs1 : List Loc), t.heap = H1 → s.vm.Alike t.vm → post u → B u t → H.size ≤ H1.size → (∀ q : Nat, q < H.size → ¬ A1 q → H1[q]? = H[q]?) → va_S A0 H0 H1 locs1 → W p l e R s m args below meth c H1 locs1 (cells + mc) (slots + ms) Q (F0 m (pc + 3) ls (rest))) : W p l e R s m args below meth c H locs cells slots Q (F0 m pc ls st0) := by
  intro T hT X
  rcases hr T hT X with ⟨v, st₀, t, T', L, h0, X', hL, e1, e2, ⟨⟨u, hv, hp, hb⟩, hF⟩, st⟩ | ⟨q, st₀, t, T', L, E, ce, h0, X', hL, e1, e2, ⟨u, hp, hb, hF⟩, hce, hcv, hcl, st⟩
  · cases hv
    obtain ⟨k1, k2, k3⟩ := vx_keep h0 e1 hS hA hf hL hF
    obtain ⟨t2, a1, b1⟩ := kk u t T'.heap (locs ++ L) e1.symm (by rw [← e2]; exact X'.warmed.alike) hp hb k1 k2 k3 T' rfl X'
    exact ⟨t2, st t2 a1, b1⟩
  · obtain ⟨k1, k2, k3⟩ := vx_keep h0 e1 hS hAX hf hL hF
    obtain ⟨t2, a1, b1⟩ := kx E ce q u t T'.heap (locs ++ L) e1.symm (by rw [← e2]; exact X'.warmed.alike) hp hb k1 k2 k3 (by rw [e1]; exact hce) hcv hcl T' rfl X'
    exact ⟨t2, st.trans a1, b1⟩
/-- caught by the row x of this method's table; the rows ahead don't take it -/
theorem vx_catch {own name : String} {E : String} {ce : Cell} {q : Addr} (hown : s.vm.findClass own = some m.cls) (pre : List ExceptionTableEntry) (x : ExceptionTableEntry) (suf : List ExceptionTableEntry) (hsplit : c.exceptionTable.toList = pre ++ x :: suf)
    (hpass : ∀ z ∈ pre, covers z pc = false ∨ (z.catchType ≠ 0 ∧ ∃ nm : String, (Cond.classLink own z.catchType nm).before args s = true ∧ va_Nc E nm s)) (hx : covers x pc = true) (h0 : x.catchType ≠ 0)
    (hlink : (Cond.classLink own x.catchType name).before args s = true) (hcast : (Cond.castable E name).before args s = true) (hcell : H[q]? = some ce) (hv : ce.vm = .none) (hcl : s.vm.findClass E = some ce.cls)
    (kk : W p l e R s m args below meth c H locs cells slots Q (F0 m x.handlerPc ls [.ref q])) : vx_W p l e R s m args below meth c H locs cells slots Q (F0 m pc ls rest) q := by
  intro T hT X
  have hpl : e.platform.magicAccessors = ({} : Platform).magicAccessors := by rw [X.admits.platform]
  obtain ⟨c3, c4, hc3, hc4, hasg⟩ := Cond.castable_spec hcast
  cases Option.some.inj (hc3.symm.trans hcl)
  obtain ⟨c5, hc5, hcl5⟩ := Cond.classLink_spec hown hlink e.platform hpl
  cases Option.some.inj (hc4.symm.trans hc5)
  obtain ⟨vm', X', st⟩ := X.thenCaughtThrough q (g := F0 m pc ls rest) rfl (Steps.refl _) (by rw [hT]; exact hcell) (by rw [hv]; rfl) (by obtain ⟨k9, h9, -⟩ := Vm.findClass_spec hcl; exact ⟨k9, h9⟩) pre x suf hsplit
    (fun z hz => by
      rcases hpass z hz with h | ⟨hz0, nm, hl1, hn1⟩
      · exact Or.inl h
      · obtain ⟨c6, hc6, hcl6⟩ := Cond.classLink_spec hown hl1 e.platform hpl
        obtain ⟨a8, b8, h1, h2, h3⟩ := hn1
        cases Option.some.inj (h1.symm.trans hcl)
        cases Option.some.inj (h2.symm.trans hc6)
        exact Or.inr ⟨hz0, _, hcl6, h3⟩) hx (Or.inr ⟨h0, c4, hcl5, hasg⟩)
  obtain ⟨t, a1, b1⟩ := kk (T.setVm vm') hT X'
  exact ⟨t, st.trans a1, b1⟩
end Rows
section Ends
variable {p : Program} {l : Launch} {e : Env} {R : Room} {s : State} {m : MethodId} {args : Array Value} {below : List Frame} {meth : Method} {c : Code} {H : Heap} {locs : List Loc} {cells slots : Nat} {Q : State → Prop}
variable {mc ms : Nat} {free : Addr → Prop} {A0 A1 : Nat → Prop} {H0 : Heap} {a : Array Value} {ls : Array Slot} {st0 rest : List Value}
variable {Qc : Array Value → State → Outcome → State → Prop} {XC : String → State → State → Prop}
/-- what a body that may throw owes at its end -/
def vx_MQ (below : List Frame) (Qc : Array Value → State → Outcome → State → Prop) (XC : String → State → State → Prop) (a : Array Value) (s : State) (mc ms : Nat) (free : Addr → Prop) : State → Prop := fun t =>
  ∃ o, t.status = .running ∧ Ended t below o ∧ vx_Q Qc XC mc ms free a s o t
theorem vx_ret {g : JFrame} {mc ms : Nat} (k : W p l e R s m args below meth c H locs cells slots (MQ below Qc args s mc ms free) g) : W p l e R s m args below meth c H locs cells slots (vx_MQ below Qc XC args s mc ms free) g := by
  intro T hT X
  obtain ⟨t, a1, o, b1, b2, b3, b4⟩ := k T hT X
  exact ⟨t, a1, o, b1, b2, Or.inl ⟨b3, b4⟩⟩
/-- not caught here: it goes on to the caller -/
theorem vx_widen {g : JFrame} {q : Addr} {k n : Nat} (h1 : cells ≤ k) (h2 : slots ≤ n) (kk : vx_W p l e R s m args below meth c H locs k n Q g q) : vx_W p l e R s m args below meth c H locs cells slots Q g q := fun T hT X => kk T hT (stand_widen X h1 h2)
theorem vx_out {pc : Nat} {E : String} {ce : Cell} {q : Addr} {mc ms : Nat} (hout : ∀ x ∈ c.exceptionTable.toList, covers x pc = false) (hlocks : meth.locks = false) (hcell : H[q]? = some ce) (hv : ce.vm = .none) (hcl : s.vm.findClass E = some ce.cls)
    (hx : ∀ t : State, t.heap = H → s.vm.Alike t.vm → XC E s t) (hf : ∀ z ∈ locs, free z.base) (hc : cells ≤ mc) (hs : slots ≤ ms) :
    vx_W p l e R s m args below meth c H locs cells slots (vx_MQ below Qc XC args s mc ms free) (F0 m pc ls rest) q := by
  intro T hT X
  obtain ⟨st1, hrun, hend, hW, hsm⟩ := X.leaveThrown q (g := F0 m pc ls rest) rfl rfl rfl hout hlocks
  have hcell9 : (T.setFrames (.throwing q :: below)).heap[q]? = some ce := by
    show T.heap[q]? = some ce
    rw [hT]; exact hcell
  exact ⟨_, st1, .threw q, hrun, hend, Or.inr ⟨q, rfl, E, ce, locs, hx _ hT hW.alike, hcell9, hv, hcl, hW, hsm.mono hc hs, hf⟩⟩
theorem vx_frame {U : State} {k n : Nat} (h : s.sameButNew ({ U with vm := s.vm } : State) locs k n) : s.heap.size ≤ U.heap.size ∧ ∀ q : Nat, q < s.heap.size → (∀ z ∈ locs, z.base ≠ q) → U.heap[q]? = s.heap[q]? := by
  obtain ⟨-, h2, -, -, -, h6⟩ := h
  refine ⟨h2, fun q hq hz => ?_⟩
  obtain ⟨c9, e1, e2, e3, e4⟩ := h6 q _ (Array.getElem?_eq_getElem hq)
  have hs : c9.slots = (s.heap[q]).slots := Array.ext_getElem? fun i => e4 i fun hm => hz _ hm rfl
  have h9 : c9 = s.heap[q] := by
    rw [hs] at e2
    exact e2
  have e5 : U.heap[q]? = some c9 := e1
  rw [e5, h9, Array.getElem?_eq_getElem hq]
/-- the words of a throw but the four that speak of the heap -/
def vx_no (w : Cond) : Bool := decide (w ≠ .isRef (.static Bundle.tN "UNASSIGNED_STACK" Bundle.steD)) && decide (w ≠ .isRef (.static Bundle.tN "SUPPRESSED_SENTINEL" Bundle.listD)) && decide (w ≠ .laysStatic Bundle.tN "UNASSIGNED_STACK" Bundle.steD) && decide (w ≠ .laysStatic Bundle.tN "SUPPRESSED_SENTINEL" Bundle.listD)
def vx_at0 (own : String) (ic : Nat) (X : String) (names : List String) : List Cond := (Bundle.ownAtoms0 own ic X names).filter vx_no
def vx_atS (own : String) (ic : Nat) (X : String) (names : List String) : List Cond := (Bundle.ownAtoms own ic X names).filter vx_no
/-- a word that the tables alone decide, or a good one -/
def vx_ot (w : Cond) : Bool := w.onTables || goodWord w
theorem vx_ot_at {args a' : Array Value} {s U : State} {w : Cond} (hW : s.WarmedH U.vm) (hvm : s.vm = U.vm) (hg : vx_ot w = true) (h : w.before args s = true) : w.before a' U = true := by
  simp only [vx_ot, Bool.or_eq_true] at hg
  rcases hg with hg | hg
  · exact va_tabs hg hvm h
  · exact word_at hW (good_of_word hg) h
/-- a list's words: the good ones out of the method's own list, the others by premises of their own -/
theorem vx_hat {args : Array Value} {s : State} {L B : List Cond} (h1 : ∀ w ∈ L.filter goodWord, w.before args s = true) (h2 : ∀ w ∈ L.filter (fun w => !goodWord w), w ∈ B) (h3 : ∀ w ∈ B, w.before args s = true) : ∀ w ∈ L, w.before args s = true := by
  intro w hw
  by_cases g : goodWord w = true
  · exact h1 w (List.mem_filter.mpr ⟨hw, g⟩)
  · refine h3 w (h2 w (List.mem_filter.mpr ⟨hw, ?_⟩))
    show (!goodWord w) = true
    cases hgw : goodWord w
    · rfl
    · exact absurd hgw g
theorem vx_c {args : Array Value} {s : State} {w : Cond} {B : List Cond} (h : w.before args s = true) (t : ∀ w ∈ B, w.before args s = true) : ∀ w' ∈ w :: B, w'.before args s = true := fun w' h' => (List.mem_cons.mp h').elim (fun e => by rw [e]; exact h) (t w')
theorem vx_n {args : Array Value} {s : State} : ∀ w ∈ ([] : List Cond), w.before args s = true := fun _ h => nomatch h
theorem vx_own {args : Array Value} {s : State} {L : List Cond} (h1 : ∀ w ∈ L.filter vx_no, w.before args s = true)
    (hU : (Cond.isRef (.static Bundle.tN "UNASSIGNED_STACK" Bundle.steD)).before args s = true) (hN : (Cond.isRef (.static Bundle.tN "SUPPRESSED_SENTINEL" Bundle.listD)).before args s = true)
    (lU : (Cond.laysStatic Bundle.tN "UNASSIGNED_STACK" Bundle.steD).before args s = true) (lN : (Cond.laysStatic Bundle.tN "SUPPRESSED_SENTINEL" Bundle.listD).before args s = true) : ∀ w ∈ L, w.before args s = true := by
  intro w hw
  by_cases e1 : w = .isRef (.static Bundle.tN "UNASSIGNED_STACK" Bundle.steD)
  · rw [e1]; exact hU
  · by_cases e2 : w = .isRef (.static Bundle.tN "SUPPRESSED_SENTINEL" Bundle.listD)
    · rw [e2]; exact hN
    · by_cases e3 : w = .laysStatic Bundle.tN "UNASSIGNED_STACK" Bundle.steD
      · rw [e3]; exact lU
      · by_cases e4 : w = .laysStatic Bundle.tN "SUPPRESSED_SENTINEL" Bundle.listD
        · rw [e4]; exact lN
        · exact h1 w (List.mem_filter.mpr ⟨hw, by unfold vx_no; rw [decide_eq_true e1, decide_eq_true e2, decide_eq_true e3, decide_eq_true e4]; rfl⟩)
/-- where a static field lies, its class's statics cell in H -/
def vx_L (C n d : String) (A : Nat → Prop) (U : State) (H : Heap) : Prop := ∃ (c : ClassId) (k : Class) (i : Nat) (f : Field) (a : Nat) (cell : Cell), U.vm.findClass C = some c ∧ U.fieldFound? C n d = some (c, k, i, f) ∧ f.isStatic = true ∧ k.statics = some a ∧ H[a]? = some cell ∧ cell.vm.isStatics = true ∧ cell.cls = c ∧ f.slot < cell.slots.size ∧ k.staticTypes[f.slot]? = some f.type ∧ ¬ A a
theorem vx_L.moved {C n d : String} {A : Nat → Prop} {u U : State} {H : Heap} (hvm : u.vm.Alike U.vm) (h : vx_L C n d A u H) : vx_L C n d A U H := by
  obtain ⟨c, k, i, f, a, cell, h1, h2, h3, h4, h5, h6, h7, h8, h9, h10⟩ := h
  obtain ⟨k', hi', he⟩ := State.fieldFound?_setVm hvm h2
  exact ⟨c, k', i, f, a, cell, by rw [hvm.findClass]; exact h1, hi', h3, by rw [he]; exact h4, h5, h6, h7, h8, by rw [he]; exact h9, h10⟩
theorem vx_L.kept {C n d : String} {A : Nat → Prop} {U : State} {H H1 : Heap} (h : vx_L C n d A U H) (hq : ∀ a : Nat, a < H.size → ¬ A a → H1[a]? = H[a]?) : vx_L C n d A U H1 := by
  obtain ⟨c, k, i, f, a, cell, h1, h2, h3, h4, h5, h6, h7, h8, h9, h10⟩ := h
  exact ⟨c, k, i, f, a, cell, h1, h2, h3, h4, by rw [hq a (Array.getElem?_eq_some_iff.mp h5).1 h10]; exact h5, h6, h7, h8, h9, h10⟩
theorem vx_L.narrow {C n d : String} {A B : Nat → Prop} {U : State} {H : Heap} (h : vx_L C n d A U H) (hAB : ∀ q, B q → A q) : vx_L C n d B U H := by
  obtain ⟨c, k, i, f, a, cell, h1, h2, h3, h4, h5, h6, h7, h8, h9, h10⟩ := h
  exact ⟨c, k, i, f, a, cell, h1, h2, h3, h4, h5, h6, h7, h8, h9, fun z => h10 (hAB _ z)⟩
theorem vx_L.word {C n d : String} {A : Nat → Prop} {s : State} {args : Array Value} (h : vx_L C n d A s s.heap) : (Cond.laysStatic C n d).before args s = true := by
  obtain ⟨c, k, i, f, a, cell, h1, h2, h3, h4, h5, h6, h7, h8, h9, -⟩ := h
  show (Cond.laysStatic C n d).holds args s none s [] = true
  exact Cond.laysStatic_of h1 h2 h3 h4 h5 h6 h7 h8 h9
/-- .. and what it holds: null or some reference -/
def vx_Zq (C n d : String) (A : Nat → Prop) (U : State) (H : Heap) : Prop := va_Zq C n d A U H ∧ vx_L C n d A U H
theorem vx_Zq.moved {C n d : String} {A : Nat → Prop} {u U : State} {H : Heap} (hvm : u.vm.Alike U.vm) (h : vx_Zq C n d A u H) : vx_Zq C n d A U H := ⟨va_Zq.moved hvm h.1, vx_L.moved hvm h.2⟩
theorem vx_Zq.kept {C n d : String} {A : Nat → Prop} {U : State} {H H1 : Heap} (h : vx_Zq C n d A U H) (hq : ∀ a : Nat, a < H.size → ¬ A a → H1[a]? = H[a]?) : vx_Zq C n d A U H1 := ⟨va_Zq.kept h.1 hq, vx_L.kept h.2 hq⟩
theorem vx_Zq.narrow {C n d : String} {A B : Nat → Prop} {U : State} {H : Heap} (h : vx_Zq C n d A U H) (hAB : ∀ q, B q → A q) : vx_Zq C n d B U H := ⟨va_Zq.narrow h.1 hAB, vx_L.narrow h.2 hAB⟩
theorem vx_Zqof {args : Array Value} {s : State} {C n d : String} {A : Nat → Prop} (hl : (Cond.laysStatic C n d).before args s = true) (hini : (Cond.initialized C).before args s = true) (h : (Cond.isRef (.static C n d)).before args s = true) (hA : ∀ a : Nat, a < s.heap.size → ¬ A a) : vx_Zq C n d A s s.heap := by
  refine ⟨va_Zqof hl hini h hA, ?_⟩
  obtain ⟨c, k, i, f, a, cell, h1, h2, h3, h4, h5, h6, h7, h8, h9⟩ := Cond.laysStatic_spec hl
  exact ⟨c, k, i, f, a, cell, h1, h2, h3, h4, h5, h6, h7, h8, h9, hA a (Array.getElem?_eq_some_iff.mp h5).1⟩
theorem vx_isRef {C n d : String} {v : Value} {A : Nat → Prop} {s : State} {args : Array Value} (h : va_Z C n d v A s s.heap) (hv : v.isRef = true) : (Cond.isRef (.static C n d)).before args s = true := by
  obtain ⟨cf, kf, fi, f, a, cell, h1, h2, h3, h4, h5, h6, h7, -⟩ := h
  have he : (Term.static C n d).eval args s none [] s = some v := by
    simp [Term.eval, State.fieldNamed?, h1, h2, h4, h5, h6, h7]
  simp only [Cond.before, Cond.holds, Cond.value, he]
  cases v <;> simp_all [Value.isRef]
theorem vx_isRefq {C n d : String} {A : Nat → Prop} {s : State} {args : Array Value} (h : va_Zq C n d A s s.heap) : (Cond.isRef (.static C n d)).before args s = true := by
  rcases h with h | ⟨t, h⟩
  · exact vx_isRef h rfl
  · exact vx_isRef h rfl
/-- the same frame, seen from here: as if the method were called anew in this heap -/
theorem vx_rebase {T : State} (X : Stand p l e R s m args below meth c T locs cells slots) {R' : Room} (hf : R'.frames ≤ R.frames) (hl : R'.locals ≤ R.locals) (hc : cells + R'.cells ≤ R.cells) (hs : slots + R'.slots ≤ R.slots) :
    Stand p l e R' ((T.setVm s.vm).setFrames (.invoking m args :: below)) m args below meth c T [] 0 0 := by
  have htop : (T.setVm s.vm).topJava?.isSome := X.here.top
  have hF : ((T.setVm s.vm).setFrames (.invoking m args :: below)).frames = .invoking m args :: below := State.frames_setFrames _ (State.cur_lt_of_top htop)
  obtain ⟨g₀, hg0⟩ := Option.isSome_iff_exists.mp htop
  obtain ⟨r, hr⟩ := State.topJava?_eq_some.mp hg0
  have hl9 : e.platform.stackLimits (T.setVm s.vm).me = e.platform.stackLimits s.me := X.limits
  have hb9 : (T.setVm s.vm).me.stackBytes = s.me.stackBytes := X.bytes
  refine ⟨X.admits, X.cas, X.clock, hF, ?_, X.hears, X.method, X.code, X.here, X.tail, X.warmed, ?_, ?_, ?_⟩
  · have h := X.room
    have hU : ((T.setVm s.vm).setFrames (.invoking m args :: below)).localsInUse = s.localsInUse := by
      rw [State.localsInUse_invoking hF (meth := meth) (c := c) X.method X.code, State.localsInUse_invoking X.frames X.method X.code]
    simp only [State.hasRoom, Bool.and_eq_true, decide_eq_true_eq] at h ⊢
    obtain ⟨⟨⟨⟨h1, h2, h3, h4, h5, h6⟩, h7⟩, h8⟩, h9⟩ := h
    rw [X.frames, List.length_cons] at h2 h3
    have q1 := X.heapSize
    have q2 := X.used
    simp only [hF, hU, List.length_cons, State.stackLimits_setFrames, State.stackBytes_setFrames, hl9, hb9]
    refine ⟨⟨⟨⟨by omega, by omega, by omega, by omega, by omega, h6⟩, ?_⟩, ?_⟩, X.book⟩
    · show T.heap.size + R'.cells ≤ e.platform.maxCells
      omega
    · show T.slotsUsed + R'.slots ≤ e.platform.maxSlots
      omega
  · rw [State.stackLimits_setFrames]; rfl
  · rw [State.stackBytes_setFrames]; rfl
  · refine ⟨?_, Nat.le_refl _, Nat.le_refl _, ?_, ?_, fun a c9 h9 => ⟨c9, h9, rfl, rfl, fun _ _ => rfl⟩⟩
    · obtain ⟨t, ht, -⟩ := State.frames_cons hr
      show T.setVm s.vm = { ((T.setVm s.vm).setFrames (.invoking m args :: below)).setFrames (T.setVm s.vm).frames with heap := T.heap, slotsUsed := T.slotsUsed }
      rw [State.setFrames_setFrames, State.setFrames_self ht]
      rfl
    · show T.slotsUsed = T.slotsUsed + ((T.heap.toList.drop T.heap.size).map (·.slots.size)).sum
      rw [List.drop_eq_nil_of_le (Nat.le_of_eq Array.length_toList)]
      rfl
    · show ((T.heap.toList.drop T.heap.size).map (·.slots.size)).sum ≤ 0
      rw [List.drop_eq_nil_of_le (Nat.le_of_eq Array.length_toList)]
      exact Nat.le_refl _
/-- 'throw new E()': new; dup; invokespecial; athrow -/
theorem vx_throw0 {cc : ByteArray} {pc : Nat} (hexec : p.tables.exec = Jvm.exec) (hb : c.code = cc) (hl : l.stackTraces = false) {own cls : String} {names : List String} {ik ic mc ms : Nat} {A : Nat → Prop}
    (hown : s.vm.findClass own = some m.cls) (hcls : Bundle.fit cls = true) (hnames : ∀ n ∈ names, Bundle.fit n = true)
    (hk : (Cond.classLink own ik cls).before args s = true) (hini : (Cond.initialized cls).before args s = true) (hat : ∀ w ∈ vx_at0 own ic cls names, w.before args s = true)
    (hgood : ∀ w ∈ Cond.classLink own ik cls :: Cond.initialized cls :: vx_at0 own ic cls names, vx_ot w = true)
    (hU : vx_Zq Bundle.tN "UNASSIGNED_STACK" Bundle.steD A s s.heap) (hN : vx_Zq Bundle.tN "SUPPRESSED_SENTINEL" Bundle.listD A s s.heap) (hS : va_S A s.heap H locs) (hsize : ls.size = c.maxLocals)
    (d0 : decode cc pc = .ok (.new ik, 3)) (d3 : decode cc (pc + 3) = .ok (.dup, 1)) (d4 : decode cc (pc + 4) = .ok (.invokespecial ic, 3)) (d7 : decode cc (pc + 7) = .ok (.athrow, 1))
    (hout : ∀ x ∈ c.exceptionTable.toList, covers x (pc + 7) = false)
    (hRframes : names.length + 3 < R.frames) (hRlocals : (rest.map fun v => v.category).sum + (13 * (names.length + 1) + 42) ≤ R.locals) (hRcells : cells + 1 ≤ R.cells) (hRslots : slots + 6 ≤ R.slots) (hlocks : meth.locks = false)
    (hx : ∀ t : State, s.vm.Alike t.vm → H.size ≤ t.heap.size → (∀ q : Nat, q < H.size → t.heap[q]? = H[q]?) → XC cls s t)
    (hf : ∀ z ∈ locs, free z.base) (hc : cells + 1 ≤ mc) (hs : slots + 6 ≤ ms) :
    W p l e R s m args below meth c H locs cells slots (vx_MQ below Qc XC args s mc ms free) (F0 m pc ls rest) := by
  intro T hT X
  have htr : e.platform.stackTraces = false := (show e.platform.stackTraces = l.stackTraces by rw [X.admits.platform]).trans hl
  have Y := vx_rebase X (R' := { frames := R.frames, locals := R.locals, cells := 1, slots := 6 }) (Nat.le_refl _) (Nat.le_refl _) hRcells hRslots
  obtain ⟨s', hA⟩ : ∃ z, z = (T.setVm s.vm).setFrames (.invoking m args :: below) := ⟨_, rfl⟩
  rw [← hA] at Y
  have hvm : s'.vm = s.vm := by rw [hA]; rfl
  have hhp : s'.heap = H := by rw [hA]; exact hT
  have hW0 : s.WarmedH s'.vm := by rw [hvm]; exact State.WarmedH.refl s
  have hat' : ∀ w ∈ vx_at0 own ic cls names, w.before args s' = true := fun w hw => vx_ot_at hW0 hvm.symm (hgood w (List.mem_cons_of_mem _ (List.mem_cons_of_mem _ hw))) (hat w hw)
  have hk' : (Cond.classLink own ik cls).before args s' = true := vx_ot_at hW0 hvm.symm (hgood _ List.mem_cons_self) hk
  have hini' : (Cond.initialized cls).before args s' = true := vx_ot_at hW0 hvm.symm (hgood _ (List.mem_cons_of_mem _ List.mem_cons_self)) hini
  have hU' : vx_Zq Bundle.tN "UNASSIGNED_STACK" Bundle.steD A s' s'.heap := by rw [hhp]; exact vx_Zq.moved hW0.alike (hU.kept hS.2.1)
  have hN' : vx_Zq Bundle.tN "SUPPRESSED_SENTINEL" Bundle.listD A s' s'.heap := by rw [hhp]; exact vx_Zq.moved hW0.alike (hN.kept hS.2.1)
  have h : ∀ w ∈ Bundle.ownAtoms0 own ic cls names, w.before args s' = true := vx_own hat' (vx_isRefq hU'.1) (vx_isRefq hN'.1) hU'.2.word hN'.2.word
  have hown' : s'.vm.findClass own = some m.cls := by rw [hvm]; exact hown
  have hins : (Cond.instantiable cls 6).before args s' = true := h _ (by simp [Bundle.ownAtoms0])
  obtain ⟨vm₁, cX, kX, hfX, hkX, -, -, X₁, st1⟩ := Y.newCold hexec (own := own) (C := cls) (index := ik) (n := 6) hown' hk' hins hini'
    (g := F0 m pc ls rest) rfl (by rw [hb]; exact d0) (Nat.le_refl _) (Nat.le_refl _)
  generalize hT1 : (T.setVm vm₁).pushCell { cls := cX, slots := kX.instanceTypes.map defaultValue, vm := .none } = T1 at X₁ st1
  have hcat : (Value.ref T.heap.size).category = 1 := rfl
  have hcellA : T1.heap[T.heap.size]? = some (freshCell cX kX) := by rw [← hT1]; exact State.heap_pushCell_size _ _
  have d3' : decode c.code (pc + 3) = .ok (.dup, 1) := by rw [hb]; exact d3
  obtain ⟨U, hsteps, hrun, hend, hW, hsame, ce, hce, hO⟩ := X₁.ctorThrow0 hexec htr (own := own) (cls := cls) (names := names) (ic := ic) hown' hcls hnames h (fun x hx => nomatch hx) hfX hkX hcellA (by rw [hhp, hT]; exact Nat.le_refl _)
    (g := { method := m, pc := pc + 4, locals := ls, stack := .ref T.heap.size :: .ref T.heap.size :: rest, locked := none }) rfl hsize rfl rfl (rest := rest) rfl
    (by rw [hb]; exact d4) (by rw [hb]; exact d7) hout hRframes (by simp only [List.map_cons, List.sum_cons, hcat]; omega) hlocks
  obtain ⟨f1, f2⟩ := vx_frame hsame
  rw [hhp] at f1 f2
  have hWs : s.WarmedH U.vm := State.WarmedH.trans hW0 hW
  have hcl : s.vm.findClass cls = some ce.cls := by
    have h9 := hO.cls
    rw [hvm] at h9
    exact h9
  have hall : s.sameButNew ({ U with vm := s.vm } : State) locs mc ms := by
    subst hA
    obtain ⟨e1, e2⟩ := hsame
    rw [State.setFrames_setFrames] at e1
    have h2 : (T.setVm s.vm).sameButNew ({ U with vm := s.vm } : State) [] (0 + 1) (0 + 6) := ⟨e1, e2⟩
    have h3 := X.same.trans h2
    rw [List.append_nil] at h3
    exact h3.mono hc hs
  refine ⟨U, ?_, .threw T.heap.size, hrun, hend, Or.inr ⟨T.heap.size, rfl, cls, ce, locs, hx U hWs.alike f1 (fun q hq => f2 q hq (fun z hz => nomatch hz)), hce, hO.vm, hcl, hWs, hall, hf⟩⟩
  refine st1 _ ?_
  show Steps p.tables e below (T1.setTop { method := m, pc := pc + 3, locals := ls, stack := .ref T.heap.size :: rest, locked := none }) _
  jvm_step X₁.here [X₁.here.top, hexec, d3', Value.category]
  exact hsteps
/-- 'throw new E("text")': new; dup; ldc; invokespecial; athrow -/
theorem vx_throwS {cc : ByteArray} {pc : Nat} (hexec : p.tables.exec = Jvm.exec) (hb : c.code = cc) (hl : l.stackTraces = false) {own cls text : String} {names : List String} {ik is ic mc ms sa : Nat} {A : Nat → Prop}
    (hown : s.vm.findClass own = some m.cls) (hcls : Bundle.fit cls = true) (hnames : ∀ n ∈ names, Bundle.fit n = true)
    (hk : (Cond.classLink own ik cls).before args s = true) (hini : (Cond.initialized cls).before args s = true) (hstr : vk_R own is text sa s) (hat : ∀ w ∈ vx_atS own ic cls names, w.before args s = true)
    (hgood : ∀ w ∈ Cond.classLink own ik cls :: Cond.initialized cls :: vx_atS own ic cls names, vx_ot w = true)
    (hU : vx_Zq Bundle.tN "UNASSIGNED_STACK" Bundle.steD A s s.heap) (hN : vx_Zq Bundle.tN "SUPPRESSED_SENTINEL" Bundle.listD A s s.heap) (hS : va_S A s.heap H locs) (hsize : ls.size = c.maxLocals)
    (d0 : decode cc pc = .ok (.new ik, 3)) (d3 : decode cc (pc + 3) = .ok (.dup, 1)) (d4 : decode cc (pc + 4) = .ok (.ldc is, 2)) (d6 : decode cc (pc + 6) = .ok (.invokespecial ic, 3)) (d9 : decode cc (pc + 9) = .ok (.athrow, 1))
    (hout : ∀ x ∈ c.exceptionTable.toList, covers x (pc + 9) = false)
    (hRframes : names.length + 3 < R.frames) (hRlocals : (rest.map fun v => v.category).sum + (13 * (names.length + 1) + 43) ≤ R.locals) (hRcells : cells + 1 ≤ R.cells) (hRslots : slots + 6 ≤ R.slots) (hlocks : meth.locks = false)
    (hx : ∀ t : State, s.vm.Alike t.vm → H.size ≤ t.heap.size → (∀ q : Nat, q < H.size → t.heap[q]? = H[q]?) → XC cls s t)
    (hf : ∀ z ∈ locs, free z.base) (hc : cells + 1 ≤ mc) (hs : slots + 6 ≤ ms) :
    W p l e R s m args below meth c H locs cells slots (vx_MQ below Qc XC args s mc ms free) (F0 m pc ls rest) := by
  intro T hT X
  have htr : e.platform.stackTraces = false := (show e.platform.stackTraces = l.stackTraces by rw [X.admits.platform]).trans hl
  have Y := vx_rebase X (R' := { frames := R.frames, locals := R.locals, cells := 1, slots := 6 }) (Nat.le_refl _) (Nat.le_refl _) hRcells hRslots
  obtain ⟨s', hA⟩ : ∃ z, z = (T.setVm s.vm).setFrames (.invoking m args :: below) := ⟨_, rfl⟩
  rw [← hA] at Y
  have hvm : s'.vm = s.vm := by rw [hA]; rfl
  have hhp : s'.heap = H := by rw [hA]; exact hT
  have hW0 : s.WarmedH s'.vm := by rw [hvm]; exact State.WarmedH.refl s
  have hat' : ∀ w ∈ vx_atS own ic cls names, w.before args s' = true := fun w hw => vx_ot_at hW0 hvm.symm (hgood w (List.mem_cons_of_mem _ (List.mem_cons_of_mem _ hw))) (hat w hw)
  have hk' : (Cond.classLink own ik cls).before args s' = true := vx_ot_at hW0 hvm.symm (hgood _ List.mem_cons_self) hk
  have hini' : (Cond.initialized cls).before args s' = true := vx_ot_at hW0 hvm.symm (hgood _ (List.mem_cons_of_mem _ List.mem_cons_self)) hini
  have hU' : vx_Zq Bundle.tN "UNASSIGNED_STACK" Bundle.steD A s' s'.heap := by rw [hhp]; exact vx_Zq.moved hW0.alike (hU.kept hS.2.1)
  have hN' : vx_Zq Bundle.tN "SUPPRESSED_SENTINEL" Bundle.listD A s' s'.heap := by rw [hhp]; exact vx_Zq.moved hW0.alike (hN.kept hS.2.1)
  have h : ∀ w ∈ Bundle.ownAtoms own ic cls names, w.before args s' = true := vx_own hat' (vx_isRefq hU'.1) (vx_isRefq hN'.1) hU'.2.word hN'.2.word
  have hown' : s'.vm.findClass own = some m.cls := by rw [hvm]; exact hown
  have hins : (Cond.instantiable cls 6).before args s' = true := h _ (by simp [Bundle.ownAtoms])
  obtain ⟨vm₁, cX, kX, hfX, hkX, -, -, X₁, st1⟩ := Y.newCold hexec (own := own) (C := cls) (index := ik) (n := 6) hown' hk' hins hini'
    (g := F0 m pc ls rest) rfl (by rw [hb]; exact d0) (Nat.le_refl _) (Nat.le_refl _)
  generalize hT1 : (T.setVm vm₁).pushCell { cls := cX, slots := kX.instanceTypes.map defaultValue, vm := .none } = T1 at X₁ st1
  have hcat : (Value.ref T.heap.size).category = 1 := rfl
  have hcellA : T1.heap[T.heap.size]? = some (freshCell cX kX) := by rw [← hT1]; exact State.heap_pushCell_size _ _
  have d3' : decode c.code (pc + 3) = .ok (.dup, 1) := by rw [hb]; exact d3
  have d4' : decode c.code (pc + 4) = .ok (.ldc is, 2) := by rw [hb]; exact d4
  have hstr' : vk_R own is text sa s' := vk_R.warm hW0 hstr
  obtain ⟨U, hsteps, hrun, hend, hW, hsame, ce, hce, hO⟩ := X₁.ctorThrowS hexec htr (own := own) (cls := cls) (names := names) (ic := ic) hown' hcls hnames h (fun x hx => nomatch hx) hfX hkX hcellA (by rw [hhp, hT]; exact Nat.le_refl _) (msg := .ref sa) rfl
    (g := { method := m, pc := pc + 6, locals := ls, stack := .ref sa :: .ref T.heap.size :: .ref T.heap.size :: rest, locked := none }) rfl hsize rfl rfl (rest := rest) rfl
    (by rw [hb]; exact d6) (by rw [hb]; exact d9) hout hRframes (by simp only [List.map_cons, List.sum_cons, hcat]; omega) hlocks
  obtain ⟨f1, f2⟩ := vx_frame hsame
  rw [hhp] at f1 f2
  have hWs : s.WarmedH U.vm := State.WarmedH.trans hW0 hW
  have hcl : s.vm.findClass cls = some ce.cls := by
    have h9 := hO.cls
    rw [hvm] at h9
    exact h9
  have hall : s.sameButNew ({ U with vm := s.vm } : State) locs mc ms := by
    subst hA
    obtain ⟨e1, e2⟩ := hsame
    rw [State.setFrames_setFrames] at e1
    have h2 : (T.setVm s.vm).sameButNew ({ U with vm := s.vm } : State) [] (0 + 1) (0 + 6) := ⟨e1, e2⟩
    have h3 := X.same.trans h2
    rw [List.append_nil] at h3
    exact h3.mono hc hs
  refine ⟨U, ?_, .threw T.heap.size, hrun, hend, Or.inr ⟨T.heap.size, rfl, cls, ce, locs, hx U hWs.alike f1 (fun q hq => f2 q hq (fun z hz => nomatch hz)), hce, hO.vm, hcl, hWs, hall, hf⟩⟩
  refine st1 _ ?_
  show Steps p.tables e below (T1.setTop { method := m, pc := pc + 3, locals := ls, stack := .ref T.heap.size :: rest, locked := none }) _
  jvm_step X₁.here [X₁.here.top, hexec, d3', Value.category]
  exact X₁.ldcString hexec (own := own) (text := text) (index := is) (a := sa) hown' hstr'.1 hstr'.2
    (g := { method := m, pc := pc + 4, locals := ls, stack := .ref T.heap.size :: .ref T.heap.size :: rest, locked := none }) rfl d4' _ hsteps
/-- 'throw new E("text")', the text by a wide index -/
theorem vx_throwSW {cc : ByteArray} {pc : Nat} (hexec : p.tables.exec = Jvm.exec) (hb : c.code = cc) (hl : l.stackTraces = false) {own cls text : String} {names : List String} {ik is ic mc ms sa : Nat} {A : Nat → Prop}
    (hown : s.vm.findClass own = some m.cls) (hcls : Bundle.fit cls = true) (hnames : ∀ n ∈ names, Bundle.fit n = true)
    (hk : (Cond.classLink own ik cls).before args s = true) (hini : (Cond.initialized cls).before args s = true) (hstr : vk_R own is text sa s) (hat : ∀ w ∈ vx_atS own ic cls names, w.before args s = true)
    (hgood : ∀ w ∈ Cond.classLink own ik cls :: Cond.initialized cls :: vx_atS own ic cls names, vx_ot w = true)
    (hU : vx_Zq Bundle.tN "UNASSIGNED_STACK" Bundle.steD A s s.heap) (hN : vx_Zq Bundle.tN "SUPPRESSED_SENTINEL" Bundle.listD A s s.heap) (hS : va_S A s.heap H locs) (hsize : ls.size = c.maxLocals)
    (d0 : decode cc pc = .ok (.new ik, 3)) (d3 : decode cc (pc + 3) = .ok (.dup, 1)) (d4 : decode cc (pc + 4) = .ok (.ldc_w is, 3)) (d7 : decode cc (pc + 7) = .ok (.invokespecial ic, 3)) (d10 : decode cc (pc + 10) = .ok (.athrow, 1))
    (hout : ∀ x ∈ c.exceptionTable.toList, covers x (pc + 10) = false)
    (hRframes : names.length + 3 < R.frames) (hRlocals : (rest.map fun v => v.category).sum + (13 * (names.length + 1) + 43) ≤ R.locals) (hRcells : cells + 1 ≤ R.cells) (hRslots : slots + 6 ≤ R.slots) (hlocks : meth.locks = false)
    (hx : ∀ t : State, s.vm.Alike t.vm → H.size ≤ t.heap.size → (∀ q : Nat, q < H.size → t.heap[q]? = H[q]?) → XC cls s t)
    (hf : ∀ z ∈ locs, free z.base) (hc : cells + 1 ≤ mc) (hs : slots + 6 ≤ ms) :
    W p l e R s m args below meth c H locs cells slots (vx_MQ below Qc XC args s mc ms free) (F0 m pc ls rest) := by
  intro T hT X
  have htr : e.platform.stackTraces = false := (show e.platform.stackTraces = l.stackTraces by rw [X.admits.platform]).trans hl
  have Y := vx_rebase X (R' := { frames := R.frames, locals := R.locals, cells := 1, slots := 6 }) (Nat.le_refl _) (Nat.le_refl _) hRcells hRslots
  obtain ⟨s', hA⟩ : ∃ z, z = (T.setVm s.vm).setFrames (.invoking m args :: below) := ⟨_, rfl⟩
  rw [← hA] at Y
  have hvm : s'.vm = s.vm := by rw [hA]; rfl
  have hhp : s'.heap = H := by rw [hA]; exact hT
  have hW0 : s.WarmedH s'.vm := by rw [hvm]; exact State.WarmedH.refl s
  have hat' : ∀ w ∈ vx_atS own ic cls names, w.before args s' = true := fun w hw => vx_ot_at hW0 hvm.symm (hgood w (List.mem_cons_of_mem _ (List.mem_cons_of_mem _ hw))) (hat w hw)
  have hk' : (Cond.classLink own ik cls).before args s' = true := vx_ot_at hW0 hvm.symm (hgood _ List.mem_cons_self) hk
  have hini' : (Cond.initialized cls).before args s' = true := vx_ot_at hW0 hvm.symm (hgood _ (List.mem_cons_of_mem _ List.mem_cons_self)) hini
  have hU' : vx_Zq Bundle.tN "UNASSIGNED_STACK" Bundle.steD A s' s'.heap := by rw [hhp]; exact vx_Zq.moved hW0.alike (hU.kept hS.2.1)
  have hN' : vx_Zq Bundle.tN "SUPPRESSED_SENTINEL" Bundle.listD A s' s'.heap := by rw [hhp]; exact vx_Zq.moved hW0.alike (hN.kept hS.2.1)
  have h : ∀ w ∈ Bundle.ownAtoms own ic cls names, w.before args s' = true := vx_own hat' (vx_isRefq hU'.1) (vx_isRefq hN'.1) hU'.2.word hN'.2.word
  have hown' : s'.vm.findClass own = some m.cls := by rw [hvm]; exact hown
  have hins : (Cond.instantiable cls 6).before args s' = true := h _ (by simp [Bundle.ownAtoms])
  obtain ⟨vm₁, cX, kX, hfX, hkX, -, -, X₁, st1⟩ := Y.newCold hexec (own := own) (C := cls) (index := ik) (n := 6) hown' hk' hins hini'
    (g := F0 m pc ls rest) rfl (by rw [hb]; exact d0) (Nat.le_refl _) (Nat.le_refl _)
  generalize hT1 : (T.setVm vm₁).pushCell { cls := cX, slots := kX.instanceTypes.map defaultValue, vm := .none } = T1 at X₁ st1
  have hcat : (Value.ref T.heap.size).category = 1 := rfl
  have hcellA : T1.heap[T.heap.size]? = some (freshCell cX kX) := by rw [← hT1]; exact State.heap_pushCell_size _ _
  have d3' : decode c.code (pc + 3) = .ok (.dup, 1) := by rw [hb]; exact d3
  have d4' : decode c.code (pc + 4) = .ok (.ldc_w is, 3) := by rw [hb]; exact d4
  have hstr' : vk_R own is text sa s' := vk_R.warm hW0 hstr
  obtain ⟨U, hsteps, hrun, hend, hW, hsame, ce, hce, hO⟩ := X₁.ctorThrowS hexec htr (own := own) (cls := cls) (names := names) (ic := ic) hown' hcls hnames h (fun x hx => nomatch hx) hfX hkX hcellA (by rw [hhp, hT]; exact Nat.le_refl _) (msg := .ref sa) rfl
    (g := { method := m, pc := pc + 7, locals := ls, stack := .ref sa :: .ref T.heap.size :: .ref T.heap.size :: rest, locked := none }) rfl hsize rfl rfl (rest := rest) rfl
    (by rw [hb]; exact d7) (by rw [hb]; exact d10) hout hRframes (by simp only [List.map_cons, List.sum_cons, hcat]; omega) hlocks
  obtain ⟨f1, f2⟩ := vx_frame hsame
  rw [hhp] at f1 f2
  have hWs : s.WarmedH U.vm := State.WarmedH.trans hW0 hW
  have hcl : s.vm.findClass cls = some ce.cls := by
    have h9 := hO.cls
    rw [hvm] at h9
    exact h9
  have hall : s.sameButNew ({ U with vm := s.vm } : State) locs mc ms := by
    subst hA
    obtain ⟨e1, e2⟩ := hsame
    rw [State.setFrames_setFrames] at e1
    have h2 : (T.setVm s.vm).sameButNew ({ U with vm := s.vm } : State) [] (0 + 1) (0 + 6) := ⟨e1, e2⟩
    have h3 := X.same.trans h2
    rw [List.append_nil] at h3
    exact h3.mono hc hs
  refine ⟨U, ?_, .threw T.heap.size, hrun, hend, Or.inr ⟨T.heap.size, rfl, cls, ce, locs, hx U hWs.alike f1 (fun q hq => f2 q hq (fun z hz => nomatch hz)), hce, hO.vm, hcl, hWs, hall, hf⟩⟩
  refine st1 _ ?_
  show Steps p.tables e below (T1.setTop { method := m, pc := pc + 3, locals := ls, stack := .ref T.heap.size :: rest, locked := none }) _
  jvm_step X₁.here [X₁.here.top, hexec, d3', Value.category]
  exact X₁.ldcStringW hexec (own := own) (text := text) (index := is) (a := sa) hown' hstr'.1 hstr'.2
    (g := { method := m, pc := pc + 4, locals := ls, stack := .ref T.heap.size :: .ref T.heap.size :: rest, locked := none }) rfl d4' _ hsteps
end Ends
section Bodies
variable {l : Launch}
theorem vx_ofW {y : MethodName} {ws ws' : List Cond} {rm : Room} {Pc : Array Value → State → Prop} {Qc : Array Value → State → Outcome → State → Prop} {XC : String → State → State → Prop} {mc ms : Nat} {free : Addr → Prop} {cc : ByteArray} {maxL : Nat} {ret : Option FieldType}
    (hy : plainName y.cls = true) (hw : ws = Cond.code y cc maxL ret :: ws')
    (body : ∀ p e s m args below meth c s₁, BodyLoose p l y (headSpec ws rm) cc maxL ret e s m args below meth c s₁ → c.maxLocals = maxL → (∀ x ∈ c.exceptionTable.toList, False) → Pc args s →
      W p l e (headSpec ws rm).room s m args below meth c s.heap [] 0 0 (vx_MQ below Qc XC args s mc ms free) (entryFrame m args maxL)) : vx_Met l y ws rm Pc Qc XC mc ms free := by
  refine MetFree.of_bodyS (code := cc) (maxLocals := maxL) (ret := ret) hy ?_ ?_
  · intro args s m h hn
    obtain ⟨meth, c, h1, h2, h3, h4, h5, h6, -, -⟩ := Cond.code_spec hn (atoms_spec (ws := ws) h _ (by rw [hw]; exact List.mem_cons_self))
    exact ⟨meth, c, h1, h2, h3, h4, h5, h6⟩
  · intro p e s m args below meth c s₁ B hml hP _
    have hh0 : s₁.heap = s.heap := by rw [B.state]; rfl
    have ht : ∀ x ∈ c.exceptionTable.toList, False := by
      obtain ⟨meth9, c9, h1, h2, -, -, -, -, h7, -⟩ := Cond.code_spec B.named (atoms_spec (ws := ws) B.pre _ (by rw [hw]; exact List.mem_cons_self))
      cases Option.some.inj (h1.symm.trans B.method)
      cases Option.some.inj (h2.symm.trans (Stand.of_body B).code)
      intro x hx
      rw [Array.isEmpty_iff.mp h7] at hx
      cases hx
    obtain ⟨t, a1, o, b1, b2, b3⟩ := body p e s m args below meth c s₁ B hml ht hP s₁ hh0 (Stand.of_body B)
    exact ⟨t, o, a1, b1, b2, b3⟩
/-- the table of a body with handlers -/
theorem vx_table {p : Program} {x y : MethodName} {S : Spec} {cc bytes : ByteArray} {maxL maxL' : Nat} {ret ret' : Option FieldType} {e : Env} {s s₁ : State} {m : MethodId} {args : Array Value} {below : List Frame} {meth : Method} {c : Code} {hh : List (Nat × Nat × Nat × Nat)}
    (B : BodyLoose p l y S cc maxL ret e s m args below meth c s₁) (h : (Cond.codeWith y bytes maxL' ret' hh).before args s = true) : c.exceptionTable.toList = tableOf hh := by
  obtain ⟨m9, meth9, c9, hn9, h1, h2, -, -, h6, -⟩ := Cond.codeWith_spec h
  cases Option.some.inj (hn9.symm.trans B.named)
  cases Option.some.inj (h1.symm.trans B.method)
  cases Option.some.inj (h2.symm.trans (Stand.of_body B).code)
  rw [← h6, table_eq]
end Bodies
end VXA
/-! ===== END ===== -/
/-! ===== BEGIN a static call of a method with an exception table ===== -/
section VXS
variable {p : Program} {l : Launch} {e : Env} {R : Room} {s : State} {m : MethodId} {args : Array Value} {below : List Frame} {meth : Method} {c : Code} {T : State} {H : Heap} {locs : List Loc} {cells slots : Nat}
abbrev vx_CSW (R : Room) (s : State) (args : Array Value) (own : String) (index : Nat) (y : MethodName) (bytes : ByteArray) (maxL : Nat) (ret : Option FieldType) (hh : List (Nat × Nat × Nat × Nat)) (ws : List Cond) (rm : Room) (mc ms n : Nat) : Prop :=
  (rm.cells = mc ∧ rm.slots = ms ∧ rm.frames + 1 ≤ R.frames ∧ 8 + (maxL + 11) + rm.locals ≤ R.locals ∧ (∀ w ∈ ws, ∀ (a' : Array Value) (U : State), s.WarmedH U.vm → w.before a' U = true) ∧ Cond.codeWith y bytes maxL ret hh ∈ ws) ∧
  (Cond.codeWith y bytes maxL ret hh).before args s = true ∧ (Cond.initialized y.cls).before args s = true ∧ (y.cls ≠ "java/lang/invoke/MethodHandle" ∧ y.cls ≠ "java/lang/invoke/VarHandle") ∧
  (∀ sig, parseMethodDescriptor y.desc = some sig → n = sig.parameters.length) ∧ (Cond.methodLink own index y).before args s = true ∧ (Cond.static y).before args s = true
theorem vx_cwSW {own : String} {index maxL mc ms : Nat} {y : MethodName} {bytes : ByteArray} {ret : Option FieldType} {hh : List (Nat × Nat × Nat × Nat)} {Ts ws ws' : List Cond} {rm : Room} (n : Nat) (ht : ∀ w ∈ Ts, w.before args s = true) (hT : GoodIn Ts (va_wsS own index y ws)) (hw : ws = Cond.codeWith y bytes maxL ret hh :: ws') (hrc : rm.cells = mc) (hrs : rm.slots = ms)
    (hd : y.cls ≠ "java/lang/invoke/MethodHandle" ∧ y.cls ≠ "java/lang/invoke/VarHandle" ∧ (parseMethodDescriptor y.desc).map (fun d => d.parameters.length) = some n) (hR : rm.frames + 1 ≤ R.frames ∧ 8 + (maxL + 11) + rm.locals ≤ R.locals) :
    vx_CSW R s args own index y bytes maxL ret hh ws rm mc ms n := by
  have ok : ∀ w ∈ va_wsS own index y ws, w.before args s = true := fun w h => ht w (hT w h).1
  have hG : GoodIn Ts ws := fun w h => hT w (by unfold va_wsS; exact List.mem_append_right _ h)
  have hc : Cond.codeWith y bytes maxL ret hh ∈ ws := by rw [hw]; exact List.mem_cons_self
  refine ⟨⟨hrc, hrs, hR.1, hR.2, pay_in ht hG, hc⟩, ht _ (hG _ hc).1, ok _ (by simp [va_wsS]), ⟨hd.1, hd.2.1⟩, fun sig h => ?_, ok _ (by simp [va_wsS]), ok _ (by simp [va_wsS])⟩
  have h2 := hd.2.2
  rw [h] at h2
  exact (Option.some.inj h2).symm
theorem vx_callSW (X : Stand p l e R s m args below meth c T locs cells slots) (hexec : p.tables.exec = Jvm.exec) {own : String} {index : Nat} {y : MethodName} {bytes : ByteArray} {maxL : Nat} {ret : Option FieldType} {hh : List (Nat × Nat × Nat × Nat)}
    (hown : s.vm.findClass own = some m.cls) (hlink : (Cond.methodLink own index y).before args s = true) (hstat : (Cond.static y).before args s = true) (hinit : (Cond.initialized y.cls).before args s = true)
    (hcode : (Cond.codeWith y bytes maxL ret hh).before args s = true) (hy : y.cls ≠ "java/lang/invoke/MethodHandle" ∧ y.cls ≠ "java/lang/invoke/VarHandle")
    {W9 : Nat} {Pre : Pt → Array Value → Prop} {Post : Pt → Array Value → Option Value → Pt → Prop} (hK : Back l R p e below s args y 3 W9 Pre Post)
    {g : JFrame} (hg : g.method = m) (hsize : g.locals.size = c.maxLocals) {argsL rest : List Value} (hlen : ∀ sig, parseMethodDescriptor y.desc = some sig → argsL.length = sig.parameters.length)
    (hstack : g.stack = argsL.reverse ++ rest) (hW : 2 * g.monitorRoom + (rest.map fun v => v.category).sum ≤ W9) (hdg : decode c.code g.pc = .ok (.invokestatic index, 3))
    (hpre : ∀ vm₁, s.WarmedH vm₁ → Pre ⟨T.setVm vm₁, locs, cells, slots⟩ argsL.toArray) :
    ∃ (v : Option Value) (vm₁ : Vm) (B : Pt), s.WarmedH vm₁ ∧ Stand p l e R s m args below meth c B.U B.locs B.cells B.slots ∧ Post ⟨T.setVm vm₁, locs, cells, slots⟩ argsL.toArray v B ∧
      ∀ target, Steps p.tables e below (B.U.setTop { g with pc := g.pc + 3, stack := v.toList ++ rest }) target → Steps p.tables e below (T.setTop g) target := by
  obtain ⟨mk, methM, cM, hnamed, hmethM, -, -, -, -, -, -, hsigM⟩ := Cond.codeWith_spec hcode
  have hstatic : methM.isStatic = true := Cond.static_spec hnamed hmethM hstat
  obtain ⟨kP, hkP, -⟩ := className_of_methodNamed hnamed
  have hinitP : kP.init = .initialized := Cond.initialized_spec (findClass_of_methodNamed hnamed) hkP hinit
  obtain ⟨vm₁, X₁, hstep₁⟩ := X.invokestatic hexec hown hlink hnamed hmethM hstatic hkP hinitP hy (g := g) hg (argsL := argsL) (rest := rest) (hlen _ hsigM) hstack hdg
  obtain ⟨v, B, X', hpost, hsteps⟩ := hK m meth c ⟨T.setVm vm₁, locs, cells, slots⟩ { g with stack := rest } (.invokestatic index) mk argsL.toArray X₁ hg hsize hdg hW (X₁.named hnamed) (hpre vm₁ X₁.warmed)
  exact ⟨v, vm₁, B, X₁.warmed, X', hpost, fun target h => hstep₁ _ fun acts => by rw [doInvoke_state]; exact hsteps.trans h⟩
theorem vx_runSW {y : MethodName} {bytes cc : ByteArray} {maxL nL mc ms n index : Nat} {ret : Option FieldType} {hh : List (Nat × Nat × Nat × Nat)} {ws : List Cond} {rm : Room} {Pc : Array Value → State → Prop} {Qc : Array Value → State → Outcome → State → Prop} {free : Addr → Prop} {Ts : List Cond} {own : String} {As rest : List Value} {g : JFrame}
    (S : CallFix p m c cc nL s args Ts own) (hM : Met l y ws rm Pc Qc mc ms free) (cw : vx_CSW R s args own index y bytes maxL ret hh ws rm mc ms n) (hp : PreS s H Pc As)
    (hg : g.method = m) (hn : As.length = n) (hsize : g.locals.size = nL) (hstack : g.stack = As.reverse ++ rest) (hW : 2 * g.monitorRoom + (rest.map fun v => v.category).sum ≤ 8) (hdg : decode cc g.pc = .ok (.invokestatic index, 3)) (hf : cells + mc ≤ R.cells ∧ slots + ms ≤ R.slots) :
    va_Run p l e R s m args below meth c H locs cells slots mc ms g rest (Qc As.toArray) (free) := by
  obtain ⟨⟨hrc, hrs, hfr, hlo, hws, hcw⟩, hcode, hini, hy, hlen, hl, hstt⟩ := cw
  have hK : Back l R p e below s args y 3 8 (PreOf R mc ms Pc) (PostOf Qc mc ms free) := va_backW (hh := hh) (bytes := bytes) (maxL := maxL) (ret := ret) hM hp.1 hrc hrs hfr hlo hws hcw (fun a' U hW => word_at hW (Or.inl (by first | rfl | simp [Cond.onTables, Cond.keeps, Cond.steady])) hini)
  obtain ⟨hx, hb, hml, ho, -⟩ := S
  intro T hT X
  obtain ⟨v, vm₁, ⟨U', l2, c2, s2⟩, hW₁, X', ⟨g', mk, t, L, e1, e2, hq, h1, hL, h2, h3⟩, st⟩ := vx_callSW X hx (hh := hh) (bytes := bytes) (maxL := maxL) (ret := ret) ho hl hstt hini hcode hy hK hg (hsize.trans hml.symm) (argsL := As) (rest := rest) (fun sig h => hn.trans (hlen sig h)) hstack hW (by rw [hb]; exact hdg)
    (fun vm₁ hW₁ => ⟨hf.1, hf.2, hp.2 (T.setVm vm₁) hT hW₁⟩)
  dsimp only [Pt.U, Pt.locs, Pt.cells, Pt.slots] at X' e1 e2 h1 h2 h3 st
  subst h1; subst h2; subst h3
  exact ⟨v, (T.setVm vm₁).calling g' mk As.toArray, t, U', L, hT, X', hL, e1, e2, hq, st⟩
/-- not caught here, past rows that name other classes: it goes on to the caller -/
theorem vx_outP {p : Program} {l : Launch} {e : Env} {R : Room} {s : State} {m : MethodId} {args : Array Value} {below : List Frame} {meth : Method} {c : Code} {H : Heap} {locs : List Loc} {cells slots : Nat} {free : Addr → Prop} {ls : Array Slot} {rest : List Value} {Qc : Array Value → State → Outcome → State → Prop} {XC : String → State → State → Prop}
    {pc : Nat} {own E : String} {ce : Cell} {q : Addr} {mc ms : Nat} (hown : s.vm.findClass own = some m.cls) (hlocks : meth.locks = false)
    (hpass : ∀ z ∈ c.exceptionTable.toList, covers z pc = false ∨ (z.catchType ≠ 0 ∧ ∃ nm : String, (Cond.classLink own z.catchType nm).before args s = true ∧ va_Nc E nm s)) (hcell : H[q]? = some ce) (hv : ce.vm = .none) (hcl : s.vm.findClass E = some ce.cls)
    (hx : ∀ t : State, t.heap = H → s.vm.Alike t.vm → XC E s t) (hf : ∀ z ∈ locs, free z.base) (hc : cells ≤ mc) (hs : slots ≤ ms) :
    vx_W p l e R s m args below meth c H locs cells slots (vx_MQ below Qc XC args s mc ms free) (F0 m pc ls rest) q := by
  intro T hT X
  have hpl : e.platform.magicAccessors = ({} : Platform).magicAccessors := by rw [X.admits.platform]
  obtain ⟨vm', hW', X', st⟩ := X.outThrough hlocks q (g := F0 m pc ls rest) rfl rfl rfl (cell := ce) (by rw [hT]; exact hcell) (by rw [hv]; rfl)
    (by obtain ⟨k9, h9, -⟩ := Vm.findClass_spec hcl; exact ⟨k9, h9⟩) (fun z hz => by
      rcases hpass z hz with h | ⟨hz0, nm, hl1, hn1⟩
      · exact Or.inl h
      · obtain ⟨c6, hc6, hcl6⟩ := Cond.classLink_spec hown hl1 e.platform hpl
        obtain ⟨a8, b8, h1, h2, h3⟩ := hn1
        cases Option.some.inj (h1.symm.trans hcl)
        cases Option.some.inj (h2.symm.trans hc6)
        exact Or.inr ⟨hz0, _, hcl6, h3⟩)
  obtain ⟨g₀, hfr⟩ := X'.frames_eq
  have hcell9 : ((T.setVm vm').setFrames (.throwing q :: below)).heap[q]? = some ce := by
    show T.heap[q]? = some ce
    rw [hT]; exact hcell
  have hend : Ended ((T.setVm vm').setFrames (.throwing q :: below)) below (.threw q) := State.frames_setFrames _ (State.cur_lt_of_frames hfr)
  refine ⟨(T.setVm vm').setFrames (.throwing q :: below), ?_, .threw q, X'.here.running, hend, Or.inr ⟨q, rfl, E, ce, locs, hx _ hT (X'.ends _).1.alike, hcell9, hv, hcl, (X'.ends _).1, (X'.ends _).2.mono hc hs, hf⟩⟩
  rw [X.pushThrowing_eq]
  exact st
/-- a thing of a world lies in the heap -/
theorem vx_lt {D : va_G} {cl : List vw_C} {ws : va_W} {H1 : Heap} (h : va_P D cl ws H1) {k : Nat} {q : Nat × va_E} (hk : ws[k]? = some q) : q.1 < H1.size := (h k q hk).lt
end VXS
/-! ===== END ===== -/
/-! ===== BEGIN methods with a table of their own: called by a name, returning or throwing ===== -/
section VXH
/-! vx_backW, vx_callVX, vx_callSX, vx_callVW, vx_runVW, vx_runVX, vx_runSX, vx_ofWH follow the same proofs as their sisters above (Free/Laws.lean, Shelf42/LK1.lean); vx_outP calls Shelf42/NT130.lean (outThrough). -/
section
variable {l : Launch} {R : Room} {p : Program} {e : Env} {below : List Frame} {s : State} {sargs : Array Value} {y : MethodName} {len W9 : Nat}
theorem vx_backW {ws : List Cond} {rm : Room} {Pc : Array Value → State → Prop} {Qc : Array Value → State → Outcome → State → Prop} {XC : String → State → State → Prop} {mc ms : Nat} {free : Addr → Prop} {bytes : ByteArray} {maxL : Nat} {ret : Option FieldType} {hh : List (Nat × Nat × Nat × Nat)}
    (hM : vx_Met l y ws rm Pc Qc XC mc ms free) (hblind : FrameBlind Pc) (hrc : rm.cells = mc) (hrs : rm.slots = ms)
    (hframes : rm.frames + 1 ≤ R.frames) (hlocals : W9 + (maxL + 11) + rm.locals ≤ R.locals)
    (hws : ∀ w ∈ ws, ∀ a' U, s.WarmedH U.vm → w.before a' U = true) (hcode : Cond.codeWith y bytes maxL ret hh ∈ ws) (hinit : ∀ a' U, s.WarmedH U.vm → (Cond.initialized y.cls).before a' U = true) :
    vx_Back l R p e below s sargs y len W9 (PreOf R mc ms Pc) (PostOf Qc mc ms free) (vx_Post XC mc ms free) := by
  intro m meth c A g ig mk a X hg hsize hdg hW hn hp
  have h1 : (headSpec ws rm).pre.before a A.U = true := atoms_intro fun w hw => hws w hw _ _ X.warmed
  have h2 : (Cond.codeWith y bytes maxL ret hh).before a A.U = true := hws _ hcode _ _ X.warmed
  have h3 : (Cond.initialized y.cls).before a A.U = true := hinit _ _ X.warmed
  have h4 : A.cells + (headSpec ws rm).room.cells ≤ R.cells := by rw [show (headSpec ws rm).room.cells = mc from hrc]; exact hp.1
  have h5 : A.slots + (headSpec ws rm).room.slots ≤ R.slots := by rw [show (headSpec ws rm).room.slots = ms from hrs]; exact hp.2.1
  have hPc : Pc a (A.U.calling g mk a) := hblind _ _ _ _ hp.2.2
  obtain ⟨U, Ls, c0, s0⟩ := A
  dsimp only [Pt.U, Pt.locs, Pt.cells, Pt.slots] at h1 h2 h3 h4 h5 X hn hPc ⊢
  obtain ⟨m9, methY, cY, hn9, hmY, hcY, -, hlY, -⟩ := Cond.codeWith_spec h2
  cases Option.some.inj (hn9.symm.trans hn)
  obtain ⟨kY, hkY, -⟩ := className_of_methodNamed hn
  have hinitY : kY.init = .initialized := Cond.initialized_spec (findClass_of_methodNamed hn) hkY h3
  have h : At U g.method c below := by rw [hg]; exact X.here
  have hlocals9 : W9 + (maxL + 11) + (headSpec ws rm).room.locals ≤ R.locals := hlocals
  have happ : (headSpec ws rm).appliesLoose y e.platform (U.calling g mk a) = true :=
    Spec.appliesLoose_calling (g := g) h hdg hn hkY hinitY
      (X.room_calling (g := g) (R' := (headSpec ws rm).room) hsize hmY hcY hframes (by rw [hlY]; omega) h4 h5) h1
  obtain ⟨mid, hmid⟩ := h.above
  have hfr : (U.setTop g).frames = (.java g :: mid) ++ below := by rw [State.frames_setTop' g h.top, hmid]; rfl
  obtain ⟨o, s₂, hsteps, -, hend, hq⟩ := Steps.callFree hM p X.admits X.cas X.clock (acts := []) hfr happ hPc trivial
  have hq' : vx_Q Qc XC mc ms free a (U.calling g mk a) o s₂ := hq
  rw [State.frames_setTop' g h.top] at hend
  obtain ⟨g₀, hg0⟩ := Option.isSome_iff_exists.mp h.top
  obtain ⟨r, hr⟩ := State.topJava?_eq_some.mp hg0
  have hr' : (({ U with heap := s₂.heap, slotsUsed := s₂.slotsUsed } : State).setVm s₂.vm).frames = .java g₀ :: r := hr
  rcases hq' with ⟨hqc, L, hfe, hL⟩ | ⟨q, rfl, E, ce, L, hx, hce, hcv, hcl, hW₂, hsm, hL⟩
  · obtain ⟨⟨v, rfl⟩, hW₂, e2, q2, q3, q4, q5, q6⟩ := id hfe
    have e3 : s₂ = ({ (U.calling g mk a).setFrames s₂.frames with heap := s₂.heap, slotsUsed := s₂.slotsUsed } : State).setVm s₂.vm := by
      have : s₂ = ({ s₂ with vm := (U.calling g mk a).vm } : State).setVm s₂.vm := rfl
      rw [e2] at this
      exact this
    obtain ⟨c₂, i₂, len₂, hc₂, hd₂, hf₂⟩ := hend
    have hW' : U.WarmedH s₂.vm := hW₂
    have hcc : c₂ = c := by
      have h1 : s₂.code? g.method = U.code? g.method := by
        rw [State.code?_eq, State.code?_eq, hW'.alike.method?]
      exact Option.some.inj (hc₂.symm.trans (h1.trans h.code))
    subst hcc
    have hlen : len₂ = len := by rw [hdg] at hd₂; cases hd₂; rfl
    subst hlen
    have hs₂ : s₂ = (({ U with heap := s₂.heap, slotsUsed := s₂.slotsUsed } : State).setVm s₂.vm).setTop { g with pc := g.pc + len₂, stack := v.toList ++ g.stack } := by
      refine e3.trans ?_
      rw [hf₂, State.calling_eq h.top, State.setFrames_setFrames, State.setTop_of_frames _ hr', hr]
      rfl
    have hsame : U.sameButNew ({ U with heap := s₂.heap, slotsUsed := s₂.slotsUsed } : State) L mc ms := by
      refine ⟨?_, q2, q3, q4, q5, q6⟩
      obtain ⟨t, ht, -⟩ := State.frames_cons hr
      show ({ U with heap := s₂.heap, slotsUsed := s₂.slotsUsed } : State) = { U.setFrames U.frames with heap := s₂.heap, slotsUsed := s₂.slotsUsed }
      rw [State.setFrames_self ht]
    subst hg
    refine Or.inl ⟨v, ⟨(({ U with heap := s₂.heap, slotsUsed := s₂.slotsUsed } : State).setVm s₂.vm), Ls ++ L, c0 + mc, s0 + ms⟩,
      ⟨X.admits, X.cas, X.clock, X.frames, X.room, X.hears, X.method, X.code, (X.here.setHeapUsed s₂.heap s₂.slotsUsed).setVm hW'.alike, X.tail, State.WarmedH.trans X.warmed hW', X.limits, X.bytes, X.same.trans (hsame.setVm s.vm)⟩,
      ⟨g, mk, s₂, L, rfl, rfl, hqc, rfl, hL, rfl, rfl⟩, ?_⟩
    show Steps p.tables e below _ ((({ U with heap := s₂.heap, slotsUsed := s₂.slotsUsed } : State).setVm s₂.vm).setTop { g with pc := g.pc + len₂, stack := v.toList ++ g.stack })
    rw [← hs₂]
    exact hsteps
  · obtain ⟨e2, q2, q3, q4, q5, q6⟩ := id hsm
    have e3 : s₂ = ({ (U.calling g mk a).setFrames s₂.frames with heap := s₂.heap, slotsUsed := s₂.slotsUsed } : State).setVm s₂.vm := by
      have : s₂ = ({ s₂ with vm := (U.calling g mk a).vm } : State).setVm s₂.vm := rfl
      rw [e2] at this
      exact this
    have hf₂ : s₂.frames = .throwing q :: .java g :: U.frames.tail := hend
    have hW' : U.WarmedH s₂.vm := hW₂
    have hs₂ : s₂ = ((({ U with heap := s₂.heap, slotsUsed := s₂.slotsUsed } : State).setVm s₂.vm).setTop g).pushFrame (.throwing q) := by
      refine e3.trans ?_
      rw [hf₂, State.calling_eq h.top, State.setFrames_setFrames, State.pushFrame, State.frames_setTop _ hr', State.setTop_of_frames _ hr', State.setFrames_setFrames, hr]
      rfl
    have hsame : U.sameButNew ({ U with heap := s₂.heap, slotsUsed := s₂.slotsUsed } : State) L mc ms := by
      refine ⟨?_, q2, q3, q4, q5, q6⟩
      obtain ⟨t, ht, -⟩ := State.frames_cons hr
      show ({ U with heap := s₂.heap, slotsUsed := s₂.slotsUsed } : State) = { U.setFrames U.frames with heap := s₂.heap, slotsUsed := s₂.slotsUsed }
      rw [State.setFrames_self ht]
    subst hg
    refine Or.inr ⟨q, ⟨(({ U with heap := s₂.heap, slotsUsed := s₂.slotsUsed } : State).setVm s₂.vm), Ls ++ L, c0 + mc, s0 + ms⟩,
      ⟨X.admits, X.cas, X.clock, X.frames, X.room, X.hears, X.method, X.code, (X.here.setHeapUsed s₂.heap s₂.slotsUsed).setVm hW'.alike, X.tail, State.WarmedH.trans X.warmed hW', X.limits, X.bytes, X.same.trans (hsame.setVm s.vm)⟩,
      ⟨g, mk, s₂, L, E, ce, rfl, rfl, hx, hce, hcv, hcl, rfl, hL, rfl, rfl⟩, ?_⟩
    show Steps p.tables e below _ (((({ U with heap := s₂.heap, slotsUsed := s₂.slotsUsed } : State).setVm s₂.vm).setTop g).pushFrame (.throwing q))
    rw [← hs₂]
    exact hsteps
end
variable {p : Program} {l : Launch} {e : Env} {R : Room} {s : State} {m : MethodId} {args : Array Value} {below : List Frame} {meth : Method} {c : Code} {T : State} {H : Heap} {locs : List Loc} {cells slots : Nat}
theorem vx_callVX (X : Stand p l e R s m args below meth c T locs cells slots) (hexec : p.tables.exec = Jvm.exec) {own C : String} {index : Nat} {y : MethodName} {bytes : ByteArray} {maxL : Nat} {ret : Option FieldType} {hh : List (Nat × Nat × Nat × Nat)}
    (hown : s.vm.findClass own = some m.cls) (hlink : (Cond.methodLink own index y).before args s = true) (hinst : (Cond.instanceMethod y).before args s = true) (hsel : (Cond.selects C y y).before args s = true)
    (hcode : (Cond.codeWith y bytes maxL ret hh).before args s = true) (hy : y.cls ≠ "java/lang/invoke/MethodHandle" ∧ y.cls ≠ "java/lang/invoke/VarHandle")
    {W9 : Nat} {Pre : Pt → Array Value → Prop} {Post : Pt → Array Value → Option Value → Pt → Prop} {PostX : Pt → Array Value → Addr → Pt → Prop} (hK : vx_Back l R p e below s args y 3 W9 Pre Post PostX)
    {b : Addr} {cellB : Cell} (hcell : T.heap[b]? = some cellB) (hobj : cellB.vm.isStatics = false) (hcls : s.vm.findClass C = some cellB.cls)
    {g : JFrame} (hg : g.method = m) (hsize : g.locals.size = c.maxLocals) {argsL rest : List Value} (hlen : ∀ sig, parseMethodDescriptor y.desc = some sig → argsL.length = sig.parameters.length)
    (hstack : g.stack = argsL.reverse ++ .ref b :: rest) (hW : 2 * g.monitorRoom + (rest.map fun v => v.category).sum ≤ W9) (hdg : decode c.code g.pc = .ok (.invokevirtual index, 3))
    (hpre : ∀ vm₁, s.WarmedH vm₁ → Pre ⟨T.setVm vm₁, locs, cells, slots⟩ (Value.ref b :: argsL).toArray) :
    (∃ (v : Option Value) (vm₁ : Vm) (B : Pt), s.WarmedH vm₁ ∧ Stand p l e R s m args below meth c B.U B.locs B.cells B.slots ∧ Post ⟨T.setVm vm₁, locs, cells, slots⟩ (Value.ref b :: argsL).toArray v B ∧
      ∀ target, Steps p.tables e below (B.U.setTop { g with pc := g.pc + 3, stack := v.toList ++ rest }) target → Steps p.tables e below (T.setTop g) target) ∨
    (∃ (q : Addr) (vm₁ : Vm) (B : Pt), s.WarmedH vm₁ ∧ Stand p l e R s m args below meth c B.U B.locs B.cells B.slots ∧ PostX ⟨T.setVm vm₁, locs, cells, slots⟩ (Value.ref b :: argsL).toArray q B ∧
      Steps p.tables e below (T.setTop g) ((B.U.setTop { g with stack := rest }).pushFrame (.throwing q))) := by
  obtain ⟨mk, methM, hnamed, hmethM, hstM, habM⟩ := Cond.instanceMethod_spec hinst
  obtain ⟨m8, methM', cM, hn8, hmethM', -, -, -, -, -, -, hsigM⟩ := Cond.codeWith_spec hcode
  cases Option.some.inj (hn8.symm.trans hnamed)
  cases hmethM.symm.trans hmethM'
  obtain ⟨c2, r2, m2, q1, q2, q3, q4, kP, hkP, hkPi⟩ := Cond.selects_spec hsel
  cases hcls.symm.trans q1
  cases (State.methodFound?_of_named hnamed hy).symm.trans q2
  cases hnamed.symm.trans q3
  have hselP : selectMethod e.platform s.vm cellB.cls mk = .method mk := by rw [Launch.admits_selectMethod X.admits]; exact q4
  obtain ⟨vm₁, X₁, hstep₁⟩ := X.invokevirtual hexec hown hlink hnamed hmethM hstM hkP hkPi hy (a := b) (cell := cellB) hcell
    (fun z h => by rw [h] at hobj; cases hobj) hselP hmethM habM hkP hkPi (g := g) hg (argsL := argsL) (rest := rest) (hlen _ hsigM) hstack hdg
  rcases hK m meth c ⟨T.setVm vm₁, locs, cells, slots⟩ { g with stack := rest } (.invokevirtual index) mk (Value.ref b :: argsL).toArray X₁ hg hsize hdg hW (X₁.named hnamed) (hpre vm₁ X₁.warmed) with ⟨v, B, X', hpost, hsteps⟩ | ⟨q, B, X', hpost, hsteps⟩
  · exact Or.inl ⟨v, vm₁, B, X₁.warmed, X', hpost, fun target h => hstep₁ _ fun acts => by rw [doInvoke_state]; exact hsteps.trans h⟩
  · exact Or.inr ⟨q, vm₁, B, X₁.warmed, X', hpost, hstep₁ _ fun acts => by rw [doInvoke_state]; exact hsteps⟩
theorem vx_callSX (X : Stand p l e R s m args below meth c T locs cells slots) (hexec : p.tables.exec = Jvm.exec) {own : String} {index : Nat} {y : MethodName} {bytes : ByteArray} {maxL : Nat} {ret : Option FieldType} {hh : List (Nat × Nat × Nat × Nat)}
    (hown : s.vm.findClass own = some m.cls) (hlink : (Cond.methodLink own index y).before args s = true) (hstat : (Cond.static y).before args s = true) (hinit : (Cond.initialized y.cls).before args s = true)
    (hcode : (Cond.codeWith y bytes maxL ret hh).before args s = true) (hy : y.cls ≠ "java/lang/invoke/MethodHandle" ∧ y.cls ≠ "java/lang/invoke/VarHandle")
    {W9 : Nat} {Pre : Pt → Array Value → Prop} {Post : Pt → Array Value → Option Value → Pt → Prop} {PostX : Pt → Array Value → Addr → Pt → Prop} (hK : vx_Back l R p e below s args y 3 W9 Pre Post PostX)
    {g : JFrame} (hg : g.method = m) (hsize : g.locals.size = c.maxLocals) {argsL rest : List Value} (hlen : ∀ sig, parseMethodDescriptor y.desc = some sig → argsL.length = sig.parameters.length)
    (hstack : g.stack = argsL.reverse ++ rest) (hW : 2 * g.monitorRoom + (rest.map fun v => v.category).sum ≤ W9) (hdg : decode c.code g.pc = .ok (.invokestatic index, 3))
    (hpre : ∀ vm₁, s.WarmedH vm₁ → Pre ⟨T.setVm vm₁, locs, cells, slots⟩ argsL.toArray) :
    (∃ (v : Option Value) (vm₁ : Vm) (B : Pt), s.WarmedH vm₁ ∧ Stand p l e R s m args below meth c B.U B.locs B.cells B.slots ∧ Post ⟨T.setVm vm₁, locs, cells, slots⟩ argsL.toArray v B ∧
      ∀ target, Steps p.tables e below (B.U.setTop { g with pc := g.pc + 3, stack := v.toList ++ rest }) target → Steps p.tables e below (T.setTop g) target) ∨
    (∃ (q : Addr) (vm₁ : Vm) (B : Pt), s.WarmedH vm₁ ∧ Stand p l e R s m args below meth c B.U B.locs B.cells B.slots ∧ PostX ⟨T.setVm vm₁, locs, cells, slots⟩ argsL.toArray q B ∧
      Steps p.tables e below (T.setTop g) ((B.U.setTop { g with stack := rest }).pushFrame (.throwing q))) := by
  obtain ⟨mk, methM, cM, hnamed, hmethM, -, -, -, -, -, -, hsigM⟩ := Cond.codeWith_spec hcode
  have hstatic : methM.isStatic = true := Cond.static_spec hnamed hmethM hstat
  obtain ⟨kP, hkP, -⟩ := className_of_methodNamed hnamed
  have hinitP : kP.init = .initialized := Cond.initialized_spec (findClass_of_methodNamed hnamed) hkP hinit
  obtain ⟨vm₁, X₁, hstep₁⟩ := X.invokestatic hexec hown hlink hnamed hmethM hstatic hkP hinitP hy (g := g) hg (argsL := argsL) (rest := rest) (hlen _ hsigM) hstack hdg
  rcases hK m meth c ⟨T.setVm vm₁, locs, cells, slots⟩ { g with stack := rest } (.invokestatic index) mk argsL.toArray X₁ hg hsize hdg hW (X₁.named hnamed) (hpre vm₁ X₁.warmed) with ⟨v, B, X', hpost, hsteps⟩ | ⟨q, B, X', hpost, hsteps⟩
  · exact Or.inl ⟨v, vm₁, B, X₁.warmed, X', hpost, fun target h => hstep₁ _ fun acts => by rw [doInvoke_state]; exact hsteps.trans h⟩
  · exact Or.inr ⟨q, vm₁, B, X₁.warmed, X', hpost, hstep₁ _ fun acts => by rw [doInvoke_state]; exact hsteps⟩
theorem vx_callVW (X : Stand p l e R s m args below meth c T locs cells slots) (hexec : p.tables.exec = Jvm.exec) {own C : String} {index : Nat} {y : MethodName} {bytes : ByteArray} {maxL : Nat} {ret : Option FieldType} {hh : List (Nat × Nat × Nat × Nat)}
    (hown : s.vm.findClass own = some m.cls) (hlink : (Cond.methodLink own index y).before args s = true) (hinst : (Cond.instanceMethod y).before args s = true) (hsel : (Cond.selects C y y).before args s = true)
    (hcode : (Cond.codeWith y bytes maxL ret hh).before args s = true) (hy : y.cls ≠ "java/lang/invoke/MethodHandle" ∧ y.cls ≠ "java/lang/invoke/VarHandle")
    {W9 : Nat} {Pre : Pt → Array Value → Prop} {Post : Pt → Array Value → Option Value → Pt → Prop} (hK : Back l R p e below s args y 3 W9 Pre Post)
    {b : Addr} {cellB : Cell} (hcell : T.heap[b]? = some cellB) (hobj : cellB.vm.isStatics = false) (hcls : s.vm.findClass C = some cellB.cls)
    {g : JFrame} (hg : g.method = m) (hsize : g.locals.size = c.maxLocals) {argsL rest : List Value} (hlen : ∀ sig, parseMethodDescriptor y.desc = some sig → argsL.length = sig.parameters.length)
    (hstack : g.stack = argsL.reverse ++ .ref b :: rest) (hW : 2 * g.monitorRoom + (rest.map fun v => v.category).sum ≤ W9) (hdg : decode c.code g.pc = .ok (.invokevirtual index, 3))
    (hpre : ∀ vm₁, s.WarmedH vm₁ → Pre ⟨T.setVm vm₁, locs, cells, slots⟩ (Value.ref b :: argsL).toArray) :
    ∃ (v : Option Value) (vm₁ : Vm) (B : Pt), s.WarmedH vm₁ ∧ Stand p l e R s m args below meth c B.U B.locs B.cells B.slots ∧ Post ⟨T.setVm vm₁, locs, cells, slots⟩ (Value.ref b :: argsL).toArray v B ∧
      ∀ target, Steps p.tables e below (B.U.setTop { g with pc := g.pc + 3, stack := v.toList ++ rest }) target → Steps p.tables e below (T.setTop g) target := by
  obtain ⟨mk, methM, hnamed, hmethM, hstM, habM⟩ := Cond.instanceMethod_spec hinst
  obtain ⟨m8, methM', cM, hn8, hmethM', -, -, -, -, -, -, hsigM⟩ := Cond.codeWith_spec hcode
  cases Option.some.inj (hn8.symm.trans hnamed)
  cases hmethM.symm.trans hmethM'
  obtain ⟨c2, r2, m2, q1, q2, q3, q4, kP, hkP, hkPi⟩ := Cond.selects_spec hsel
  cases hcls.symm.trans q1
  cases (State.methodFound?_of_named hnamed hy).symm.trans q2
  cases hnamed.symm.trans q3
  have hselP : selectMethod e.platform s.vm cellB.cls mk = .method mk := by rw [Launch.admits_selectMethod X.admits]; exact q4
  obtain ⟨vm₁, X₁, hstep₁⟩ := X.invokevirtual hexec hown hlink hnamed hmethM hstM hkP hkPi hy (a := b) (cell := cellB) hcell
    (fun z h => by rw [h] at hobj; cases hobj) hselP hmethM habM hkP hkPi (g := g) hg (argsL := argsL) (rest := rest) (hlen _ hsigM) hstack hdg
  obtain ⟨v, B, X', hpost, hsteps⟩ := hK m meth c ⟨T.setVm vm₁, locs, cells, slots⟩ { g with stack := rest } (.invokevirtual index) mk (Value.ref b :: argsL).toArray X₁ hg hsize hdg hW (X₁.named hnamed) (hpre vm₁ X₁.warmed)
  exact ⟨v, vm₁, B, X₁.warmed, X', hpost, fun target h => hstep₁ _ fun acts => by rw [doInvoke_state]; exact hsteps.trans h⟩
abbrev vx_CVW (R : Room) (s : State) (args : Array Value) (own C : String) (index : Nat) (y : MethodName) (bytes : ByteArray) (maxL : Nat) (ret : Option FieldType) (hh : List (Nat × Nat × Nat × Nat)) (ws : List Cond) (rm : Room) (mc ms n : Nat) : Prop :=
  (rm.cells = mc ∧ rm.slots = ms ∧ rm.frames + 1 ≤ R.frames ∧ 8 + (maxL + 11) + rm.locals ≤ R.locals ∧ (∀ w ∈ ws, ∀ (a' : Array Value) (U : State), s.WarmedH U.vm → w.before a' U = true) ∧ Cond.codeWith y bytes maxL ret hh ∈ ws) ∧
  (Cond.codeWith y bytes maxL ret hh).before args s = true ∧ (Cond.initialized y.cls).before args s = true ∧ (y.cls ≠ "java/lang/invoke/MethodHandle" ∧ y.cls ≠ "java/lang/invoke/VarHandle") ∧
  (∀ sig, parseMethodDescriptor y.desc = some sig → n = sig.parameters.length) ∧ (Cond.methodLink own index y).before args s = true ∧ (Cond.instanceMethod y).before args s = true ∧ (Cond.selects C y y).before args s = true
theorem vx_cwVW {own C : String} {index maxL mc ms : Nat} {y : MethodName} {bytes : ByteArray} {ret : Option FieldType} {hh : List (Nat × Nat × Nat × Nat)} {Ts ws ws' : List Cond} {rm : Room} (n : Nat) (ht : ∀ w ∈ Ts, w.before args s = true) (hT : GoodIn Ts (wsV own index C y ws)) (hw : ws = Cond.codeWith y bytes maxL ret hh :: ws') (hrc : rm.cells = mc) (hrs : rm.slots = ms)
    (hd : y.cls = C ∧ y.cls ≠ "java/lang/invoke/MethodHandle" ∧ y.cls ≠ "java/lang/invoke/VarHandle" ∧ (parseMethodDescriptor y.desc).map (fun d => d.parameters.length) = some n) (hR : rm.frames + 1 ≤ R.frames ∧ 8 + (maxL + 11) + rm.locals ≤ R.locals) :
    vx_CVW R s args own C index y bytes maxL ret hh ws rm mc ms n := by
  obtain ⟨hC, hd⟩ := hd
  subst hC
  have ok : ∀ w ∈ wsV own index y.cls y ws, w.before args s = true := fun w h => ht w (hT w h).1
  have hG : GoodIn Ts ws := fun w h => hT w (by unfold wsV; exact List.mem_append_right _ h)
  have hc : Cond.codeWith y bytes maxL ret hh ∈ ws := by rw [hw]; exact List.mem_cons_self
  refine ⟨⟨hrc, hrs, hR.1, hR.2, pay_in ht hG, hc⟩, ht _ (hG _ hc).1, ok _ (by simp [wsV]), ⟨hd.1, hd.2.1⟩, fun sig h => ?_, ok _ (by simp [wsV]), ok _ (by simp [wsV]), ok _ (by simp [wsV])⟩
  have h2 := hd.2.2
  rw [h] at h2
  exact (Option.some.inj h2).symm
theorem vx_runVW {y : MethodName} {bytes cc : ByteArray} {maxL nL mc ms n index : Nat} {ret : Option FieldType} {hh : List (Nat × Nat × Nat × Nat)} {ws : List Cond} {rm : Room} {Pc : Array Value → State → Prop} {Qc : Array Value → State → Outcome → State → Prop} {free : Addr → Prop} {Ts : List Cond} {own C : String} {b : Addr} {As rest : List Value} {g : JFrame}
    (S : CallFix p m c cc nL s args Ts own) (hM : Met l y ws rm Pc Qc mc ms free) (cw : vx_CVW R s args own C index y bytes maxL ret hh ws rm mc ms n) (hp : PreV s H C b Pc As)
    (hg : g.method = m) (hn : As.length = n) (hsize : g.locals.size = nL) (hstack : g.stack = As.reverse ++ .ref b :: rest) (hW : 2 * g.monitorRoom + (rest.map fun v => v.category).sum ≤ 8) (hdg : decode cc g.pc = .ok (.invokevirtual index, 3)) (hf : cells + mc ≤ R.cells ∧ slots + ms ≤ R.slots) :
    va_Run p l e R s m args below meth c H locs cells slots mc ms g rest (Qc (Value.ref b :: As).toArray) free := by
  obtain ⟨⟨hrc, hrs, hfr, hlo, hws, hcw⟩, hcode, hini, hy, hlen, hl, hin, hse⟩ := cw
  have hK : Back l R p e below s args y 3 8 (PreOf R mc ms Pc) (PostOf Qc mc ms free) := va_backW (hh := hh) (bytes := bytes) (maxL := maxL) (ret := ret) hM hp.1 hrc hrs hfr hlo hws hcw (fun a' U hW => word_at hW (Or.inl (by first | rfl | simp [Cond.onTables, Cond.keeps, Cond.steady])) hini)
  obtain ⟨hx, hb, hml, ho, -⟩ := S
  obtain ⟨-, ⟨cellB, hcB, hoB, hclB⟩, hPc⟩ := hp
  intro T hT X
  obtain ⟨v, vm₁, ⟨U', l2, c2, s2⟩, hW₁, X', ⟨g', mk, t, L, e1, e2, hq, h1, hL, h2, h3⟩, st⟩ := vx_callVW X hx (C := C) (hh := hh) (bytes := bytes) (maxL := maxL) (ret := ret) ho hl hin hse hcode hy hK (by rw [hT]; exact hcB) hoB hclB hg (hsize.trans hml.symm) (argsL := As) (rest := rest) (fun sig h => hn.trans (hlen sig h)) hstack hW (by rw [hb]; exact hdg)
    (fun vm₁ hW₁ => ⟨hf.1, hf.2, hPc (T.setVm vm₁) hT hW₁⟩)
  dsimp only [Pt.U, Pt.locs, Pt.cells, Pt.slots] at X' e1 e2 h1 h2 h3 st
  subst h1; subst h2; subst h3
  exact ⟨v, (T.setVm vm₁).calling g' mk (Value.ref b :: As).toArray, t, U', L, hT, X', hL, e1, e2, hq, st⟩
section
variable {y : MethodName} {bytes cc : ByteArray} {maxL nL mc ms n index : Nat} {ret : Option FieldType} {ws : List Cond} {rm : Room} {Pc : Array Value → State → Prop} {Qc : Array Value → State → Outcome → State → Prop} {XC : String → State → State → Prop} {free : Addr → Prop} {Ts : List Cond} {own C : String} {b : Addr} {As rest : List Value} {g : JFrame}
theorem vx_runVX {hh : List (Nat × Nat × Nat × Nat)} (S : CallFix p m c cc nL s args Ts own) (hM : vx_Met l y ws rm Pc Qc XC mc ms free) (cw : vx_CVW R s args own C index y bytes maxL ret hh ws rm mc ms n) (hp : PreV s H C b Pc As)
    (hg : g.method = m) (hn : As.length = n) (hsize : g.locals.size = nL) (hstack : g.stack = As.reverse ++ .ref b :: rest) (hW : 2 * g.monitorRoom + (rest.map fun v => v.category).sum ≤ 8) (hdg : decode cc g.pc = .ok (.invokevirtual index, 3)) (hf : cells + mc ≤ R.cells ∧ slots + ms ≤ R.slots) :
    vx_Run p l e R s m args below meth c H locs cells slots mc ms g rest (Qc (Value.ref b :: As).toArray) XC free := by
  obtain ⟨⟨hrc, hrs, hfr, hlo, hws, hcw⟩, hcode, hini, hy, hlen, hl, hin, hse⟩ := cw
  have hK : vx_Back l R p e below s args y 3 8 (PreOf R mc ms Pc) (PostOf Qc mc ms free) (vx_Post XC mc ms free) := vx_backW (hh := hh) (bytes := bytes) (maxL := maxL) (ret := ret) hM hp.1 hrc hrs hfr hlo hws hcw (fun a' U hW => word_at hW (Or.inl (by first | rfl | simp [Cond.onTables, Cond.keeps, Cond.steady])) hini)
  obtain ⟨hx, hb, hml, ho, -⟩ := S
  obtain ⟨-, ⟨cellB, hcB, hoB, hclB⟩, hPc⟩ := hp
  intro T hT X
  rcases vx_callVX X hx (C := C) (hh := hh) (bytes := bytes) (maxL := maxL) (ret := ret) ho hl hin hse hcode hy hK (by rw [hT]; exact hcB) hoB hclB hg (hsize.trans hml.symm) (argsL := As) (rest := rest) (fun sig h => hn.trans (hlen sig h)) hstack hW (by rw [hb]; exact hdg)
    (fun vm₁ hW₁ => ⟨hf.1, hf.2, hPc (T.setVm vm₁) hT hW₁⟩) with ⟨v, vm₁, ⟨U', l2, c2, s2⟩, hW₁, X', ⟨g', mk, t, L, e1, e2, hq, h1, hL, h2, h3⟩, st⟩ | ⟨q, vm₁, ⟨U', l2, c2, s2⟩, hW₁, X', ⟨g', mk, t, L, E, ce, e1, e2, hq, hce, hcv, hcl, h1, hL, h2, h3⟩, st⟩
  · dsimp only [Pt.U, Pt.locs, Pt.cells, Pt.slots] at X' e1 e2 h1 h2 h3 st
    subst h1; subst h2; subst h3
    exact Or.inl ⟨v, (T.setVm vm₁).calling g' mk (Value.ref b :: As).toArray, t, U', L, hT, X', hL, e1, e2, hq, st⟩
  · dsimp only [Pt.U, Pt.locs, Pt.cells, Pt.slots] at X' e1 e2 h1 h2 h3 st hcl
    subst h1; subst h2; subst h3
    exact Or.inr ⟨q, (T.setVm vm₁).calling g' mk (Value.ref b :: As).toArray, t, U', L, E, ce, hT, X', hL, e1, e2, hq, hce, hcv, vx_cls hW₁ hcl, st⟩
theorem vx_runSX {hh : List (Nat × Nat × Nat × Nat)} (S : CallFix p m c cc nL s args Ts own) (hM : vx_Met l y ws rm Pc Qc XC mc ms free) (cw : vx_CSW R s args own index y bytes maxL ret hh ws rm mc ms n) (hp : PreS s H Pc As)
    (hg : g.method = m) (hn : As.length = n) (hsize : g.locals.size = nL) (hstack : g.stack = As.reverse ++ rest) (hW : 2 * g.monitorRoom + (rest.map fun v => v.category).sum ≤ 8) (hdg : decode cc g.pc = .ok (.invokestatic index, 3)) (hf : cells + mc ≤ R.cells ∧ slots + ms ≤ R.slots) :
    vx_Run p l e R s m args below meth c H locs cells slots mc ms g rest (Qc As.toArray) XC free := by
  obtain ⟨⟨hrc, hrs, hfr, hlo, hws, hcw⟩, hcode, hini, hy, hlen, hl, hstt⟩ := cw
  have hK : vx_Back l R p e below s args y 3 8 (PreOf R mc ms Pc) (PostOf Qc mc ms free) (vx_Post XC mc ms free) := vx_backW (hh := hh) (bytes := bytes) (maxL := maxL) (ret := ret) hM hp.1 hrc hrs hfr hlo hws hcw (fun a' U hW => word_at hW (Or.inl (by first | rfl | simp [Cond.onTables, Cond.keeps, Cond.steady])) hini)
  obtain ⟨hx, hb, hml, ho, -⟩ := S
  intro T hT X
  rcases vx_callSX X hx (hh := hh) (bytes := bytes) (maxL := maxL) (ret := ret) ho hl hstt hini hcode hy hK hg (hsize.trans hml.symm) (argsL := As) (rest := rest) (fun sig h => hn.trans (hlen sig h)) hstack hW (by rw [hb]; exact hdg)
    (fun vm₁ hW₁ => ⟨hf.1, hf.2, hp.2 (T.setVm vm₁) hT hW₁⟩) with ⟨v, vm₁, ⟨U', l2, c2, s2⟩, hW₁, X', ⟨g', mk, t, L, e1, e2, hq, h1, hL, h2, h3⟩, st⟩ | ⟨q, vm₁, ⟨U', l2, c2, s2⟩, hW₁, X', ⟨g', mk, t, L, E, ce, e1, e2, hq, hce, hcv, hcl, h1, hL, h2, h3⟩, st⟩
  · dsimp only [Pt.U, Pt.locs, Pt.cells, Pt.slots] at X' e1 e2 h1 h2 h3 st
    subst h1; subst h2; subst h3
    exact Or.inl ⟨v, (T.setVm vm₁).calling g' mk As.toArray, t, U', L, hT, X', hL, e1, e2, hq, st⟩
  · dsimp only [Pt.U, Pt.locs, Pt.cells, Pt.slots] at X' e1 e2 h1 h2 h3 st hcl
    subst h1; subst h2; subst h3
    exact Or.inr ⟨q, (T.setVm vm₁).calling g' mk As.toArray, t, U', L, E, ce, hT, X', hL, e1, e2, hq, hce, hcv, vx_cls hW₁ hcl, st⟩
end
end VXH
theorem vx_ofWH {l : Launch} {y : MethodName} {ws ws' : List Cond} {rm : Room} {Pc : Array Value → State → Prop} {Qc : Array Value → State → Outcome → State → Prop} {XC : String → State → State → Prop} {mc ms : Nat} {free : Addr → Prop} {cc : ByteArray} {maxL : Nat} {ret : Option FieldType} {hh : List (Nat × Nat × Nat × Nat)}
    (hy : plainName y.cls = true) (hw : ws = Cond.codeWith y cc maxL ret hh :: ws')
    (body : ∀ p e s m args below meth c s₁, BodyLoose p l y (headSpec ws rm) cc maxL ret e s m args below meth c s₁ → c.maxLocals = maxL → Pc args s →
      W p l e (headSpec ws rm).room s m args below meth c s.heap [] 0 0 (vx_MQ below Qc XC args s mc ms free) (entryFrame m args maxL)) : vx_Met l y ws rm Pc Qc XC mc ms free := by
  refine MetFree.of_bodyS (code := cc) (maxLocals := maxL) (ret := ret) hy ?_ ?_
  · intro args s m h hn
    obtain ⟨m9, meth, c, hn9, h1, h2, h3, h4, -, h5, h6, -⟩ := Cond.codeWith_spec (atoms_spec (ws := ws) h _ (by rw [hw]; exact List.mem_cons_self))
    cases hn.symm.trans hn9
    exact ⟨meth, c, h1, h2, h3, h4, h5, h6⟩
  · intro p e s m args below meth c s₁ B hml hP _
    have hh0 : s₁.heap = s.heap := by rw [B.state]; rfl
    obtain ⟨t, a1, o, b1, b2, b3⟩ := body p e s m args below meth c s₁ B hml hP s₁ hh0 (Stand.of_body B)
    exact ⟨t, o, a1, b1, b2, b3⟩
/-! ===== END ===== -/

/-! ===== BEGIN printed: names, fields, word lists, decode rows ===== -/
def RX0 : String := "Songnations$Ballots"
def TX0 : u_T := fun k => match k with
  | 0 => ("Songnations$Ballots", "songs", "LSongnations$Songs;", true)
  | 1 => ("Songnations$Ballots", "rows", "[[I", true)
  | 2 => ("Songnations$Ballots", "sizes", "[I", true)
  | 3 => ("Songnations$Ballots", "isGiven", "[Z", true)
  | _ => ("Songnations$Ballots", "left", "[I", true)
def tyX0 : Nat → FieldType := fun k => match k with
  | 0 => .object "Songnations$Songs"
  | 1 => .array (.array .int)
  | 2 => .array .int
  | 3 => .array .boolean
  | _ => .array .int
abbrev wsX00 : List Cond := u_ws RX0 TX0 5
theorem nmX0 : ∀ a, a < 5 → ∀ b, b < 5 → a ≠ b → (TX0 a).2.1 ≠ (TX0 b).2.1 := by decide +kernel
theorem tyX0_ok : ∀ k, k < 5 → parseFieldDescriptor (TX0 k).2.2.1 = some (tyX0 k) := by decide +kernel
abbrev cX0_init : ByteArray := prog_2_method_1_code
def yX0_init : MethodName := ⟨RX0, "<init>", "(LSongnations$Songs;)V"⟩
abbrev cX0_numberOf : ByteArray := prog_2_method_2_code
def yX0_numberOf : MethodName := ⟨RX0, "numberOf", "(II)I"⟩
abbrev cX0_write : ByteArray := prog_2_method_3_code
def yX0_write : MethodName := ⟨RX0, "write", "(III)V"⟩
abbrev cX0_takeOut : ByteArray := prog_2_method_4_code
def yX0_takeOut : MethodName := ⟨RX0, "takeOut", "(I)V"⟩
abbrev cX0_clear : ByteArray := prog_2_method_5_code
def yX0_clear : MethodName := ⟨RX0, "clear", "()V"⟩
abbrev cX0_given : ByteArray := prog_2_method_6_code
def yX0_given : MethodName := ⟨RX0, "given", "(I)I"⟩
abbrev cX0_firstOn : ByteArray := prog_2_method_7_code
def yX0_firstOn : MethodName := ⟨RX0, "firstOn", "(II)I"⟩
abbrev cX0_addWeights : ByteArray := prog_2_method_8_code
def yX0_addWeights : MethodName := ⟨RX0, "addWeights", "(II[I)V"⟩
abbrev cX0_distance : ByteArray := prog_2_method_9_code
def yX0_distance : MethodName := ⟨RX0, "distance", "(II[I)I"⟩
def RX1 : String := "Songnations$Board"
def TX1 : u_T := fun k => match k with
  | 0 => ("Songnations$Board", "lands", "LSongnations$Lands;", true)
  | 1 => ("Songnations$Board", "songs", "LSongnations$Songs;", true)
  | 2 => ("Songnations$Board", "jury", "[[I", true)
  | 3 => ("Songnations$Board", "calls", "[I", true)
  | 4 => ("Songnations$Board", "isRead", "[Z", true)
  | 5 => ("Songnations$Board", "isDown", "[Z", true)
  | 6 => ("Songnations$Board", "areCallsRead", "[Z", true)
  | 7 => ("Songnations$Board", "landsRead", "I", false)
  | _ => ("Songnations$Board", "songsRead", "I", false)
def tyX1 : Nat → FieldType := fun k => match k with
  | 0 => .object "Songnations$Lands"
  | 1 => .object "Songnations$Songs"
  | 2 => .array (.array .int)
  | 3 => .array .int
  | 4 => .array .boolean
  | 5 => .array .boolean
  | 6 => .array .boolean
  | 7 => .int
  | _ => .int
abbrev wsX10 : List Cond := u_ws RX1 TX1 9
theorem nmX1 : ∀ a, a < 9 → ∀ b, b < 9 → a ≠ b → (TX1 a).2.1 ≠ (TX1 b).2.1 := by decide +kernel
theorem tyX1_ok : ∀ k, k < 9 → parseFieldDescriptor (TX1 k).2.2.1 = some (tyX1 k) := by decide +kernel
abbrev cX1_init : ByteArray := prog_3_method_1_code
def yX1_init : MethodName := ⟨RX1, "<init>", "(LSongnations$Lands;LSongnations$Songs;)V"⟩
abbrev cX1_clear : ByteArray := prog_3_method_2_code
def yX1_clear : MethodName := ⟨RX1, "clear", "()V"⟩
abbrev cX1_wipe : ByteArray := prog_3_method_3_code
def yX1_wipe : MethodName := ⟨RX1, "wipe", "(I)V"⟩
abbrev cX1_canRead : ByteArray := prog_3_method_4_code
def yX1_canRead : MethodName := ⟨RX1, "canRead", "(I)Z"⟩
abbrev cX1_takeLand : ByteArray := prog_3_method_6_code
def yX1_takeLand : MethodName := ⟨RX1, "takeLand", "(I[I)V"⟩
abbrev cX1_put : ByteArray := prog_3_method_7_code
def yX1_put : MethodName := ⟨RX1, "put", "(I[I)I"⟩
abbrev cX1_takeCalls : ByteArray := prog_3_method_8_code
def yX1_takeCalls : MethodName := ⟨RX1, "takeCalls", "(II)V"⟩
abbrev cX1_juryOf : ByteArray := prog_3_method_9_code
def yX1_juryOf : MethodName := ⟨RX1, "juryOf", "(I)I"⟩
abbrev cX1_nextSong : ByteArray := prog_3_method_10_code
def yX1_nextSong : MethodName := ⟨RX1, "nextSong", "()I"⟩
abbrev cX1_hopefuls : ByteArray := prog_3_method_11_code
def yX1_hopefuls : MethodName := ⟨RX1, "hopefuls", "()I"⟩
abbrev cX1_stillToCome : ByteArray := prog_3_method_12_code
def yX1_stillToCome : MethodName := ⟨RX1, "stillToCome", "(I)I"⟩
abbrev cX1_leadWith : ByteArray := prog_3_method_13_code
def yX1_leadWith : MethodName := ⟨RX1, "leadWith", "([I)I"⟩
def RX2 : String := "Songnations$Juries"
def TX2 : u_T := fun k => match k with
  | 0 => ("Songnations$Juries", "lands", "LSongnations$Lands;", true)
  | 1 => ("Songnations$Juries", "songs", "LSongnations$Songs;", true)
  | 2 => ("Songnations$Juries", "ballots", "LSongnations$Ballots;", true)
  | 3 => ("Songnations$Juries", "sums", "[[I", true)
  | 4 => ("Songnations$Juries", "orders", "[[I", true)
  | 5 => ("Songnations$Juries", "points", "[[I", true)
  | 6 => ("Songnations$Juries", "sizes", "[I", true)
  | 7 => ("Songnations$Juries", "outlier", "[I", true)
  | 8 => ("Songnations$Juries", "isVoid", "[Z", true)
  | 9 => ("Songnations$Juries", "praised", "[I", true)
  | _ => ("Songnations$Juries", "places", "[I", true)
def tyX2 : Nat → FieldType := fun k => match k with
  | 0 => .object "Songnations$Lands"
  | 1 => .object "Songnations$Songs"
  | 2 => .object "Songnations$Ballots"
  | 3 => .array (.array .int)
  | 4 => .array (.array .int)
  | 5 => .array (.array .int)
  | 6 => .array .int
  | 7 => .array .int
  | 8 => .array .boolean
  | 9 => .array .int
  | _ => .array .int
abbrev wsX20 : List Cond := u_ws RX2 TX2 11
theorem nmX2 : ∀ a, a < 11 → ∀ b, b < 11 → a ≠ b → (TX2 a).2.1 ≠ (TX2 b).2.1 := by decide +kernel
theorem tyX2_ok : ∀ k, k < 11 → parseFieldDescriptor (TX2 k).2.2.1 = some (tyX2 k) := by decide +kernel
abbrev cX2_init : ByteArray := prog_4_method_1_code
def yX2_init : MethodName := ⟨RX2, "<init>", "(LSongnations$Lands;LSongnations$Songs;LSongnations$Ballots;)V"⟩
abbrev cX2_countAll : ByteArray := prog_4_method_2_code
def yX2_countAll : MethodName := ⟨RX2, "countAll", "(Z)V"⟩
abbrev cX2_countLand : ByteArray := prog_4_method_3_code
def yX2_countLand : MethodName := ⟨RX2, "countLand", "(I)V"⟩
abbrev cX2_isCounting : ByteArray := prog_4_method_4_code
def yX2_isCounting : MethodName := ⟨RX2, "isCounting", "(II)Z"⟩
abbrev cX2_addBallots : ByteArray := prog_4_method_5_code
def yX2_addBallots : MethodName := ⟨RX2, "addBallots", "(I)V"⟩
abbrev cX2_sortCandidates : ByteArray := prog_4_method_6_code
def yX2_sortCandidates : MethodName := ⟨RX2, "sortCandidates", "(I)V"⟩
abbrev cX2_findOutlier : ByteArray := prog_4_method_7_code
def yX2_findOutlier : MethodName := ⟨RX2, "findOutlier", "(I)I"⟩
abbrev cX2_findPraised : ByteArray := prog_4_method_8_code
def yX2_findPraised : MethodName := ⟨RX2, "findPraised", "(I)I"⟩
abbrev cX2_voidPairs : ByteArray := prog_4_method_9_code
def yX2_voidPairs : MethodName := ⟨RX2, "voidPairs", "()V"⟩
abbrev cX2_borrowSums : ByteArray := prog_4_method_10_code
def yX2_borrowSums : MethodName := ⟨RX2, "borrowSums", "(I)V"⟩
abbrev cX2_addCandidates : ByteArray := prog_4_method_11_code
def yX2_addCandidates : MethodName := ⟨RX2, "addCandidates", "(II)V"⟩
abbrev cX2_givePoints : ByteArray := prog_4_method_12_code
def yX2_givePoints : MethodName := ⟨RX2, "givePoints", "(I)V"⟩
abbrev cX2_topOf : ByteArray := prog_4_method_13_code
def yX2_topOf : MethodName := ⟨RX2, "topOf", "(I)I"⟩
abbrev cX2_clearRow : ByteArray := prog_4_method_14_code
def yX2_clearRow : MethodName := ⟨RX2, "clearRow", "([I)V"⟩
def RX3 : String := "Songnations$Lands"
def TX3 : u_T := fun k => match k with
  | 0 => ("Songnations$Lands", "count", "I", false)
  | 1 => ("Songnations$Lands", "pot", "[I", true)
  | 2 => ("Songnations$Lands", "beds", "[I", true)
  | 3 => ("Songnations$Lands", "money", "[I", true)
  | 4 => ("Songnations$Lands", "wins", "[I", true)
  | _ => ("Songnations$Lands", "hostings", "[I", true)
def tyX3 : Nat → FieldType := fun k => match k with
  | 0 => .int
  | 1 => .array .int
  | 2 => .array .int
  | 3 => .array .int
  | 4 => .array .int
  | _ => .array .int
abbrev wsX30 : List Cond := u_ws RX3 TX3 6
theorem nmX3 : ∀ a, a < 6 → ∀ b, b < 6 → a ≠ b → (TX3 a).2.1 ≠ (TX3 b).2.1 := by decide +kernel
theorem tyX3_ok : ∀ k, k < 6 → parseFieldDescriptor (TX3 k).2.2.1 = some (tyX3 k) := by decide +kernel
abbrev cX3_init : ByteArray := prog_5_method_1_code
def yX3_init : MethodName := ⟨RX3, "<init>", "()V"⟩
abbrev cX3_add : ByteArray := prog_5_method_2_code
def yX3_add : MethodName := ⟨RX3, "add", "(II)I"⟩
def RX4 : String := "Songnations$Phones"
def TX4 : u_T := fun k => match k with
  | 0 => ("Songnations$Phones", "songs", "LSongnations$Songs;", true)
  | 1 => ("Songnations$Phones", "told", "[[I", true)
  | 2 => ("Songnations$Phones", "used", "[I", true)
  | 3 => ("Songnations$Phones", "calls", "[[I", true)
  | 4 => ("Songnations$Phones", "callers", "[[I", true)
  | 5 => ("Songnations$Phones", "points", "[[I", true)
  | 6 => ("Songnations$Phones", "inAll", "[I", true)
  | 7 => ("Songnations$Phones", "inBlocks", "[I", true)
  | 8 => ("Songnations$Phones", "firsts", "[I", true)
  | 9 => ("Songnations$Phones", "row", "[I", true)
  | _ => ("Songnations$Phones", "keys", "[I", true)
def tyX4 : Nat → FieldType := fun k => match k with
  | 0 => .object "Songnations$Songs"
  | 1 => .array (.array .int)
  | 2 => .array .int
  | 3 => .array (.array .int)
  | 4 => .array (.array .int)
  | 5 => .array (.array .int)
  | 6 => .array .int
  | 7 => .array .int
  | 8 => .array .int
  | 9 => .array .int
  | _ => .array .int
abbrev wsX40 : List Cond := u_ws RX4 TX4 11
theorem nmX4 : ∀ a, a < 11 → ∀ b, b < 11 → a ≠ b → (TX4 a).2.1 ≠ (TX4 b).2.1 := by decide +kernel
theorem tyX4_ok : ∀ k, k < 11 → parseFieldDescriptor (TX4 k).2.2.1 = some (tyX4 k) := by decide +kernel
abbrev cX4_init : ByteArray := prog_6_method_1_code
def yX4_init : MethodName := ⟨RX4, "<init>", "(LSongnations$Songs;)V"⟩
abbrev cX4_lineOf : ByteArray := prog_6_method_2_code
def yX4_lineOf : MethodName := ⟨RX4, "lineOf", "(II)I"⟩
abbrev cX4_take : ByteArray := prog_6_method_3_code
def yX4_take : MethodName := ⟨RX4, "take", "(IIIII)I"⟩
abbrev cX4_clear : ByteArray := prog_6_method_4_code
def yX4_clear : MethodName := ⟨RX4, "clear", "()V"⟩
abbrev cX4_countLand : ByteArray := prog_6_method_5_code
def yX4_countLand : MethodName := ⟨RX4, "countLand", "(II)V"⟩
abbrev cX4_countSong : ByteArray := prog_6_method_6_code
def yX4_countSong : MethodName := ⟨RX4, "countSong", "(III)V"⟩
abbrev cX4_fullCallers : ByteArray := prog_6_method_7_code
def yX4_fullCallers : MethodName := ⟨RX4, "fullCallers", "(III)I"⟩
abbrev cX4_givePoints : ByteArray := prog_6_method_8_code
def yX4_givePoints : MethodName := ⟨RX4, "givePoints", "(II[I)V"⟩
abbrev cX4_needed : ByteArray := prog_6_method_9_code
def yX4_needed : MethodName := ⟨RX4, "needed", "(II)I"⟩
abbrev cX4_winsTie : ByteArray := prog_6_method_10_code
def yX4_winsTie : MethodName := ⟨RX4, "winsTie", "(III)Z"⟩
def RX5 : String := "Songnations$Ranking"
def TX5 : u_T := fun k => match k with
  | 0 => ("Songnations$Ranking", "songs", "LSongnations$Songs;", true)
  | 1 => ("Songnations$Ranking", "stage", "LSongnations$Stage;", true)
  | 2 => ("Songnations$Ranking", "juries", "LSongnations$Juries;", true)
  | 3 => ("Songnations$Ranking", "phones", "LSongnations$Phones;", true)
  | 4 => ("Songnations$Ranking", "juryPoints", "[I", true)
  | 5 => ("Songnations$Ranking", "callPoints", "[I", true)
  | 6 => ("Songnations$Ranking", "order", "[I", true)
  | 7 => ("Songnations$Ranking", "keys", "[I", true)
  | _ => ("Songnations$Ranking", "count", "I", false)
def tyX5 : Nat → FieldType := fun k => match k with
  | 0 => .object "Songnations$Songs"
  | 1 => .object "Songnations$Stage"
  | 2 => .object "Songnations$Juries"
  | 3 => .object "Songnations$Phones"
  | 4 => .array .int
  | 5 => .array .int
  | 6 => .array .int
  | 7 => .array .int
  | _ => .int
abbrev wsX50 : List Cond := u_ws RX5 TX5 9
theorem nmX5 : ∀ a, a < 9 → ∀ b, b < 9 → a ≠ b → (TX5 a).2.1 ≠ (TX5 b).2.1 := by decide +kernel
theorem tyX5_ok : ∀ k, k < 9 → parseFieldDescriptor (TX5 k).2.2.1 = some (tyX5 k) := by decide +kernel
abbrev cX5_init : ByteArray := prog_7_method_1_code
def yX5_init : MethodName := ⟨RX5, "<init>", "(LSongnations$Songs;LSongnations$Stage;LSongnations$Juries;LSongnations$Phones;)V"⟩
abbrev cX5_countAll : ByteArray := prog_7_method_2_code
def yX5_countAll : MethodName := ⟨RX5, "countAll", "()V"⟩
abbrev cX5_addPoints : ByteArray := prog_7_method_3_code
def yX5_addPoints : MethodName := ⟨RX5, "addPoints", "(I)V"⟩
abbrev cX5_keyWithout : ByteArray := prog_7_method_4_code
def yX5_keyWithout : MethodName := ⟨RX5, "keyWithout", "(II)I"⟩
abbrev cX5_leaderWithout : ByteArray := prog_7_method_5_code
def yX5_leaderWithout : MethodName := ⟨RX5, "leaderWithout", "(I)I"⟩
abbrev cX5_songAt : ByteArray := prog_7_method_6_code
def yX5_songAt : MethodName := ⟨RX5, "songAt", "(I)I"⟩
abbrev cX5_rankOf : ByteArray := prog_7_method_7_code
def yX5_rankOf : MethodName := ⟨RX5, "rankOf", "(I)I"⟩
abbrev cX5_sumOfTotals : ByteArray := prog_7_method_8_code
def yX5_sumOfTotals : MethodName := ⟨RX5, "sumOfTotals", "()I"⟩
def RX6 : String := "Songnations$Rules"
def TX6 : u_T := fun k => match k with
  | 0 => ("Songnations$Rules", "length", "I", false)
  | 1 => ("Songnations$Rules", "people", "I", false)
  | 2 => ("Songnations$Rules", "limit", "I", false)
  | 3 => ("Songnations$Rules", "threshold", "I", false)
  | _ => ("Songnations$Rules", "isAudit", "Z", false)
def tyX6 : Nat → FieldType := fun k => match k with
  | 0 => .int
  | 1 => .int
  | 2 => .int
  | 3 => .int
  | _ => .boolean
abbrev wsX60 : List Cond := u_ws RX6 TX6 5
theorem nmX6 : ∀ a, a < 5 → ∀ b, b < 5 → a ≠ b → (TX6 a).2.1 ≠ (TX6 b).2.1 := by decide +kernel
theorem tyX6_ok : ∀ k, k < 5 → parseFieldDescriptor (TX6 k).2.2.1 = some (tyX6 k) := by decide +kernel
abbrev cX6_init : ByteArray := prog_8_method_1_code
def yX6_init : MethodName := ⟨RX6, "<init>", "()V"⟩
def RX7 : String := "Songnations$Songs"
def TX7 : u_T := fun k => match k with
  | 0 => ("Songnations$Songs", "count", "I", false)
  | 1 => ("Songnations$Songs", "outCount", "I", false)
  | 2 => ("Songnations$Songs", "isIn", "[Z", true)
  | 3 => ("Songnations$Songs", "isOut", "[Z", true)
  | 4 => ("Songnations$Songs", "seconds", "[I", true)
  | 5 => ("Songnations$Songs", "props", "[I", true)
  | _ => ("Songnations$Songs", "half", "[I", true)
def tyX7 : Nat → FieldType := fun k => match k with
  | 0 => .int
  | 1 => .int
  | 2 => .array .boolean
  | 3 => .array .boolean
  | 4 => .array .int
  | 5 => .array .int
  | _ => .array .int
abbrev wsX70 : List Cond := u_ws RX7 TX7 7
theorem nmX7 : ∀ a, a < 7 → ∀ b, b < 7 → a ≠ b → (TX7 a).2.1 ≠ (TX7 b).2.1 := by decide +kernel
theorem tyX7_ok : ∀ k, k < 7 → parseFieldDescriptor (TX7 k).2.2.1 = some (tyX7 k) := by decide +kernel
abbrev cX7_init : ByteArray := prog_9_method_1_code
def yX7_init : MethodName := ⟨RX7, "<init>", "()V"⟩
abbrev cX7_add : ByteArray := prog_9_method_2_code
def yX7_add : MethodName := ⟨RX7, "add", "(IIII)V"⟩
abbrev cX7_putOut : ByteArray := prog_9_method_4_code
def yX7_putOut : MethodName := ⟨RX7, "putOut", "(I)V"⟩
abbrev cX7_clear : ByteArray := prog_9_method_5_code
def yX7_clear : MethodName := ⟨RX7, "clear", "()V"⟩
abbrev cX7_running : ByteArray := prog_9_method_6_code
def yX7_running : MethodName := ⟨RX7, "running", "()I"⟩
abbrev cX7_isRunning : ByteArray := prog_9_method_7_code
def yX7_isRunning : MethodName := ⟨RX7, "isRunning", "(I)Z"⟩
abbrev cX7_isCandidate : ByteArray := prog_9_method_8_code
def yX7_isCandidate : MethodName := ⟨RX7, "isCandidate", "(II)Z"⟩
abbrev cX7_candidatesOf : ByteArray := prog_9_method_9_code
def yX7_candidatesOf : MethodName := ⟨RX7, "candidatesOf", "(I)I"⟩
abbrev cX7_writeCandidates : ByteArray := prog_9_method_10_code
def yX7_writeCandidates : MethodName := ⟨RX7, "writeCandidates", "(I[I)I"⟩
def RX8 : String := "Songnations$Stage"
def TX8 : u_T := fun k => match k with
  | 0 => ("Songnations$Stage", "songs", "LSongnations$Songs;", true)
  | 1 => ("Songnations$Stage", "order", "[I", true)
  | 2 => ("Songnations$Stage", "trial", "[I", true)
  | 3 => ("Songnations$Stage", "count", "I", false)
  | _ => ("Songnations$Stage", "ofFirstHalf", "I", false)
def tyX8 : Nat → FieldType := fun k => match k with
  | 0 => .object "Songnations$Songs"
  | 1 => .array .int
  | 2 => .array .int
  | 3 => .int
  | _ => .int
abbrev wsX80 : List Cond := u_ws RX8 TX8 5
theorem nmX8 : ∀ a, a < 5 → ∀ b, b < 5 → a ≠ b → (TX8 a).2.1 ≠ (TX8 b).2.1 := by decide +kernel
theorem tyX8_ok : ∀ k, k < 5 → parseFieldDescriptor (TX8 k).2.2.1 = some (tyX8 k) := by decide +kernel
abbrev cX8_init : ByteArray := prog_10_method_1_code
def yX8_init : MethodName := ⟨RX8, "<init>", "(LSongnations$Songs;)V"⟩
abbrev cX8_insert : ByteArray := prog_10_method_2_code
def yX8_insert : MethodName := ⟨RX8, "insert", "(I)V"⟩
abbrev cX8_clear : ByteArray := prog_10_method_4_code
def yX8_clear : MethodName := ⟨RX8, "clear", "()V"⟩
abbrev cX8_placeOf : ByteArray := prog_10_method_5_code
def yX8_placeOf : MethodName := ⟨RX8, "placeOf", "(I)I"⟩
abbrev cX8_isOfHalf : ByteArray := prog_10_method_6_code
def yX8_isOfHalf : MethodName := ⟨RX8, "isOfHalf", "(II)Z"⟩
abbrev cX8_shift : ByteArray := prog_10_method_7_code
def yX8_shift : MethodName := ⟨RX8, "shift", "(II)V"⟩
abbrev cX8_delay : ByteArray := prog_10_method_8_code
def yX8_delay : MethodName := ⟨RX8, "delay", "()I"⟩
abbrev cX8_bestShift : ByteArray := prog_10_method_9_code
def yX8_bestShift : MethodName := ⟨RX8, "bestShift", "()I"⟩
abbrev cX8_delayWith : ByteArray := prog_10_method_10_code
def yX8_delayWith : MethodName := ⟨RX8, "delayWith", "(II)I"⟩
abbrev cX8_writeTrial : ByteArray := prog_10_method_11_code
def yX8_writeTrial : MethodName := ⟨RX8, "writeTrial", "(II)V"⟩
abbrev cX8_delayOf : ByteArray := prog_10_method_12_code
def yX8_delayOf : MethodName := ⟨RX8, "delayOf", "([I)I"⟩
def RX9 : String := "Songnations"
def TX9 : u_T := fun k => match k with
  | 0 => ("Songnations", "book", "LSongnations$Rules;", true)
  | 1 => ("Songnations", "lands", "LSongnations$Lands;", true)
  | 2 => ("Songnations", "songs", "LSongnations$Songs;", true)
  | 3 => ("Songnations", "stage", "LSongnations$Stage;", true)
  | 4 => ("Songnations", "ballots", "LSongnations$Ballots;", true)
  | 5 => ("Songnations", "juries", "LSongnations$Juries;", true)
  | 6 => ("Songnations", "phones", "LSongnations$Phones;", true)
  | 7 => ("Songnations", "ranking", "LSongnations$Ranking;", true)
  | 8 => ("Songnations", "board", "LSongnations$Board;", true)
  | 9 => ("Songnations", "year", "I", false)
  | 10 => ("Songnations", "phase", "I", false)
  | 11 => ("Songnations", "winner", "I", false)
  | 12 => ("Songnations", "winnerBefore", "I", false)
  | 13 => ("Songnations", "host", "I", false)
  | 14 => ("Songnations", "corrections", "I", false)
  | _ => ("Songnations", "isCounted", "Z", false)
def tyX9 : Nat → FieldType := fun k => match k with
  | 0 => .object "Songnations$Rules"
  | 1 => .object "Songnations$Lands"
  | 2 => .object "Songnations$Songs"
  | 3 => .object "Songnations$Stage"
  | 4 => .object "Songnations$Ballots"
  | 5 => .object "Songnations$Juries"
  | 6 => .object "Songnations$Phones"
  | 7 => .object "Songnations$Ranking"
  | 8 => .object "Songnations$Board"
  | 9 => .int
  | 10 => .int
  | 11 => .int
  | 12 => .int
  | 13 => .int
  | 14 => .int
  | _ => .boolean
abbrev wsX90 : List Cond := u_ws RX9 TX9 16
theorem nmX9 : ∀ a, a < 16 → ∀ b, b < 16 → a ≠ b → (TX9 a).2.1 ≠ (TX9 b).2.1 := by decide +kernel
theorem tyX9_ok : ∀ k, k < 16 → parseFieldDescriptor (TX9 k).2.2.1 = some (tyX9 k) := by decide +kernel
abbrev cX9_init : ByteArray := prog_1_method_1_code
def yX9_init : MethodName := ⟨RX9, "<init>", "()V"⟩
abbrev cX9_land : ByteArray := prog_1_method_2_code
def yX9_land : MethodName := ⟨RX9, "land", "(II)I"⟩
abbrev cX9_rules : ByteArray := prog_1_method_3_code
def yX9_rules : MethodName := ⟨RX9, "rules", "(IIIIZ)I"⟩
abbrev cX9_enter : ByteArray := prog_1_method_4_code
def yX9_enter : MethodName := ⟨RX9, "enter", "(IIII)I"⟩
abbrev cX9_move : ByteArray := prog_1_method_6_code
def yX9_move : MethodName := ⟨RX9, "move", "(II)I"⟩
abbrev cX9_start : ByteArray := prog_1_method_7_code
def yX9_start : MethodName := ⟨RX9, "start", "()I"⟩
abbrev cX9_jury : ByteArray := prog_1_method_8_code
def yX9_jury : MethodName := ⟨RX9, "jury", "(III)I"⟩
abbrev cX9_call : ByteArray := prog_1_method_9_code
def yX9_call : MethodName := ⟨RX9, "call", "(IIII)I"⟩
abbrev cX9_disqualify : ByteArray := prog_1_method_10_code
def yX9_disqualify : MethodName := ⟨RX9, "disqualify", "(I)I"⟩
abbrev cX9_close : ByteArray := prog_1_method_11_code
def yX9_close : MethodName := ⟨RX9, "close", "()I"⟩
abbrev cX9_read : ByteArray := prog_1_method_13_code
def yX9_read : MethodName := ⟨RX9, "read", "(I)I"⟩
abbrev cX9_readCalls : ByteArray := prog_1_method_14_code
def yX9_readCalls : MethodName := ⟨RX9, "readCalls", "()I"⟩
abbrev cX9_correct : ByteArray := prog_1_method_15_code
def yX9_correct : MethodName := ⟨RX9, "correct", "(I)I"⟩
abbrev cX9_end : ByteArray := prog_1_method_16_code
def yX9_end : MethodName := ⟨RX9, "end", "()I"⟩
abbrev cX9_next : ByteArray := prog_1_method_17_code
def yX9_next : MethodName := ⟨RX9, "next", "()I"⟩
abbrev cX9_ofLand : ByteArray := prog_1_method_18_code
def yX9_ofLand : MethodName := ⟨RX9, "ofLand", "(II)I"⟩
abbrev cX9_ofSong : ByteArray := prog_1_method_19_code
def yX9_ofSong : MethodName := ⟨RX9, "ofSong", "(II)I"⟩
abbrev cX9_gives : ByteArray := prog_1_method_20_code
def yX9_gives : MethodName := ⟨RX9, "gives", "(IIZ)I"⟩
abbrev cX9_at : ByteArray := prog_1_method_21_code
def yX9_at : MethodName := ⟨RX9, "at", "(I)I"⟩
abbrev cX9_ranked : ByteArray := prog_1_method_22_code
def yX9_ranked : MethodName := ⟨RX9, "ranked", "(I)I"⟩
abbrev cX9_many : ByteArray := prog_1_method_23_code
def yX9_many : MethodName := ⟨RX9, "many", "(I)I"⟩
abbrev cX9_meanTotal : ByteArray := prog_1_method_24_code
def yX9_meanTotal : MethodName := ⟨RX9, "meanTotal", "()D"⟩
abbrev cX9_isOpen : ByteArray := prog_1_method_25_code
def yX9_isOpen : MethodName := ⟨RX9, "isOpen", "()Z"⟩
abbrev cX9_nextRead : ByteArray := prog_1_method_26_code
def yX9_nextRead : MethodName := ⟨RX9, "nextRead", "()I"⟩
abbrev cX9_without : ByteArray := prog_1_method_27_code
def yX9_without : MethodName := ⟨RX9, "without", "(I)I"⟩
abbrev cX9_bestMove : ByteArray := prog_1_method_29_code
def yX9_bestMove : MethodName := ⟨RX9, "bestMove", "()I"⟩
abbrev cX9_digest : ByteArray := prog_1_method_30_code
def yX9_digest : MethodName := ⟨RX9, "digest", "()J"⟩
abbrev cX9_digestOfLand : ByteArray := prog_1_method_31_code
def yX9_digestOfLand : MethodName := ⟨RX9, "digestOfLand", "(JI)J"⟩
abbrev cX9_numberOfLand : ByteArray := prog_1_method_32_code
def yX9_numberOfLand : MethodName := ⟨RX9, "numberOfLand", "(II)I"⟩
abbrev cX9_numberOfSong : ByteArray := prog_1_method_33_code
def yX9_numberOfSong : MethodName := ⟨RX9, "numberOfSong", "(II)I"⟩
abbrev cX9_numberOfContest : ByteArray := prog_1_method_34_code
def yX9_numberOfContest : MethodName := ⟨RX9, "numberOfContest", "(I)I"⟩
abbrev cX9_canStillChange : ByteArray := prog_1_method_35_code
def yX9_canStillChange : MethodName := ⟨RX9, "canStillChange", "()Z"⟩
abbrev cX9_closestLand : ByteArray := prog_1_method_36_code
def yX9_closestLand : MethodName := ⟨RX9, "closestLand", "()I"⟩
abbrev cX9_needLand : ByteArray := prog_1_method_37_code
def yX9_needLand : MethodName := ⟨RX9, "needLand", "(I)V"⟩
abbrev cX9_needSong : ByteArray := prog_1_method_38_code
def yX9_needSong : MethodName := ⟨RX9, "needSong", "(I)V"⟩
abbrev cX9_needPhase : ByteArray := prog_1_method_39_code
def yX9_needPhase : MethodName := ⟨RX9, "needPhase", "(I)V"⟩
abbrev cX9_canMove : ByteArray := prog_1_method_40_code
def yX9_canMove : MethodName := ⟨RX9, "canMove", "()Z"⟩
abbrev cX9_count : ByteArray := prog_1_method_41_code
def yX9_count : MethodName := ⟨RX9, "count", "()V"⟩
abbrev cX9_voidJuries : ByteArray := prog_1_method_42_code
def yX9_voidJuries : MethodName := ⟨RX9, "voidJuries", "()I"⟩
abbrev cX9_findHost : ByteArray := prog_1_method_43_code
def yX9_findHost : MethodName := ⟨RX9, "findHost", "()I"⟩
abbrev cX9_isWithin : ByteArray := prog_1_method_44_code
def yX9_isWithin : MethodName := ⟨RX9, "isWithin", "(III)Z"⟩
abbrev cX9_weight : ByteArray := prog_1_method_45_code
def yX9_weight : MethodName := ⟨RX9, "weight", "(I)I"⟩
abbrev cX9_ordersOf : ByteArray := prog_1_method_46_code
def yX9_ordersOf : MethodName := ⟨RX9, "ordersOf", "(I)I"⟩
abbrev cX9_sortDown : ByteArray := prog_1_method_47_code
def yX9_sortDown : MethodName := ⟨RX9, "sortDown", "([II[I)V"⟩
def RX10 : String := "SongnationsModel$Call"
def TX10 : u_T := fun k => match k with
  | _ => ("", "", "", false)
def tyX10 : Nat → FieldType := fun k => match k with
  | _ => .int
abbrev wsX100 : List Cond := u_ws RX10 TX10 0
theorem nmX10 : ∀ a, a < 0 → ∀ b, b < 0 → a ≠ b → (TX10 a).2.1 ≠ (TX10 b).2.1 := by decide +kernel
theorem tyX10_ok : ∀ k, k < 0 → parseFieldDescriptor (TX10 k).2.2.1 = some (tyX10 k) := by decide +kernel
def RX11 : String := "SongnationsModel$Gives"
def TX11 : u_T := fun k => match k with
  | _ => ("", "", "", false)
def tyX11 : Nat → FieldType := fun k => match k with
  | _ => .int
abbrev wsX110 : List Cond := u_ws RX11 TX11 0
theorem nmX11 : ∀ a, a < 0 → ∀ b, b < 0 → a ≠ b → (TX11 a).2.1 ≠ (TX11 b).2.1 := by decide +kernel
theorem tyX11_ok : ∀ k, k < 0 → parseFieldDescriptor (TX11 k).2.2.1 = some (tyX11 k) := by decide +kernel
def RX12 : String := "SongnationsModel$Land"
def TX12 : u_T := fun k => match k with
  | _ => ("", "", "", false)
def tyX12 : Nat → FieldType := fun k => match k with
  | _ => .int
abbrev wsX120 : List Cond := u_ws RX12 TX12 0
theorem nmX12 : ∀ a, a < 0 → ∀ b, b < 0 → a ≠ b → (TX12 a).2.1 ≠ (TX12 b).2.1 := by decide +kernel
theorem tyX12_ok : ∀ k, k < 0 → parseFieldDescriptor (TX12 k).2.2.1 = some (tyX12 k) := by decide +kernel
def RX13 : String := "SongnationsModel$Song"
def TX13 : u_T := fun k => match k with
  | _ => ("", "", "", false)
def tyX13 : Nat → FieldType := fun k => match k with
  | _ => .int
abbrev wsX130 : List Cond := u_ws RX13 TX13 0
theorem nmX13 : ∀ a, a < 0 → ∀ b, b < 0 → a ≠ b → (TX13 a).2.1 ≠ (TX13 b).2.1 := by decide +kernel
theorem tyX13_ok : ∀ k, k < 0 → parseFieldDescriptor (TX13 k).2.2.1 = some (tyX13 k) := by decide +kernel
def RX14 : String := "SongnationsModel"
def TX14 : u_T := fun k => match k with
  | _ => ("", "", "", false)
def tyX14 : Nat → FieldType := fun k => match k with
  | _ => .int
abbrev wsX140 : List Cond := u_ws RX14 TX14 0
theorem nmX14 : ∀ a, a < 0 → ∀ b, b < 0 → a ≠ b → (TX14 a).2.1 ≠ (TX14 b).2.1 := by decide +kernel
theorem tyX14_ok : ∀ k, k < 0 → parseFieldDescriptor (TX14 k).2.2.1 = some (tyX14 k) := by decide +kernel
def RL : String := "SongnationsLaw"
abbrev cL_below : ByteArray := method_2_code
def yL_below : MethodName := ⟨RL, "below", "(II)I"⟩
abbrev cL_cell : ByteArray := method_3_code
def yL_cell : MethodName := ⟨RL, "cell", "([II)I"⟩
abbrev cL_law : ByteArray := code
def yL_law : MethodName := ⟨RL, "law", "([I)Z"⟩
abbrev cL_areGiven : ByteArray := method_5_code
def yL_areGiven : MethodName := ⟨RL, "areGiven", "(LSongnations;IZ)Z"⟩
abbrev cL_has : ByteArray := method_6_code
def yL_has : MethodName := ⟨RL, "has", "(LSongnations;I)Z"⟩
abbrev cL_isRead : ByteArray := method_7_code
def yL_isRead : MethodName := ⟨RL, "isRead", "(LSongnations;[III)Z"⟩
abbrev cL_isEnded : ByteArray := method_8_code
def yL_isEnded : MethodName := ⟨RL, "isEnded", "(LSongnations;[II)Z"⟩
def wsL_law0_r1 : List Cond := [Cond.classLink RL 9 RX9, Cond.instantiable RX9 16, Cond.initialized RX9, Cond.arrayClass .int, Cond.methodLink RL 11 yX9_init, Cond.instanceMethod yX9_init, Cond.code yX9_init cX9_init 7 none, Cond.methodLink RX9 1 objectInit, Cond.instanceMethod objectInit, Cond.code objectInit ⟨#[0xb1]⟩ 1 none, Cond.classLink RX9 7 RX3, Cond.instantiable RX3 6, Cond.initialized RX3, Cond.classLink RX9 10 RX7, Cond.instantiable RX7 7, Cond.initialized RX7, Cond.classLink RX9 13 RX8, Cond.instantiable RX8 5, Cond.initialized RX8, Cond.classLink RX9 18 RX0, Cond.instantiable RX0 5, Cond.initialized RX0, Cond.classLink RX9 21 RX2, Cond.instantiable RX2 11]
def wsL_law0_r2 : List Cond := [Cond.initialized RX2, Cond.classLink RX9 26 RX4, Cond.instantiable RX4 11, Cond.initialized RX4, Cond.classLink RX9 29 RX6, Cond.instantiable RX6 5, Cond.initialized RX6, Cond.fieldLink RX9 32 "Songnations" "book" "LSongnations$Rules;", Cond.fieldLink RX9 38 "Songnations" "lands" "LSongnations$Lands;", Cond.fieldLink RX9 42 "Songnations" "songs" "LSongnations$Songs;", Cond.fieldLink RX9 46 "Songnations" "stage" "LSongnations$Stage;", Cond.fieldLink RX9 50 "Songnations" "ballots" "LSongnations$Ballots;", Cond.fieldLink RX9 54 "Songnations" "juries" "LSongnations$Juries;", Cond.fieldLink RX9 58 "Songnations" "phones" "LSongnations$Phones;", Cond.classLink RX9 62 RX5, Cond.instantiable RX5 9, Cond.initialized RX5, Cond.fieldLink RX9 67 "Songnations" "ranking" "LSongnations$Ranking;", Cond.classLink RX9 71 RX1, Cond.instantiable RX1 9, Cond.initialized RX1, Cond.fieldLink RX9 76 "Songnations" "board" "LSongnations$Board;", Cond.fieldLink RX9 80 "Songnations" "year" "I", Cond.fieldLink RX9 84 "Songnations" "phase" "I"]
def wsL_law0_r3 : List Cond := [Cond.fieldLink RX9 87 "Songnations" "winner" "I", Cond.fieldLink RX9 90 "Songnations" "winnerBefore" "I", Cond.fieldLink RX9 93 "Songnations" "host" "I", Cond.fieldLink RX9 96 "Songnations" "corrections" "I", Cond.fieldLink RX9 99 "Songnations" "isCounted" "Z", Cond.instanceMethod yX3_init, Cond.code yX3_init cX3_init 1 none, Cond.methodLink RX3 3 objectInit, Cond.fieldLink RX3 9 "Songnations$Lands" "count" "I", Cond.fieldLink RX3 15 "Songnations$Lands" "pot" "[I", Cond.fieldLink RX3 19 "Songnations$Lands" "beds" "[I", Cond.fieldLink RX3 22 "Songnations$Lands" "money" "[I", Cond.fieldLink RX3 25 "Songnations$Lands" "wins" "[I", Cond.fieldLink RX3 28 "Songnations$Lands" "hostings" "[I", Cond.instanceMethod yX7_init, Cond.code yX7_init cX7_init 1 none, Cond.methodLink RX7 3 objectInit, Cond.fieldLink RX7 9 "Songnations$Songs" "count" "I", Cond.fieldLink RX7 15 "Songnations$Songs" "outCount" "I", Cond.arrayClass .boolean, Cond.fieldLink RX7 18 "Songnations$Songs" "isIn" "[Z", Cond.fieldLink RX7 22 "Songnations$Songs" "isOut" "[Z", Cond.fieldLink RX7 25 "Songnations$Songs" "seconds" "[I", Cond.fieldLink RX7 29 "Songnations$Songs" "props" "[I"]
def wsL_law0_r4 : List Cond := [Cond.fieldLink RX7 32 "Songnations$Songs" "half" "[I", Cond.methodLink RX9 15 yX8_init, Cond.instanceMethod yX8_init, Cond.code yX8_init cX8_init 2 none, Cond.methodLink RX8 3 objectInit, Cond.fieldLink RX8 9 "Songnations$Stage" "order" "[I", Cond.fieldLink RX8 15 "Songnations$Stage" "trial" "[I", Cond.fieldLink RX8 18 "Songnations$Stage" "count" "I", Cond.fieldLink RX8 22 "Songnations$Stage" "ofFirstHalf" "I", Cond.fieldLink RX8 25 "Songnations$Stage" "songs" "LSongnations$Songs;", Cond.methodLink RX9 20 yX0_init, Cond.instanceMethod yX0_init, Cond.code yX0_init cX0_init 2 none, Cond.methodLink RX0 3 objectInit, Cond.classLink RX0 9 "[[I", Cond.fieldLink RX0 11 "Songnations$Ballots" "rows" "[[I", Cond.fieldLink RX0 16 "Songnations$Ballots" "sizes" "[I", Cond.fieldLink RX0 20 "Songnations$Ballots" "isGiven" "[Z", Cond.fieldLink RX0 24 "Songnations$Ballots" "left" "[I", Cond.fieldLink RX0 27 "Songnations$Ballots" "songs" "LSongnations$Songs;", Cond.methodLink RX9 23 yX2_init, Cond.instanceMethod yX2_init, Cond.code yX2_init cX2_init 4 none, Cond.methodLink RX2 3 objectInit]
def wsL_law0_r5 : List Cond := [Cond.classLink RX2 9 "[[I", Cond.fieldLink RX2 11 "Songnations$Juries" "sums" "[[I", Cond.fieldLink RX2 16 "Songnations$Juries" "orders" "[[I", Cond.fieldLink RX2 19 "Songnations$Juries" "points" "[[I", Cond.fieldLink RX2 22 "Songnations$Juries" "sizes" "[I", Cond.fieldLink RX2 26 "Songnations$Juries" "outlier" "[I", Cond.fieldLink RX2 29 "Songnations$Juries" "isVoid" "[Z", Cond.fieldLink RX2 33 "Songnations$Juries" "praised" "[I", Cond.fieldLink RX2 36 "Songnations$Juries" "places" "[I", Cond.fieldLink RX2 39 "Songnations$Juries" "lands" "LSongnations$Lands;", Cond.fieldLink RX2 43 "Songnations$Juries" "songs" "LSongnations$Songs;", Cond.fieldLink RX2 47 "Songnations$Juries" "ballots" "LSongnations$Ballots;", Cond.methodLink RX9 28 yX4_init, Cond.instanceMethod yX4_init, Cond.code yX4_init cX4_init 2 none, Cond.methodLink RX4 3 objectInit, Cond.classLink RX4 9 "[[I", Cond.fieldLink RX4 11 "Songnations$Phones" "told" "[[I", Cond.fieldLink RX4 16 "Songnations$Phones" "used" "[I", Cond.fieldLink RX4 20 "Songnations$Phones" "calls" "[[I", Cond.fieldLink RX4 23 "Songnations$Phones" "callers" "[[I", Cond.fieldLink RX4 26 "Songnations$Phones" "points" "[[I", Cond.fieldLink RX4 29 "Songnations$Phones" "inAll" "[I", Cond.fieldLink RX4 32 "Songnations$Phones" "inBlocks" "[I"]
def wsL_law0_r6 : List Cond := [Cond.fieldLink RX4 35 "Songnations$Phones" "firsts" "[I", Cond.fieldLink RX4 38 "Songnations$Phones" "row" "[I", Cond.fieldLink RX4 41 "Songnations$Phones" "keys" "[I", Cond.fieldLink RX4 44 "Songnations$Phones" "songs" "LSongnations$Songs;", Cond.instanceMethod yX6_init, Cond.code yX6_init cX6_init 1 none, Cond.methodLink RX6 1 objectInit, Cond.fieldLink RX6 7 "Songnations$Rules" "length" "I", Cond.fieldLink RX6 13 "Songnations$Rules" "people" "I", Cond.fieldLink RX6 16 "Songnations$Rules" "limit" "I", Cond.fieldLink RX6 19 "Songnations$Rules" "threshold" "I", Cond.fieldLink RX6 22 "Songnations$Rules" "isAudit" "Z", Cond.methodLink RX9 64 yX5_init, Cond.instanceMethod yX5_init, Cond.code yX5_init cX5_init 5 none, Cond.methodLink RX5 3 objectInit, Cond.fieldLink RX5 9 "Songnations$Ranking" "juryPoints" "[I", Cond.fieldLink RX5 15 "Songnations$Ranking" "callPoints" "[I", Cond.fieldLink RX5 18 "Songnations$Ranking" "order" "[I", Cond.fieldLink RX5 21 "Songnations$Ranking" "keys" "[I", Cond.fieldLink RX5 24 "Songnations$Ranking" "count" "I", Cond.fieldLink RX5 28 "Songnations$Ranking" "songs" "LSongnations$Songs;", Cond.fieldLink RX5 32 "Songnations$Ranking" "stage" "LSongnations$Stage;", Cond.fieldLink RX5 36 "Songnations$Ranking" "juries" "LSongnations$Juries;"]
def wsL_law0_r7 : List Cond := [Cond.fieldLink RX5 40 "Songnations$Ranking" "phones" "LSongnations$Phones;", Cond.methodLink RX9 73 yX1_init, Cond.instanceMethod yX1_init, Cond.code yX1_init cX1_init 3 none, Cond.methodLink RX1 3 objectInit, Cond.classLink RX1 9 "[[I", Cond.fieldLink RX1 11 "Songnations$Board" "jury" "[[I", Cond.fieldLink RX1 16 "Songnations$Board" "calls" "[I", Cond.fieldLink RX1 20 "Songnations$Board" "isRead" "[Z", Cond.fieldLink RX1 24 "Songnations$Board" "isDown" "[Z", Cond.fieldLink RX1 27 "Songnations$Board" "areCallsRead" "[Z", Cond.fieldLink RX1 30 "Songnations$Board" "landsRead" "I", Cond.fieldLink RX1 34 "Songnations$Board" "songsRead" "I", Cond.fieldLink RX1 37 "Songnations$Board" "lands" "LSongnations$Lands;", Cond.fieldLink RX1 41 "Songnations$Board" "songs" "LSongnations$Songs;", Cond.methodLink RL 12 yL_cell, Cond.static yL_cell, Cond.initialized RL, Cond.code yL_cell cL_cell 2 (some .int), Cond.constant RL 8 (790386105), Cond.methodLink RL 18 yL_below, Cond.static yL_below, Cond.code yL_below cL_below 2 (some .int), Cond.constant RL 7 (2147483647)]
def wsL_law0_r8 : List Cond := [Cond.methodLink RL 22 yX9_land, Cond.instanceMethod yX9_land, Cond.selects RX9 yX9_land yX9_land, Cond.code yX9_land cX9_land 3 (some .int), Cond.classLink RX9 107 "java/lang/IllegalArgumentException", Cond.initialized "java/lang/IllegalArgumentException", Cond.classLink RX9 121 "java/lang/IllegalStateException", Cond.initialized "java/lang/IllegalStateException", Cond.fieldLink RX9 118 "Songnations$Lands" "count" "I", Cond.methodLink RX9 103 yX9_isWithin, Cond.static yX9_isWithin, Cond.code yX9_isWithin cX9_isWithin 3 (some .boolean), Cond.methodLink RX9 114 yX9_needPhase, Cond.instanceMethod yX9_needPhase, Cond.selects RX9 yX9_needPhase yX9_needPhase, Cond.code yX9_needPhase cX9_needPhase 2 none, Cond.methodLink RX9 126 yX3_add, Cond.instanceMethod yX3_add, Cond.selects RX3 yX3_add yX3_add, Cond.code yX3_add cX3_add 3 (some .int), Cond.methodLink RL 25 yX9_rules, Cond.instanceMethod yX9_rules, Cond.selects RX9 yX9_rules yX9_rules, Cond.code yX9_rules cX9_rules 7 (some .int)]
def wsL_law0_r9 : List Cond := [Cond.fieldLink RX9 134 "Songnations$Songs" "count" "I", Cond.fieldLink RX9 137 "Songnations$Rules" "length" "I", Cond.fieldLink RX9 140 "Songnations$Rules" "people" "I", Cond.fieldLink RX9 143 "Songnations$Rules" "limit" "I", Cond.fieldLink RX9 146 "Songnations$Rules" "threshold" "I", Cond.fieldLink RX9 149 "Songnations$Rules" "isAudit" "Z", Cond.methodLink RL 29 yX9_enter, Cond.instanceMethod yX9_enter, Cond.selects RX9 yX9_enter yX9_enter, Cond.code yX9_enter cX9_enter 6 (some .int), Cond.fieldLink RX9 157 "Songnations$Songs" "isIn" "[Z", Cond.fieldLink RX9 169 "Songnations$Lands" "money" "[I", Cond.methodLink RX9 152 yX9_needLand, Cond.instanceMethod yX9_needLand, Cond.selects RX9 yX9_needLand yX9_needLand, Cond.code yX9_needLand cX9_needLand 2 none, Cond.classLink RX9 201 "java/lang/IndexOutOfBoundsException", Cond.initialized "java/lang/IndexOutOfBoundsException", Cond.methodLink RX9 163 yX7_add, Cond.instanceMethod yX7_add, Cond.selects RX7 yX7_add yX7_add, Cond.code yX7_add cX7_add 5 none, Cond.methodLink RX9 166 yX8_insert, Cond.instanceMethod yX8_insert]
def wsL_law0_r10 : List Cond := [Cond.selects RX8 yX8_insert yX8_insert, Cond.code yX8_insert cX8_insert 5 none, Cond.fieldLink RX8 29 "Songnations$Songs" "half" "[I", Cond.methodLink RL 33 yX9_many, Cond.instanceMethod yX9_many, Cond.selects RX9 yX9_many yX9_many, Cond.code yX9_many cX9_many 2 (some .int), Cond.methodLink RX9 255 yX9_count, Cond.instanceMethod yX9_count, Cond.selects RX9 yX9_count yX9_count, Cond.code yX9_count cX9_count 2 none, Cond.fieldLink RX9 277 "Songnations$Juries" "points" "[[I", Cond.methodLink RX9 445 yX2_countAll, Cond.instanceMethod yX2_countAll, Cond.selects RX2 yX2_countAll yX2_countAll, Cond.code yX2_countAll cX2_countAll 3 none, Cond.fieldLink RX2 51 "Songnations$Lands" "count" "I", Cond.methodLink RX2 57 yX2_countLand, Cond.instanceMethod yX2_countLand, Cond.selects RX2 yX2_countLand yX2_countLand, Cond.code yX2_countLand cX2_countLand 3 none, Cond.methodLink RX2 73 yX0_given, Cond.instanceMethod yX0_given, Cond.selects RX0 yX0_given yX0_given]
def wsL_law0_r11 : List Cond := [Cond.code yX0_given cX0_given 4 (some .int), Cond.methodLink RX0 31 yX0_numberOf, Cond.static yX0_numberOf, Cond.code yX0_numberOf cX0_numberOf 2 (some .int), Cond.methodLink RX2 79 yX2_addBallots, Cond.instanceMethod yX2_addBallots, Cond.selects RX2 yX2_addBallots yX2_addBallots, Cond.code yX2_addBallots cX2_addBallots 3 none, Cond.methodLink RX2 95 yX2_clearRow, Cond.static yX2_clearRow, Cond.code yX2_clearRow cX2_clearRow 2 none, Cond.methodLink RX2 99 yX2_isCounting, Cond.instanceMethod yX2_isCounting, Cond.selects RX2 yX2_isCounting yX2_isCounting, Cond.code yX2_isCounting cX2_isCounting 3 (some .boolean), Cond.fieldLink RX2 88 "Songnations$Ballots" "isGiven" "[Z", Cond.methodLink RX2 91 yX0_numberOf, Cond.methodLink RX2 103 yX0_addWeights, Cond.instanceMethod yX0_addWeights, Cond.selects RX0 yX0_addWeights yX0_addWeights, Cond.code yX0_addWeights cX0_addWeights 6 none, Cond.static yX9_weight, Cond.code yX9_weight cX9_weight 1 (some .int), Cond.fieldLink RX9 458 "Songnations" "WEIGHTS" "[I"]
def wsL_law0_r12 : List Cond := [Cond.methodLink RX2 67 yX2_sortCandidates, Cond.instanceMethod yX2_sortCandidates, Cond.selects RX2 yX2_sortCandidates yX2_sortCandidates, Cond.code yX2_sortCandidates cX2_sortCandidates 2 none, Cond.methodLink RX2 107 yX7_writeCandidates, Cond.instanceMethod yX7_writeCandidates, Cond.selects RX7 yX7_writeCandidates yX7_writeCandidates, Cond.code yX7_writeCandidates cX7_writeCandidates 5 (some .int), Cond.methodLink RX7 43 yX7_isCandidate, Cond.instanceMethod yX7_isCandidate, Cond.selects RX7 yX7_isCandidate yX7_isCandidate, Cond.code yX7_isCandidate cX7_isCandidate 3 (some .boolean), Cond.static yX9_sortDown, Cond.code yX9_sortDown cX9_sortDown 6 none, Cond.methodLink RX2 82 yX2_findOutlier, Cond.instanceMethod yX2_findOutlier, Cond.selects RX2 yX2_findOutlier yX2_findOutlier, Cond.code yX2_findOutlier cX2_findOutlier 6 (some .int), Cond.methodLink RX2 117 yX0_distance, Cond.instanceMethod yX0_distance, Cond.selects RX0 yX0_distance yX0_distance, Cond.code yX0_distance cX0_distance 7 (some .int), Cond.methodLink RX0 48 Lib.Math.abs.name, Cond.static Lib.Math.abs.name]
def wsL_law0_r13 : List Cond := [Cond.initialized "java/lang/Math", Cond.code Lib.Math.abs.name Lib.Math.abs.code 1 (some .int), Cond.methodLink RX2 85 yX2_findPraised, Cond.instanceMethod yX2_findPraised, Cond.selects RX2 yX2_findPraised yX2_findPraised, Cond.code yX2_findPraised cX2_findPraised 5 (some .int), Cond.methodLink RX2 121 yX0_firstOn, Cond.instanceMethod yX0_firstOn, Cond.selects RX0 yX0_firstOn yX0_firstOn, Cond.code yX0_firstOn cX0_firstOn 4 (some .int), Cond.methodLink RX2 61 yX2_voidPairs, Cond.instanceMethod yX2_voidPairs, Cond.selects RX2 yX2_voidPairs yX2_voidPairs, Cond.code yX2_voidPairs cX2_voidPairs 3 none, Cond.methodLink RX2 64 yX2_borrowSums, Cond.instanceMethod yX2_borrowSums, Cond.selects RX2 yX2_borrowSums yX2_borrowSums, Cond.code yX2_borrowSums cX2_borrowSums 3 none, Cond.fieldLink RX2 124 "Songnations$Lands" "pot" "[I", Cond.methodLink RX2 127 yX2_addCandidates, Cond.instanceMethod yX2_addCandidates, Cond.selects RX2 yX2_addCandidates yX2_addCandidates, Cond.code yX2_addCandidates cX2_addCandidates 4 none, Cond.methodLink RX2 131 yX7_isCandidate]
def wsL_law0_r14 : List Cond := [Cond.methodLink RX2 70 yX2_givePoints, Cond.instanceMethod yX2_givePoints, Cond.selects RX2 yX2_givePoints yX2_givePoints, Cond.code yX2_givePoints cX2_givePoints 4 none, Cond.methodLink RX9 449 yX4_countLand, Cond.instanceMethod yX4_countLand, Cond.selects RX4 yX4_countLand yX4_countLand, Cond.code yX4_countLand cX4_countLand 4 none, Cond.methodLink RX4 60 yX4_countSong, Cond.instanceMethod yX4_countSong, Cond.selects RX4 yX4_countSong yX4_countSong, Cond.code yX4_countSong cX4_countSong 8 none, Cond.methodLink RX4 70 yX4_fullCallers, Cond.instanceMethod yX4_fullCallers, Cond.selects RX4 yX4_fullCallers yX4_fullCallers, Cond.code yX4_fullCallers cX4_fullCallers 6 (some .int), Cond.methodLink RX4 48 yX4_lineOf, Cond.static yX4_lineOf, Cond.code yX4_lineOf cX4_lineOf 2 (some .int), Cond.methodLink RX4 64 yX7_isCandidate, Cond.methodLink RX9 452 yX4_givePoints, Cond.instanceMethod yX4_givePoints, Cond.selects RX4 yX4_givePoints yX4_givePoints, Cond.code yX4_givePoints cX4_givePoints 9 none]
def wsL_law0_r15 : List Cond := [Cond.methodLink RX4 74 yX7_writeCandidates, Cond.methodLink RX9 456 yX5_countAll, Cond.instanceMethod yX5_countAll, Cond.selects RX5 yX5_countAll yX5_countAll, Cond.code yX5_countAll cX5_countAll 2 none, Cond.methodLink RX5 44 yX7_isRunning, Cond.instanceMethod yX7_isRunning, Cond.selects RX7 yX7_isRunning yX7_isRunning, Cond.code yX7_isRunning cX7_isRunning 2 (some .boolean), Cond.methodLink RX5 50 yX5_addPoints, Cond.instanceMethod yX5_addPoints, Cond.selects RX5 yX5_addPoints yX5_addPoints, Cond.code yX5_addPoints cX5_addPoints 3 none, Cond.fieldLink RX5 62 "Songnations$Juries" "points" "[[I", Cond.fieldLink RX5 68 "Songnations$Phones" "points" "[[I", Cond.methodLink RX5 54 yX5_keyWithout, Cond.instanceMethod yX5_keyWithout, Cond.selects RX5 yX5_keyWithout yX5_keyWithout, Cond.code yX5_keyWithout cX5_keyWithout 9 (some .int), Cond.methodLink RX5 71 yX8_placeOf, Cond.instanceMethod yX8_placeOf, Cond.selects RX8 yX8_placeOf yX8_placeOf, Cond.code yX8_placeOf cX8_placeOf 3 (some .int), Cond.methodLink RX9 350 yX9_numberOfContest]
def wsL_law0_r16 : List Cond := [Cond.instanceMethod yX9_numberOfContest, Cond.selects RX9 yX9_numberOfContest yX9_numberOfContest, Cond.code yX9_numberOfContest cX9_numberOfContest 2 (some .int), Cond.fieldLink RX9 426 "Songnations$Songs" "outCount" "I", Cond.fieldLink RX9 291 "Songnations$Board" "landsRead" "I", Cond.fieldLink RX9 429 "Songnations$Board" "songsRead" "I", Cond.methodLink RX9 195 yX8_delay, Cond.instanceMethod yX8_delay, Cond.selects RX8 yX8_delay yX8_delay, Cond.code yX8_delay cX8_delay 1 (some .int), Cond.methodLink RX8 42 yX8_delayOf, Cond.instanceMethod yX8_delayOf, Cond.selects RX8 yX8_delayOf yX8_delayOf, Cond.code yX8_delayOf cX8_delayOf 5 (some .int), Cond.fieldLink RX8 62 "Songnations$Songs" "props" "[I", Cond.methodLink RX8 65 Lib.Math.max.name, Cond.static Lib.Math.max.name, Cond.code Lib.Math.max.name Lib.Math.max.code 2 (some .int), Cond.methodLink RX9 257 yX9_voidJuries, Cond.instanceMethod yX9_voidJuries, Cond.selects RX9 yX9_voidJuries yX9_voidJuries, Cond.code yX9_voidJuries cX9_voidJuries 3 (some .int), Cond.fieldLink RX9 393 "Songnations$Juries" "isVoid" "[Z", Cond.methodLink RL 37 yX9_bestMove]
def wsL_law0_r17 : List Cond := [Cond.instanceMethod yX9_bestMove, Cond.selects RX9 yX9_bestMove yX9_bestMove, Cond.code yX9_bestMove cX9_bestMove 1 (some .int), Cond.methodLink RX9 181 yX9_canMove, Cond.instanceMethod yX9_canMove, Cond.selects RX9 yX9_canMove yX9_canMove, Cond.code yX9_canMove cX9_canMove 1 (some .boolean), Cond.methodLink RX9 368 yX8_bestShift, Cond.instanceMethod yX8_bestShift, Cond.selects RX8 yX8_bestShift yX8_bestShift, Cond.code yX8_bestShift cX8_bestShift 6 (some .int), Cond.fieldLink RX8 50 "Songnations$Songs" "isIn" "[Z", Cond.methodLink RX8 46 yX8_delay, Cond.methodLink RX8 54 yX8_isOfHalf, Cond.instanceMethod yX8_isOfHalf, Cond.selects RX8 yX8_isOfHalf yX8_isOfHalf, Cond.code yX8_isOfHalf cX8_isOfHalf 3 (some .boolean), Cond.methodLink RX8 58 yX8_delayWith, Cond.instanceMethod yX8_delayWith, Cond.selects RX8 yX8_delayWith yX8_delayWith, Cond.code yX8_delayWith cX8_delayWith 3 (some .int), Cond.methodLink RX8 38 yX8_writeTrial, Cond.instanceMethod yX8_writeTrial, Cond.selects RX8 yX8_writeTrial yX8_writeTrial]
def wsL_law0_r18 : List Cond := [Cond.code yX8_writeTrial cX8_writeTrial 5 none, Cond.methodLink RL 41 yX9_move, Cond.instanceMethod yX9_move, Cond.selects RX9 yX9_move yX9_move, Cond.code yX9_move cX9_move 3 (some .int), Cond.methodLink RX9 185 yX8_isOfHalf, Cond.methodLink RX9 191 yX8_shift, Cond.instanceMethod yX8_shift, Cond.selects RX8 yX8_shift yX8_shift, Cond.code yX8_shift cX8_shift 4 none, Cond.methodLink RL 44 yX9_start, Cond.instanceMethod yX9_start, Cond.selects RX9 yX9_start yX9_start, Cond.code yX9_start cX9_start 1 (some .int), Cond.methodLink RL 47 yX9_at, Cond.instanceMethod yX9_at, Cond.selects RX9 yX9_at yX9_at, Cond.code yX9_at cX9_at 2 (some .int), Cond.fieldLink RX9 342 "Songnations$Stage" "count" "I", Cond.fieldLink RX9 343 "Songnations$Stage" "order" "[I", Cond.methodLink RL 50 yX9_jury, Cond.instanceMethod yX9_jury, Cond.selects RX9 yX9_jury yX9_jury, Cond.code yX9_jury cX9_jury 4 (some .int)]
def wsL_law0_r19 : List Cond := [Cond.methodLink RX9 206 yX7_candidatesOf, Cond.instanceMethod yX7_candidatesOf, Cond.selects RX7 yX7_candidatesOf yX7_candidatesOf, Cond.code yX7_candidatesOf cX7_candidatesOf 2 (some .int), Cond.methodLink RX7 35 yX7_running, Cond.instanceMethod yX7_running, Cond.selects RX7 yX7_running yX7_running, Cond.code yX7_running cX7_running 1 (some .int), Cond.methodLink RX7 39 yX7_isRunning, Cond.methodLink RX9 210 yX9_ordersOf, Cond.static yX9_ordersOf, Cond.code yX9_ordersOf cX9_ordersOf 3 (some .int), Cond.methodLink RX9 215 yX0_write, Cond.instanceMethod yX0_write, Cond.selects RX0 yX0_write yX0_write, Cond.code yX0_write cX0_write 12 none, Cond.methodLink RX0 35 yX7_writeCandidates, Cond.methodLink RX9 219 yX0_firstOn, Cond.methodLink RL 54 yX9_ofSong, Cond.instanceMethod yX9_ofSong, Cond.selects RX9 yX9_ofSong yX9_ofSong, Cond.code yX9_ofSong cX9_ofSong 3 (some .int), Cond.methodLink RX9 222 yX9_needSong, Cond.instanceMethod yX9_needSong]
def wsL_law0_r20 : List Cond := [Cond.selects RX9 yX9_needSong yX9_needSong, Cond.code yX9_needSong cX9_needSong 2 none, Cond.methodLink RX9 338 yX9_numberOfSong, Cond.instanceMethod yX9_numberOfSong, Cond.selects RX9 yX9_numberOfSong yX9_numberOfSong, Cond.code yX9_numberOfSong cX9_numberOfSong 3 (some .int), Cond.fieldLink RX9 402 "Songnations$Songs" "seconds" "[I", Cond.fieldLink RX9 405 "Songnations$Songs" "props" "[I", Cond.fieldLink RX9 408 "Songnations$Songs" "half" "[I", Cond.fieldLink RX9 238 "Songnations$Songs" "isOut" "[Z", Cond.fieldLink RX9 414 "Songnations$Ranking" "juryPoints" "[I", Cond.fieldLink RX9 296 "Songnations$Ranking" "callPoints" "[I", Cond.fieldLink RX9 423 "Songnations$Board" "calls" "[I", Cond.methodLink RX9 411 yX8_placeOf, Cond.methodLink RX9 417 yX5_rankOf, Cond.instanceMethod yX5_rankOf, Cond.selects RX5 yX5_rankOf yX5_rankOf, Cond.code yX5_rankOf cX5_rankOf 3 (some .int), Cond.methodLink RX9 420 yX1_juryOf, Cond.instanceMethod yX1_juryOf, Cond.selects RX1 yX1_juryOf yX1_juryOf, Cond.code yX1_juryOf cX1_juryOf 4 (some .int), Cond.methodLink RL 57 yX9_call, Cond.instanceMethod yX9_call]
def wsL_law0_r21 : List Cond := [Cond.selects RX9 yX9_call yX9_call, Cond.code yX9_call cX9_call 5 (some .int), Cond.methodLink RX9 227 yX7_isCandidate, Cond.methodLink RX9 232 yX4_take, Cond.instanceMethod yX4_take, Cond.selects RX4 yX4_take yX4_take, Cond.code yX4_take cX4_take 8 (some .int), Cond.methodLink RX4 52 Lib.Math.min.name, Cond.static Lib.Math.min.name, Cond.code Lib.Math.min.name Lib.Math.min.code 2 (some .int), Cond.methodLink RX4 57 Lib.Math.max.name, Cond.methodLink RL 60 yX9_disqualify, Cond.instanceMethod yX9_disqualify, Cond.selects RX9 yX9_disqualify yX9_disqualify, Cond.code yX9_disqualify cX9_disqualify 2 (some .int), Cond.methodLink RX9 241 yX7_running, Cond.methodLink RX9 246 yX7_putOut, Cond.instanceMethod yX7_putOut, Cond.selects RX7 yX7_putOut yX7_putOut, Cond.code yX7_putOut cX7_putOut 2 none, Cond.methodLink RX9 249 yX0_takeOut, Cond.instanceMethod yX0_takeOut, Cond.selects RX0 yX0_takeOut yX0_takeOut, Cond.code yX0_takeOut cX0_takeOut 5 none]
def wsL_law0_r22 : List Cond := [Cond.methodLink RX9 252 yX1_wipe, Cond.instanceMethod yX1_wipe, Cond.selects RX1 yX1_wipe yX1_wipe, Cond.code yX1_wipe cX1_wipe 3 none, Cond.methodLink RL 63 yL_areGiven, Cond.static yL_areGiven, Cond.code yL_areGiven cL_areGiven 11 (some .boolean), Cond.methodLink RL 92 yL_has, Cond.static yL_has, Cond.codeWith yL_has cL_has 3 (some .boolean) [(0, 14, 15, 110)], Cond.classLink RL 110 "java/lang/IndexOutOfBoundsException", Cond.methodLink RL 96 yX9_gives, Cond.instanceMethod yX9_gives, Cond.selects RX9 yX9_gives yX9_gives, Cond.code yX9_gives cX9_gives 4 (some .int), Cond.fieldLink RX9 341 "Songnations$Phones" "points" "[[I", Cond.methodLink RL 100 yX9_ofLand, Cond.instanceMethod yX9_ofLand, Cond.selects RX9 yX9_ofLand yX9_ofLand, Cond.code yX9_ofLand cX9_ofLand 3 (some .int), Cond.methodLink RX9 333 yX9_numberOfLand, Cond.instanceMethod yX9_numberOfLand, Cond.selects RX9 yX9_numberOfLand yX9_numberOfLand, Cond.code yX9_numberOfLand cX9_numberOfLand 3 (some .int)]
def wsL_law0_r23 : List Cond := [Cond.fieldLink RX9 381 "Songnations$Lands" "pot" "[I", Cond.fieldLink RX9 384 "Songnations$Lands" "beds" "[I", Cond.fieldLink RX9 390 "Songnations$Juries" "outlier" "[I", Cond.fieldLink RX9 396 "Songnations$Phones" "inAll" "[I", Cond.fieldLink RX9 399 "Songnations$Phones" "inBlocks" "[I", Cond.fieldLink RX9 260 "Songnations$Board" "isRead" "[Z", Cond.fieldLink RX9 313 "Songnations$Lands" "wins" "[I", Cond.fieldLink RX9 319 "Songnations$Lands" "hostings" "[I", Cond.methodLink RX9 387 yX0_given, Cond.methodLink RL 103 yX9_ranked, Cond.instanceMethod yX9_ranked, Cond.selects RX9 yX9_ranked yX9_ranked, Cond.code yX9_ranked cX9_ranked 2 (some .int), Cond.methodLink RX9 310 yX5_songAt, Cond.instanceMethod yX5_songAt, Cond.selects RX5 yX5_songAt yX5_songAt, Cond.code yX5_songAt cX5_songAt 2 (some .int), Cond.methodLink RL 106 yX9_meanTotal, Cond.instanceMethod yX9_meanTotal, Cond.selects RX9 yX9_meanTotal yX9_meanTotal, Cond.code yX9_meanTotal cX9_meanTotal 2 (some .double), Cond.methodLink RX9 353 yX5_sumOfTotals, Cond.instanceMethod yX5_sumOfTotals, Cond.selects RX5 yX5_sumOfTotals yX5_sumOfTotals]
def wsL_law0_r24 : List Cond := [Cond.code yX5_sumOfTotals cX5_sumOfTotals 3 (some .int), Cond.methodLink RL 67 yX9_close, Cond.instanceMethod yX9_close, Cond.selects RX9 yX9_close yX9_close, Cond.code yX9_close cX9_close 1 (some .int), Cond.methodLink RL 70 yL_isRead, Cond.static yL_isRead, Cond.code yL_isRead cL_isRead 8 (some .boolean), Cond.methodLink RL 86 yX9_nextRead, Cond.instanceMethod yX9_nextRead, Cond.selects RX9 yX9_nextRead yX9_nextRead, Cond.code yX9_nextRead cX9_nextRead 1 (some .int), Cond.methodLink RX9 359 yX9_closestLand, Cond.instanceMethod yX9_closestLand, Cond.selects RX9 yX9_closestLand yX9_closestLand, Cond.code yX9_closestLand cX9_closestLand 5 (some .int), Cond.methodLink RX9 271 yX1_canRead, Cond.instanceMethod yX1_canRead, Cond.selects RX1 yX1_canRead yX1_canRead, Cond.code yX1_canRead cX1_canRead 2 (some .boolean), Cond.methodLink RX9 435 yX1_leadWith, Cond.instanceMethod yX1_leadWith, Cond.selects RX1 yX1_leadWith yX1_leadWith, Cond.code yX1_leadWith cX1_leadWith 6 (some .int)]
def wsL_law0_r25 : List Cond := [Cond.methodLink RX1 68 yX7_isRunning, Cond.methodLink RX1 73 yX1_juryOf, Cond.methodLink RL 112 yX9_read, Cond.instanceMethod yX9_read, Cond.selects RX9 yX9_read yX9_read, Cond.code yX9_read cX9_read 2 (some .int), Cond.methodLink RX9 281 yX1_takeLand, Cond.instanceMethod yX1_takeLand, Cond.selects RX1 yX1_takeLand yX1_takeLand, Cond.code yX1_takeLand cX1_takeLand 4 none, Cond.methodLink RX1 58 yX1_put, Cond.instanceMethod yX1_put, Cond.selects RX1 yX1_put yX1_put, Cond.code yX1_put cX1_put 5 (some .int), Cond.methodLink RX1 62 Lib.Math.abs.name, Cond.methodLink RX9 285 yX2_topOf, Cond.instanceMethod yX2_topOf, Cond.selects RX2 yX2_topOf yX2_topOf, Cond.code yX2_topOf cX2_topOf 3 (some .int), Cond.methodLink RL 115 yX9_correct, Cond.instanceMethod yX9_correct, Cond.selects RX9 yX9_correct yX9_correct, Cond.code yX9_correct cX9_correct 2 (some .int), Cond.methodLink RX9 304 yX1_put]
def wsL_law0_r26 : List Cond := [Cond.methodLink RL 118 yX9_readCalls, Cond.instanceMethod yX9_readCalls, Cond.selects RX9 yX9_readCalls yX9_readCalls, Cond.code yX9_readCalls cX9_readCalls 3 (some .int), Cond.methodLink RX9 288 yX1_nextSong, Cond.instanceMethod yX1_nextSong, Cond.selects RX1 yX1_nextSong yX1_nextSong, Cond.code yX1_nextSong cX1_nextSong 5 (some .int), Cond.methodLink RX9 299 yX1_takeCalls, Cond.instanceMethod yX1_takeCalls, Cond.selects RX1 yX1_takeCalls yX1_takeCalls, Cond.code yX1_takeCalls cX1_takeCalls 3 none, Cond.methodLink RL 82 yX9_isOpen, Cond.instanceMethod yX9_isOpen, Cond.selects RX9 yX9_isOpen yX9_isOpen, Cond.code yX9_isOpen cX9_isOpen 1 (some .boolean), Cond.methodLink RX9 356 yX9_canStillChange, Cond.instanceMethod yX9_canStillChange, Cond.selects RX9 yX9_canStillChange yX9_canStillChange, Cond.code yX9_canStillChange cX9_canStillChange 1 (some .boolean), Cond.methodLink RX9 432 yX1_hopefuls, Cond.instanceMethod yX1_hopefuls, Cond.selects RX1 yX1_hopefuls yX1_hopefuls, Cond.code yX1_hopefuls cX1_hopefuls 5 (some .int)]
def wsL_law0_r27 : List Cond := [Cond.methodLink RX1 76 Lib.Math.max.name, Cond.methodLink RX1 80 yX1_stillToCome, Cond.instanceMethod yX1_stillToCome, Cond.selects RX1 yX1_stillToCome yX1_stillToCome, Cond.code yX1_stillToCome cX1_stillToCome 4 (some .int), Cond.fieldLink RX1 49 "Songnations$Lands" "count" "I", Cond.methodLink RL 74 yL_isEnded, Cond.static yL_isEnded, Cond.code yL_isEnded cL_isEnded 9 (some .boolean), Cond.methodLink RL 121 yX9_end, Cond.instanceMethod yX9_end, Cond.selects RX9 yX9_end yX9_end, Cond.code yX9_end cX9_end 1 (some .int), Cond.methodLink RX9 316 yX9_findHost, Cond.instanceMethod yX9_findHost, Cond.selects RX9 yX9_findHost yX9_findHost, Cond.code yX9_findHost cX9_findHost 3 (some .int), Cond.methodLink RL 124 yX9_next, Cond.instanceMethod yX9_next, Cond.selects RX9 yX9_next yX9_next, Cond.code yX9_next cX9_next 1 (some .int), Cond.methodLink RX9 324 yX7_clear, Cond.instanceMethod yX7_clear, Cond.selects RX7 yX7_clear yX7_clear]
def wsL_law0_r28 : List Cond := [Cond.code yX7_clear cX7_clear 2 none, Cond.methodLink RX9 327 yX8_clear, Cond.instanceMethod yX8_clear, Cond.selects RX8 yX8_clear yX8_clear, Cond.code yX8_clear cX8_clear 1 none, Cond.methodLink RX9 328 yX0_clear, Cond.instanceMethod yX0_clear, Cond.selects RX0 yX0_clear yX0_clear, Cond.code yX0_clear cX0_clear 2 none, Cond.methodLink RX9 329 yX4_clear, Cond.instanceMethod yX4_clear, Cond.selects RX4 yX4_clear yX4_clear, Cond.code yX4_clear cX4_clear 3 none, Cond.methodLink RX9 330 yX1_clear, Cond.instanceMethod yX1_clear, Cond.selects RX1 yX1_clear yX1_clear, Cond.code yX1_clear cX1_clear 2 none, Cond.methodLink RX1 45 yX1_wipe, Cond.methodLink RL 78 yX9_digest, Cond.instanceMethod yX9_digest, Cond.selects RX9 yX9_digest yX9_digest, Cond.code yX9_digest cX9_digest 5 (some .long), Cond.constantLong RX9 371 (58219), Cond.constantLong RX9 373 (31)]
def wsL_law0_r29 : List Cond := [Cond.fieldLink RX9 379 "Songnations$Ranking" "count" "I", Cond.fieldLink RX9 380 "Songnations$Ranking" "order" "[I", Cond.methodLink RX9 375 yX9_digestOfLand, Cond.instanceMethod yX9_digestOfLand, Cond.selects RX9 yX9_digestOfLand yX9_digestOfLand, Cond.code yX9_digestOfLand cX9_digestOfLand 7 (some .long), Cond.methodLink RX9 362 yX5_leaderWithout, Cond.instanceMethod yX5_leaderWithout, Cond.selects RX5 yX5_leaderWithout yX5_leaderWithout, Cond.code yX5_leaderWithout cX5_leaderWithout 6 (some .int), Cond.methodLink RX9 365 yX4_needed, Cond.instanceMethod yX4_needed, Cond.selects RX4 yX4_needed yX4_needed, Cond.code yX4_needed cX4_needed 6 (some .int), Cond.methodLink RX4 86 yX4_winsTie, Cond.instanceMethod yX4_winsTie, Cond.selects RX4 yX4_winsTie yX4_winsTie, Cond.code yX4_winsTie cX4_winsTie 6 (some .boolean), Cond.methodLink RL 89 yX9_without, Cond.instanceMethod yX9_without, Cond.selects RX9 yX9_without yX9_without, Cond.code yX9_without cX9_without 2 (some .int)]
def wsL_law0 : List Cond := (wsL_law0_r1 ++ (wsL_law0_r2 ++ (wsL_law0_r3 ++ (wsL_law0_r4 ++ (wsL_law0_r5 ++ (wsL_law0_r6 ++ (wsL_law0_r7 ++ (wsL_law0_r8 ++ (wsL_law0_r9 ++ (wsL_law0_r10 ++ (wsL_law0_r11 ++ (wsL_law0_r12 ++ (wsL_law0_r13 ++ (wsL_law0_r14 ++ (wsL_law0_r15 ++ (wsL_law0_r16 ++ (wsL_law0_r17 ++ (wsL_law0_r18 ++ (wsL_law0_r19 ++ (wsL_law0_r20 ++ (wsL_law0_r21 ++ (wsL_law0_r22 ++ (wsL_law0_r23 ++ (wsL_law0_r24 ++ (wsL_law0_r25 ++ (wsL_law0_r26 ++ (wsL_law0_r27 ++ (wsL_law0_r28 ++ wsL_law0_r29)))))))))))))))))))))))))))) ++ wsX90 ++ wsX30 ++ wsX70 ++ wsX80 ++ wsX00 ++ wsX20 ++ wsX40 ++ wsX60 ++ wsX50 ++ wsX10 ++ ([] : List Cond)
def wsL_law : List Cond := wsL_law0 ++ (vx_atS RX9 111 "java/lang/IllegalArgumentException" ["java/lang/RuntimeException", "java/lang/Exception"]).filter goodWord ++ (vx_atS RX9 125 "java/lang/IllegalStateException" ["java/lang/RuntimeException", "java/lang/Exception"]).filter goodWord ++ (vx_atS RX9 205 "java/lang/IndexOutOfBoundsException" ["java/lang/RuntimeException", "java/lang/Exception"]).filter goodWord
theorem inlX0 : ∀ w ∈ wsX00, w ∈ wsL_law := fun _ h => List.mem_append_left _ (List.mem_append_left _ (List.mem_append_left _ (List.mem_append_left _ (List.mem_append_left _ (List.mem_append_left _ (List.mem_append_left _ (List.mem_append_left _ (List.mem_append_left _ (List.mem_append_right _ h)))))))))
theorem inlX1 : ∀ w ∈ wsX10, w ∈ wsL_law := fun _ h => List.mem_append_left _ (List.mem_append_left _ (List.mem_append_left _ (List.mem_append_left _ (List.mem_append_right _ h))))
theorem inlX2 : ∀ w ∈ wsX20, w ∈ wsL_law := fun _ h => List.mem_append_left _ (List.mem_append_left _ (List.mem_append_left _ (List.mem_append_left _ (List.mem_append_left _ (List.mem_append_left _ (List.mem_append_left _ (List.mem_append_left _ (List.mem_append_right _ h))))))))
theorem inlX3 : ∀ w ∈ wsX30, w ∈ wsL_law := fun _ h => List.mem_append_left _ (List.mem_append_left _ (List.mem_append_left _ (List.mem_append_left _ (List.mem_append_left _ (List.mem_append_left _ (List.mem_append_left _ (List.mem_append_left _ (List.mem_append_left _ (List.mem_append_left _ (List.mem_append_left _ (List.mem_append_left _ (List.mem_append_right _ h))))))))))))
theorem inlX4 : ∀ w ∈ wsX40, w ∈ wsL_law := fun _ h => List.mem_append_left _ (List.mem_append_left _ (List.mem_append_left _ (List.mem_append_left _ (List.mem_append_left _ (List.mem_append_left _ (List.mem_append_left _ (List.mem_append_right _ h)))))))
theorem inlX5 : ∀ w ∈ wsX50, w ∈ wsL_law := fun _ h => List.mem_append_left _ (List.mem_append_left _ (List.mem_append_left _ (List.mem_append_left _ (List.mem_append_left _ (List.mem_append_right _ h)))))
theorem inlX6 : ∀ w ∈ wsX60, w ∈ wsL_law := fun _ h => List.mem_append_left _ (List.mem_append_left _ (List.mem_append_left _ (List.mem_append_left _ (List.mem_append_left _ (List.mem_append_left _ (List.mem_append_right _ h))))))
theorem inlX7 : ∀ w ∈ wsX70, w ∈ wsL_law := fun _ h => List.mem_append_left _ (List.mem_append_left _ (List.mem_append_left _ (List.mem_append_left _ (List.mem_append_left _ (List.mem_append_left _ (List.mem_append_left _ (List.mem_append_left _ (List.mem_append_left _ (List.mem_append_left _ (List.mem_append_left _ (List.mem_append_right _ h)))))))))))
theorem inlX8 : ∀ w ∈ wsX80, w ∈ wsL_law := fun _ h => List.mem_append_left _ (List.mem_append_left _ (List.mem_append_left _ (List.mem_append_left _ (List.mem_append_left _ (List.mem_append_left _ (List.mem_append_left _ (List.mem_append_left _ (List.mem_append_left _ (List.mem_append_left _ (List.mem_append_right _ h))))))))))
theorem inlX9 : ∀ w ∈ wsX90, w ∈ wsL_law := fun _ h => List.mem_append_left _ (List.mem_append_left _ (List.mem_append_left _ (List.mem_append_left _ (List.mem_append_left _ (List.mem_append_left _ (List.mem_append_left _ (List.mem_append_left _ (List.mem_append_left _ (List.mem_append_left _ (List.mem_append_left _ (List.mem_append_left _ (List.mem_append_left _ (List.mem_append_right _ h)))))))))))))
abbrev vwCl : List vw_C := [(RX0, TX0, 5), (RX1, TX1, 9), (RX2, TX2, 11), (RX3, TX3, 6), (RX4, TX4, 11), (RX5, TX5, 9), (RX6, TX6, 5), (RX7, TX7, 7), (RX8, TX8, 5), (RX9, TX9, 16)]
end
section
/-! the words that everything here asks for, found in the tables: piece by piece (by program, wip/p32/wordsgen.py) -/
set_option maxRecDepth 20000 in
theorem sn_g1 : GoodIn lw_tbl wsL_law0_r1 := goodIn_r wsL_law0_r1 [51, 52, 34, 93, 53, 54, 55, 56, 57, 58, 59, 60, 35, 94, 95, 36, 133, 134, 37, 157, 158, 38, 182, 183] rfl (by decide +kernel)
set_option maxRecDepth 20000 in
theorem sn_g2 : GoodIn lw_tbl wsL_law0_r2 := goodIn_r wsL_law0_r2 [39, 227, 228, 40, 272, 273, 41, 376, 377, 378, 379, 380, 381, 382, 299, 300, 42, 383, 337, 338, 43, 384, 385, 386] rfl (by decide +kernel)
set_option maxRecDepth 20000 in
theorem sn_g3 : GoodIn lw_tbl wsL_law0_r3 := goodIn_r wsL_law0_r3 [387, 388, 389, 390, 391, 62, 63, 64, 65, 69, 72, 74, 76, 78, 97, 98, 99, 100, 102, 132, 104, 107, 109, 111] rfl (by decide +kernel)
set_option maxRecDepth 20000 in
theorem sn_g4 : GoodIn lw_tbl wsL_law0_r4 := goodIn_r wsL_law0_r4 [114, 135, 136, 137, 138, 140, 142, 143, 145, 139, 159, 160, 161, 162, 163, 166, 167, 168, 170, 165, 184, 185, 186, 187] rfl (by decide +kernel)
set_option maxRecDepth 20000 in
theorem sn_g5 : GoodIn lw_tbl wsL_law0_r5 := goodIn_r wsL_law0_r5 [188, 192, 193, 194, 197, 198, 200, 202, 203, 189, 190, 191, 229, 230, 231, 232, 233, 235, 236, 237, 238, 239, 242, 244] rfl (by decide +kernel)
set_option maxRecDepth 20000 in
theorem sn_g6 : GoodIn lw_tbl wsL_law0_r6 := goodIn_r wsL_law0_r6 [246, 247, 248, 234, 275, 276, 277, 278, 280, 282, 284, 286, 301, 302, 303, 304, 309, 311, 313, 315, 316, 305, 306, 307] rfl (by decide +kernel)
set_option maxRecDepth 20000 in
theorem sn_g7 : GoodIn lw_tbl wsL_law0_r7 := goodIn_r wsL_law0_r7 [308, 339, 340, 341, 342, 343, 346, 347, 349, 351, 352, 353, 355, 344, 345, 927, 928, 33, 929, 930, 923, 924, 925, 926] rfl (by decide +kernel)
set_option maxRecDepth 20000 in
theorem sn_g8 : GoodIn lw_tbl wsL_law0_r8 := goodIn_r wsL_law0_r8 [425, 426, 427, 428, 432, 47, 504, 48, 67, 429, 430, 431, 500, 502, 1, 503, 521, 522, 523, 524, 525, 526, 527, 528] rfl (by decide +kernel)
set_option maxRecDepth 20000 in
theorem sn_g9 : GoodIn lw_tbl wsL_law0_r9 := goodIn_r wsL_law0_r9 [101, 279, 281, 283, 285, 287, 532, 533, 534, 535, 105, 75, 536, 538, 2, 539, 540, 49, 558, 559, 560, 561, 562, 563] rfl (by decide +kernel)
set_option maxRecDepth 20000 in
theorem sn_g10 : GoodIn lw_tbl wsL_law0_r10 := goodIn_r wsL_law0_r10 [564, 565, 115, 834, 835, 836, 837, 691, 693, 7, 694, 196, 695, 696, 697, 698, 66, 699, 701, 8, 702, 703, 704, 705] rfl (by decide +kernel)
set_option maxRecDepth 20000 in
theorem sn_g11 : GoodIn lw_tbl wsL_law0_r11 := goodIn_r wsL_law0_r11 [706, 629, 630, 631, 707, 709, 9, 710, 711, 712, 713, 714, 716, 10, 717, 169, 718, 719, 720, 721, 722, 724, 725, 726] rfl (by decide +kernel)
set_option maxRecDepth 20000 in
theorem sn_g12 : GoodIn lw_tbl wsL_law0_r12 := goodIn_r wsL_law0_r12 [728, 730, 11, 731, 732, 633, 634, 635, 636, 637, 638, 639, 734, 735, 736, 738, 12, 739, 740, 741, 742, 743, 744, 745] rfl (by decide +kernel)
set_option maxRecDepth 20000 in
theorem sn_g13 : GoodIn lw_tbl wsL_law0_r13 := goodIn_r wsL_law0_r13 [50, 746, 747, 749, 13, 750, 751, 642, 643, 644, 752, 754, 14, 755, 756, 758, 15, 759, 70, 760, 762, 16, 763, 764] rfl (by decide +kernel)
set_option maxRecDepth 20000 in
theorem sn_g14 : GoodIn lw_tbl wsL_law0_r14 := goodIn_r wsL_law0_r14 [765, 767, 17, 768, 770, 771, 772, 773, 774, 776, 18, 777, 778, 780, 19, 781, 661, 662, 663, 782, 783, 784, 785, 786] rfl (by decide +kernel)
set_option maxRecDepth 20000 in
theorem sn_g15 : GoodIn lw_tbl wsL_law0_r15 := goodIn_r wsL_law0_r15 [787, 790, 791, 792, 793, 794, 618, 619, 620, 795, 797, 20, 798, 195, 240, 799, 801, 21, 802, 803, 804, 805, 806, 839] rfl (by decide +kernel)
set_option maxRecDepth 20000 in
theorem sn_g16 : GoodIn lw_tbl wsL_law0_r16 := goodIn_r wsL_law0_r16 [841, 24, 842, 103, 354, 356, 588, 589, 590, 591, 592, 594, 5, 595, 112, 596, 597, 598, 808, 810, 22, 811, 201, 886] rfl (by decide +kernel)
set_option maxRecDepth 20000 in
theorem sn_g17 : GoodIn lw_tbl wsL_law0_r17 := goodIn_r wsL_law0_r17 [887, 888, 889, 571, 573, 3, 574, 890, 891, 892, 893, 106, 894, 895, 576, 577, 578, 896, 898, 28, 899, 584, 586, 4] rfl (by decide +kernel)
set_option maxRecDepth 20000 in
theorem sn_g18 : GoodIn lw_tbl wsL_law0_r18 := goodIn_r wsL_law0_r18 [587, 566, 567, 568, 569, 575, 580, 581, 582, 583, 599, 600, 601, 602, 830, 831, 832, 833, 144, 141, 604, 605, 606, 607] rfl (by decide +kernel)
set_option maxRecDepth 20000 in
theorem sn_g19 : GoodIn lw_tbl wsL_law0_r19 := goodIn_r wsL_law0_r19 [609, 610, 611, 612, 613, 614, 615, 616, 617, 621, 622, 623, 625, 626, 627, 628, 632, 641, 812, 813, 814, 815, 649, 651] rfl (by decide +kernel)
set_option maxRecDepth 20000 in
theorem sn_g20 : GoodIn lw_tbl wsL_law0_r20 := goodIn_r wsL_law0_r20 [6, 652, 817, 819, 23, 820, 110, 113, 116, 108, 310, 312, 348, 821, 822, 823, 824, 825, 826, 827, 828, 829, 645, 646] rfl (by decide +kernel)
set_option maxRecDepth 20000 in
theorem sn_g21 : GoodIn lw_tbl wsL_law0_r21 := goodIn_r wsL_law0_r21 [647, 648, 655, 657, 658, 659, 660, 664, 665, 666, 667, 668, 669, 670, 671, 673, 675, 676, 677, 678, 679, 680, 681, 682] rfl (by decide +kernel)
set_option maxRecDepth 20000 in
theorem sn_g22 : GoodIn lw_tbl wsL_law0_r22 := goodIn_r wsL_law0_r22 [683, 684, 685, 686, 931, 932, 933, 934, 935, 936, 937, 938, 939, 940, 941, 241, 942, 943, 944, 945, 910, 912, 30, 913] rfl (by decide +kernel)
set_option maxRecDepth 20000 in
theorem sn_g23 : GoodIn lw_tbl wsL_law0_r23 := goodIn_r wsL_law0_r23 [71, 73, 199, 243, 245, 350, 77, 79, 914, 947, 948, 949, 950, 952, 953, 954, 955, 957, 958, 959, 960, 961, 962, 963] rfl (by decide +kernel)
set_option maxRecDepth 20000 in
theorem sn_g24 : GoodIn lw_tbl wsL_law0_r24 := goodIn_r wsL_law0_r24 [964, 687, 688, 689, 690, 965, 966, 967, 862, 863, 864, 865, 866, 868, 27, 869, 870, 871, 872, 873, 874, 875, 876, 877] rfl (by decide +kernel)
set_option maxRecDepth 20000 in
theorem sn_g25 : GoodIn lw_tbl wsL_law0_r25 := goodIn_r wsL_law0_r25 [855, 856, 968, 969, 970, 971, 973, 974, 975, 976, 977, 978, 979, 980, 981, 982, 983, 984, 985, 986, 987, 988, 989, 991] rfl (by decide +kernel)
set_option maxRecDepth 20000 in
theorem sn_g26 : GoodIn lw_tbl wsL_law0_r26 := goodIn_r wsL_law0_r26 [992, 993, 994, 995, 996, 997, 998, 999, 1001, 1002, 1003, 1004, 843, 844, 845, 846, 847, 849, 25, 850, 851, 852, 853, 854] rfl (by decide +kernel)
set_option maxRecDepth 20000 in
theorem sn_g27 : GoodIn lw_tbl wsL_law0_r27 := goodIn_r wsL_law0_r27 [857, 858, 860, 26, 861, 68, 1005, 1006, 1007, 1008, 1009, 1010, 1011, 1013, 1015, 32, 1016, 1017, 1018, 1019, 1020, 1022, 1023, 1024] rfl (by decide +kernel)
set_option maxRecDepth 20000 in
theorem sn_g28 : GoodIn lw_tbl wsL_law0_r28 := goodIn_r wsL_law0_r28 [1025, 1026, 1027, 1028, 1029, 1030, 1031, 1032, 1033, 1034, 1035, 1036, 1037, 1038, 1039, 1040, 1041, 1042, 900, 901, 902, 903, 904, 905] rfl (by decide +kernel)
set_option maxRecDepth 20000 in
theorem sn_g29 : GoodIn lw_tbl wsL_law0_r29 := goodIn_r wsL_law0_r29 [317, 314, 906, 908, 29, 909, 882, 883, 884, 885, 915, 916, 917, 918, 919, 921, 31, 922, 878, 879, 880, 881] rfl (by decide +kernel)
set_option maxRecDepth 20000 in
theorem sn_gX9 : GoodIn lw_tbl wsX90 := goodIn_r wsX90 [392, 394, 396, 398, 400, 402, 404, 406, 408, 410, 412, 414, 416, 418, 420, 422] rfl (by decide +kernel)
set_option maxRecDepth 20000 in
theorem sn_gX3 : GoodIn lw_tbl wsX30 := goodIn_r wsX30 [80, 82, 84, 86, 88, 90] rfl (by decide +kernel)
set_option maxRecDepth 20000 in
theorem sn_gX7 : GoodIn lw_tbl wsX70 := goodIn_r wsX70 [117, 119, 121, 123, 125, 127, 129] rfl (by decide +kernel)
set_option maxRecDepth 20000 in
theorem sn_gX8 : GoodIn lw_tbl wsX80 := goodIn_r wsX80 [146, 148, 150, 152, 154] rfl (by decide +kernel)
set_option maxRecDepth 20000 in
theorem sn_gX0 : GoodIn lw_tbl wsX00 := goodIn_r wsX00 [171, 173, 175, 177, 179] rfl (by decide +kernel)
set_option maxRecDepth 20000 in
theorem sn_gX2 : GoodIn lw_tbl wsX20 := goodIn_r wsX20 [204, 206, 208, 210, 212, 214, 216, 218, 220, 222, 224] rfl (by decide +kernel)
set_option maxRecDepth 20000 in
theorem sn_gX4 : GoodIn lw_tbl wsX40 := goodIn_r wsX40 [249, 251, 253, 255, 257, 259, 261, 263, 265, 267, 269] rfl (by decide +kernel)
set_option maxRecDepth 20000 in
theorem sn_gX6 : GoodIn lw_tbl wsX60 := goodIn_r wsX60 [288, 290, 292, 294, 296] rfl (by decide +kernel)
set_option maxRecDepth 20000 in
theorem sn_gX5 : GoodIn lw_tbl wsX50 := goodIn_r wsX50 [318, 320, 322, 324, 326, 328, 330, 332, 334] rfl (by decide +kernel)
set_option maxRecDepth 20000 in
theorem sn_gX1 : GoodIn lw_tbl wsX10 := goodIn_r wsX10 [357, 359, 361, 363, 365, 367, 369, 371, 373] rfl (by decide +kernel)
theorem sn_g0 : GoodIn lw_tbl wsL_law0 := (goodIn_app (goodIn_app (goodIn_app (goodIn_app (goodIn_app (goodIn_app (goodIn_app (goodIn_app (goodIn_app (goodIn_app (goodIn_app (goodIn_app sn_g1 (goodIn_app sn_g2 (goodIn_app sn_g3 (goodIn_app sn_g4 (goodIn_app sn_g5 (goodIn_app sn_g6 (goodIn_app sn_g7 (goodIn_app sn_g8 (goodIn_app sn_g9 (goodIn_app sn_g10 (goodIn_app sn_g11 (goodIn_app sn_g12 (goodIn_app sn_g13 (goodIn_app sn_g14 (goodIn_app sn_g15 (goodIn_app sn_g16 (goodIn_app sn_g17 (goodIn_app sn_g18 (goodIn_app sn_g19 (goodIn_app sn_g20 (goodIn_app sn_g21 (goodIn_app sn_g22 (goodIn_app sn_g23 (goodIn_app sn_g24 (goodIn_app sn_g25 (goodIn_app sn_g26 (goodIn_app sn_g27 (goodIn_app sn_g28 sn_g29)))))))))))))))))))))))))))) sn_gX9) sn_gX3) sn_gX7) sn_gX8) sn_gX0) sn_gX2) sn_gX4) sn_gX6) sn_gX5) sn_gX1) (fun w h => absurd h List.not_mem_nil))
theorem wsL_law_x0 : ∀ w ∈ (vx_atS RX9 111 "java/lang/IllegalArgumentException" ["java/lang/RuntimeException", "java/lang/Exception"]).filter goodWord, w ∈ lw_tbl := by decide +kernel
theorem wsL_law_x1 : ∀ w ∈ (vx_atS RX9 125 "java/lang/IllegalStateException" ["java/lang/RuntimeException", "java/lang/Exception"]).filter goodWord, w ∈ lw_tbl := by decide +kernel
theorem wsL_law_x2 : ∀ w ∈ (vx_atS RX9 205 "java/lang/IndexOutOfBoundsException" ["java/lang/RuntimeException", "java/lang/Exception"]).filter goodWord, w ∈ lw_tbl := by decide +kernel
theorem sn_gf {L : List Cond} (h : ∀ w ∈ L.filter goodWord, w ∈ lw_tbl) : GoodIn lw_tbl (L.filter goodWord) := fun w hw => ⟨h w hw, good_of_word (List.mem_filter.mp hw).2⟩
theorem sn_gl : GoodIn lw_tbl wsL_law := goodIn_app (goodIn_app (goodIn_app sn_g0 (sn_gf wsL_law_x0)) (sn_gf wsL_law_x1)) (sn_gf wsL_law_x2)
theorem wsL_law_in : ∀ w ∈ wsL_law, w ∈ lw_tbl := fun w h => (sn_gl w h).1
theorem sn_n1 : ∀ w ∈ wsL_law0_r1, w ∈ wsL_law := fun _ h => (List.mem_append_left _ (List.mem_append_left _ (List.mem_append_left _ (List.mem_append_left _ (List.mem_append_left _ (List.mem_append_left _ (List.mem_append_left _ (List.mem_append_left _ (List.mem_append_left _ (List.mem_append_left _ (List.mem_append_left _ (List.mem_append_left _ (List.mem_append_left _ (List.mem_append_left _ (List.mem_append_left _ h)))))))))))))))
theorem sn_n2 : ∀ w ∈ wsL_law0_r2, w ∈ wsL_law := fun _ h => (List.mem_append_left _ (List.mem_append_left _ (List.mem_append_left _ (List.mem_append_left _ (List.mem_append_left _ (List.mem_append_left _ (List.mem_append_left _ (List.mem_append_left _ (List.mem_append_left _ (List.mem_append_left _ (List.mem_append_left _ (List.mem_append_left _ (List.mem_append_left _ (List.mem_append_left _ (List.mem_append_right _ (List.mem_append_left _ h))))))))))))))))
theorem sn_n3 : ∀ w ∈ wsL_law0_r3, w ∈ wsL_law := fun _ h => (List.mem_append_left _ (List.mem_append_left _ (List.mem_append_left _ (List.mem_append_left _ (List.mem_append_left _ (List.mem_append_left _ (List.mem_append_left _ (List.mem_append_left _ (List.mem_append_left _ (List.mem_append_left _ (List.mem_append_left _ (List.mem_append_left _ (List.mem_append_left _ (List.mem_append_left _ (List.mem_append_right _ (List.mem_append_right _ (List.mem_append_left _ h)))))))))))))))))
theorem sn_n4 : ∀ w ∈ wsL_law0_r4, w ∈ wsL_law := fun _ h => (List.mem_append_left _ (List.mem_append_left _ (List.mem_append_left _ (List.mem_append_left _ (List.mem_append_left _ (List.mem_append_left _ (List.mem_append_left _ (List.mem_append_left _ (List.mem_append_left _ (List.mem_append_left _ (List.mem_append_left _ (List.mem_append_left _ (List.mem_append_left _ (List.mem_append_left _ (List.mem_append_right _ (List.mem_append_right _ (List.mem_append_right _ (List.mem_append_left _ h))))))))))))))))))
theorem sn_n5 : ∀ w ∈ wsL_law0_r5, w ∈ wsL_law := fun _ h => (List.mem_append_left _ (List.mem_append_left _ (List.mem_append_left _ (List.mem_append_left _ (List.mem_append_left _ (List.mem_append_left _ (List.mem_append_left _ (List.mem_append_left _ (List.mem_append_left _ (List.mem_append_left _ (List.mem_append_left _ (List.mem_append_left _ (List.mem_append_left _ (List.mem_append_left _ (List.mem_append_right _ (List.mem_append_right _ (List.mem_append_right _ (List.mem_append_right _ (List.mem_append_left _ h)))))))))))))))))))
theorem sn_n6 : ∀ w ∈ wsL_law0_r6, w ∈ wsL_law := fun _ h => (List.mem_append_left _ (List.mem_append_left _ (List.mem_append_left _ (List.mem_append_left _ (List.mem_append_left _ (List.mem_append_left _ (List.mem_append_left _ (List.mem_append_left _ (List.mem_append_left _ (List.mem_append_left _ (List.mem_append_left _ (List.mem_append_left _ (List.mem_append_left _ (List.mem_append_left _ (List.mem_append_right _ (List.mem_append_right _ (List.mem_append_right _ (List.mem_append_right _ (List.mem_append_right _ (List.mem_append_left _ h))))))))))))))))))))
theorem sn_n7 : ∀ w ∈ wsL_law0_r7, w ∈ wsL_law := fun _ h => (List.mem_append_left _ (List.mem_append_left _ (List.mem_append_left _ (List.mem_append_left _ (List.mem_append_left _ (List.mem_append_left _ (List.mem_append_left _ (List.mem_append_left _ (List.mem_append_left _ (List.mem_append_left _ (List.mem_append_left _ (List.mem_append_left _ (List.mem_append_left _ (List.mem_append_left _ (List.mem_append_right _ (List.mem_append_right _ (List.mem_append_right _ (List.mem_append_right _ (List.mem_append_right _ (List.mem_append_right _ (List.mem_append_left _ h)))))))))))))))))))))
theorem sn_n8 : ∀ w ∈ wsL_law0_r8, w ∈ wsL_law := fun _ h => (List.mem_append_left _ (List.mem_append_left _ (List.mem_append_left _ (List.mem_append_left _ (List.mem_append_left _ (List.mem_append_left _ (List.mem_append_left _ (List.mem_append_left _ (List.mem_append_left _ (List.mem_append_left _ (List.mem_append_left _ (List.mem_append_left _ (List.mem_append_left _ (List.mem_append_left _ (List.mem_append_right _ (List.mem_append_right _ (List.mem_append_right _ (List.mem_append_right _ (List.mem_append_right _ (List.mem_append_right _ (List.mem_append_right _ (List.mem_append_left _ h))))))))))))))))))))))
theorem sn_n9 : ∀ w ∈ wsL_law0_r9, w ∈ wsL_law := fun _ h => (List.mem_append_left _ (List.mem_append_left _ (List.mem_append_left _ (List.mem_append_left _ (List.mem_append_left _ (List.mem_append_left _ (List.mem_append_left _ (List.mem_append_left _ (List.mem_append_left _ (List.mem_append_left _ (List.mem_append_left _ (List.mem_append_left _ (List.mem_append_left _ (List.mem_append_left _ (List.mem_append_right _ (List.mem_append_right _ (List.mem_append_right _ (List.mem_append_right _ (List.mem_append_right _ (List.mem_append_right _ (List.mem_append_right _ (List.mem_append_right _ (List.mem_append_left _ h)))))))))))))))))))))))
theorem sn_n10 : ∀ w ∈ wsL_law0_r10, w ∈ wsL_law := fun _ h => (List.mem_append_left _ (List.mem_append_left _ (List.mem_append_left _ (List.mem_append_left _ (List.mem_append_left _ (List.mem_append_left _ (List.mem_append_left _ (List.mem_append_left _ (List.mem_append_left _ (List.mem_append_left _ (List.mem_append_left _ (List.mem_append_left _ (List.mem_append_left _ (List.mem_append_left _ (List.mem_append_right _ (List.mem_append_right _ (List.mem_append_right _ (List.mem_append_right _ (List.mem_append_right _ (List.mem_append_right _ (List.mem_append_right _ (List.mem_append_right _ (List.mem_append_right _ (List.mem_append_left _ h))))))))))))))))))))))))
theorem sn_n11 : ∀ w ∈ wsL_law0_r11, w ∈ wsL_law := fun _ h => (List.mem_append_left _ (List.mem_append_left _ (List.mem_append_left _ (List.mem_append_left _ (List.mem_append_left _ (List.mem_append_left _ (List.mem_append_left _ (List.mem_append_left _ (List.mem_append_left _ (List.mem_append_left _ (List.mem_append_left _ (List.mem_append_left _ (List.mem_append_left _ (List.mem_append_left _ (List.mem_append_right _ (List.mem_append_right _ (List.mem_append_right _ (List.mem_append_right _ (List.mem_append_right _ (List.mem_append_right _ (List.mem_append_right _ (List.mem_append_right _ (List.mem_append_right _ (List.mem_append_right _ (List.mem_append_left _ h)))))))))))))))))))))))))
theorem sn_n12 : ∀ w ∈ wsL_law0_r12, w ∈ wsL_law := fun _ h => (List.mem_append_left _ (List.mem_append_left _ (List.mem_append_left _ (List.mem_append_left _ (List.mem_append_left _ (List.mem_append_left _ (List.mem_append_left _ (List.mem_append_left _ (List.mem_append_left _ (List.mem_append_left _ (List.mem_append_left _ (List.mem_append_left _ (List.mem_append_left _ (List.mem_append_left _ (List.mem_append_right _ (List.mem_append_right _ (List.mem_append_right _ (List.mem_append_right _ (List.mem_append_right _ (List.mem_append_right _ (List.mem_append_right _ (List.mem_append_right _ (List.mem_append_right _ (List.mem_append_right _ (List.mem_append_right _ (List.mem_append_left _ h))))))))))))))))))))))))))
theorem sn_n13 : ∀ w ∈ wsL_law0_r13, w ∈ wsL_law := fun _ h => (List.mem_append_left _ (List.mem_append_left _ (List.mem_append_left _ (List.mem_append_left _ (List.mem_append_left _ (List.mem_append_left _ (List.mem_append_left _ (List.mem_append_left _ (List.mem_append_left _ (List.mem_append_left _ (List.mem_append_left _ (List.mem_append_left _ (List.mem_append_left _ (List.mem_append_left _ (List.mem_append_right _ (List.mem_append_right _ (List.mem_append_right _ (List.mem_append_right _ (List.mem_append_right _ (List.mem_append_right _ (List.mem_append_right _ (List.mem_append_right _ (List.mem_append_right _ (List.mem_append_right _ (List.mem_append_right _ (List.mem_append_right _ (List.mem_append_left _ h)))))))))))))))))))))))))))
theorem sn_n14 : ∀ w ∈ wsL_law0_r14, w ∈ wsL_law := fun _ h => (List.mem_append_left _ (List.mem_append_left _ (List.mem_append_left _ (List.mem_append_left _ (List.mem_append_left _ (List.mem_append_left _ (List.mem_append_left _ (List.mem_append_left _ (List.mem_append_left _ (List.mem_append_left _ (List.mem_append_left _ (List.mem_append_left _ (List.mem_append_left _ (List.mem_append_left _ (List.mem_append_right _ (List.mem_append_right _ (List.mem_append_right _ (List.mem_append_right _ (List.mem_append_right _ (List.mem_append_right _ (List.mem_append_right _ (List.mem_append_right _ (List.mem_append_right _ (List.mem_append_right _ (List.mem_append_right _ (List.mem_append_right _ (List.mem_append_right _ (List.mem_append_left _ h))))))))))))))))))))))))))))
theorem sn_n15 : ∀ w ∈ wsL_law0_r15, w ∈ wsL_law := fun _ h => (List.mem_append_left _ (List.mem_append_left _ (List.mem_append_left _ (List.mem_append_left _ (List.mem_append_left _ (List.mem_append_left _ (List.mem_append_left _ (List.mem_append_left _ (List.mem_append_left _ (List.mem_append_left _ (List.mem_append_left _ (List.mem_append_left _ (List.mem_append_left _ (List.mem_append_left _ (List.mem_append_right _ (List.mem_append_right _ (List.mem_append_right _ (List.mem_append_right _ (List.mem_append_right _ (List.mem_append_right _ (List.mem_append_right _ (List.mem_append_right _ (List.mem_append_right _ (List.mem_append_right _ (List.mem_append_right _ (List.mem_append_right _ (List.mem_append_right _ (List.mem_append_right _ (List.mem_append_left _ h)))))))))))))))))))))))))))))
theorem sn_n16 : ∀ w ∈ wsL_law0_r16, w ∈ wsL_law := fun _ h => (List.mem_append_left _ (List.mem_append_left _ (List.mem_append_left _ (List.mem_append_left _ (List.mem_append_left _ (List.mem_append_left _ (List.mem_append_left _ (List.mem_append_left _ (List.mem_append_left _ (List.mem_append_left _ (List.mem_append_left _ (List.mem_append_left _ (List.mem_append_left _ (List.mem_append_left _ (List.mem_append_right _ (List.mem_append_right _ (List.mem_append_right _ (List.mem_append_right _ (List.mem_append_right _ (List.mem_append_right _ (List.mem_append_right _ (List.mem_append_right _ (List.mem_append_right _ (List.mem_append_right _ (List.mem_append_right _ (List.mem_append_right _ (List.mem_append_right _ (List.mem_append_right _ (List.mem_append_right _ (List.mem_append_left _ h))))))))))))))))))))))))))))))
theorem sn_n17 : ∀ w ∈ wsL_law0_r17, w ∈ wsL_law := fun _ h => (List.mem_append_left _ (List.mem_append_left _ (List.mem_append_left _ (List.mem_append_left _ (List.mem_append_left _ (List.mem_append_left _ (List.mem_append_left _ (List.mem_append_left _ (List.mem_append_left _ (List.mem_append_left _ (List.mem_append_left _ (List.mem_append_left _ (List.mem_append_left _ (List.mem_append_left _ (List.mem_append_right _ (List.mem_append_right _ (List.mem_append_right _ (List.mem_append_right _ (List.mem_append_right _ (List.mem_append_right _ (List.mem_append_right _ (List.mem_append_right _ (List.mem_append_right _ (List.mem_append_right _ (List.mem_append_right _ (List.mem_append_right _ (List.mem_append_right _ (List.mem_append_right _ (List.mem_append_right _ (List.mem_append_right _ (List.mem_append_left _ h)))))))))))))))))))))))))))))))
theorem sn_n18 : ∀ w ∈ wsL_law0_r18, w ∈ wsL_law := fun _ h => (List.mem_append_left _ (List.mem_append_left _ (List.mem_append_left _ (List.mem_append_left _ (List.mem_append_left _ (List.mem_append_left _ (List.mem_append_left _ (List.mem_append_left _ (List.mem_append_left _ (List.mem_append_left _ (List.mem_append_left _ (List.mem_append_left _ (List.mem_append_left _ (List.mem_append_left _ (List.mem_append_right _ (List.mem_append_right _ (List.mem_append_right _ (List.mem_append_right _ (List.mem_append_right _ (List.mem_append_right _ (List.mem_append_right _ (List.mem_append_right _ (List.mem_append_right _ (List.mem_append_right _ (List.mem_append_right _ (List.mem_append_right _ (List.mem_append_right _ (List.mem_append_right _ (List.mem_append_right _ (List.mem_append_right _ (List.mem_append_right _ (List.mem_append_left _ h))))))))))))))))))))))))))))))))
theorem sn_n19 : ∀ w ∈ wsL_law0_r19, w ∈ wsL_law := fun _ h => (List.mem_append_left _ (List.mem_append_left _ (List.mem_append_left _ (List.mem_append_left _ (List.mem_append_left _ (List.mem_append_left _ (List.mem_append_left _ (List.mem_append_left _ (List.mem_append_left _ (List.mem_append_left _ (List.mem_append_left _ (List.mem_append_left _ (List.mem_append_left _ (List.mem_append_left _ (List.mem_append_right _ (List.mem_append_right _ (List.mem_append_right _ (List.mem_append_right _ (List.mem_append_right _ (List.mem_append_right _ (List.mem_append_right _ (List.mem_append_right _ (List.mem_append_right _ (List.mem_append_right _ (List.mem_append_right _ (List.mem_append_right _ (List.mem_append_right _ (List.mem_append_right _ (List.mem_append_right _ (List.mem_append_right _ (List.mem_append_right _ (List.mem_append_right _ (List.mem_append_left _ h)))))))))))))))))))))))))))))))))
theorem sn_n20 : ∀ w ∈ wsL_law0_r20, w ∈ wsL_law := fun _ h => (List.mem_append_left _ (List.mem_append_left _ (List.mem_append_left _ (List.mem_append_left _ (List.mem_append_left _ (List.mem_append_left _ (List.mem_append_left _ (List.mem_append_left _ (List.mem_append_left _ (List.mem_append_left _ (List.mem_append_left _ (List.mem_append_left _ (List.mem_append_left _ (List.mem_append_left _ (List.mem_append_right _ (List.mem_append_right _ (List.mem_append_right _ (List.mem_append_right _ (List.mem_append_right _ (List.mem_append_right _ (List.mem_append_right _ (List.mem_append_right _ (List.mem_append_right _ (List.mem_append_right _ (List.mem_append_right _ (List.mem_append_right _ (List.mem_append_right _ (List.mem_append_right _ (List.mem_append_right _ (List.mem_append_right _ (List.mem_append_right _ (List.mem_append_right _ (List.mem_append_right _ (List.mem_append_left _ h))))))))))))))))))))))))))))))))))
theorem sn_n21 : ∀ w ∈ wsL_law0_r21, w ∈ wsL_law := fun _ h => (List.mem_append_left _ (List.mem_append_left _ (List.mem_append_left _ (List.mem_append_left _ (List.mem_append_left _ (List.mem_append_left _ (List.mem_append_left _ (List.mem_append_left _ (List.mem_append_left _ (List.mem_append_left _ (List.mem_append_left _ (List.mem_append_left _ (List.mem_append_left _ (List.mem_append_left _ (List.mem_append_right _ (List.mem_append_right _ (List.mem_append_right _ (List.mem_append_right _ (List.mem_append_right _ (List.mem_append_right _ (List.mem_append_right _ (List.mem_append_right _ (List.mem_append_right _ (List.mem_append_right _ (List.mem_append_right _ (List.mem_append_right _ (List.mem_append_right _ (List.mem_append_right _ (List.mem_append_right _ (List.mem_append_right _ (List.mem_append_right _ (List.mem_append_right _ (List.mem_append_right _ (List.mem_append_right _ (List.mem_append_left _ h)))))))))))))))))))))))))))))))))))
theorem sn_n22 : ∀ w ∈ wsL_law0_r22, w ∈ wsL_law := fun _ h => (List.mem_append_left _ (List.mem_append_left _ (List.mem_append_left _ (List.mem_append_left _ (List.mem_append_left _ (List.mem_append_left _ (List.mem_append_left _ (List.mem_append_left _ (List.mem_append_left _ (List.mem_append_left _ (List.mem_append_left _ (List.mem_append_left _ (List.mem_append_left _ (List.mem_append_left _ (List.mem_append_right _ (List.mem_append_right _ (List.mem_append_right _ (List.mem_append_right _ (List.mem_append_right _ (List.mem_append_right _ (List.mem_append_right _ (List.mem_append_right _ (List.mem_append_right _ (List.mem_append_right _ (List.mem_append_right _ (List.mem_append_right _ (List.mem_append_right _ (List.mem_append_right _ (List.mem_append_right _ (List.mem_append_right _ (List.mem_append_right _ (List.mem_append_right _ (List.mem_append_right _ (List.mem_append_right _ (List.mem_append_right _ (List.mem_append_left _ h))))))))))))))))))))))))))))))))))))
theorem sn_n23 : ∀ w ∈ wsL_law0_r23, w ∈ wsL_law := fun _ h => (List.mem_append_left _ (List.mem_append_left _ (List.mem_append_left _ (List.mem_append_left _ (List.mem_append_left _ (List.mem_append_left _ (List.mem_append_left _ (List.mem_append_left _ (List.mem_append_left _ (List.mem_append_left _ (List.mem_append_left _ (List.mem_append_left _ (List.mem_append_left _ (List.mem_append_left _ (List.mem_append_right _ (List.mem_append_right _ (List.mem_append_right _ (List.mem_append_right _ (List.mem_append_right _ (List.mem_append_right _ (List.mem_append_right _ (List.mem_append_right _ (List.mem_append_right _ (List.mem_append_right _ (List.mem_append_right _ (List.mem_append_right _ (List.mem_append_right _ (List.mem_append_right _ (List.mem_append_right _ (List.mem_append_right _ (List.mem_append_right _ (List.mem_append_right _ (List.mem_append_right _ (List.mem_append_right _ (List.mem_append_right _ (List.mem_append_right _ (List.mem_append_left _ h)))))))))))))))))))))))))))))))))))))
theorem sn_n24 : ∀ w ∈ wsL_law0_r24, w ∈ wsL_law := fun _ h => (List.mem_append_left _ (List.mem_append_left _ (List.mem_append_left _ (List.mem_append_left _ (List.mem_append_left _ (List.mem_append_left _ (List.mem_append_left _ (List.mem_append_left _ (List.mem_append_left _ (List.mem_append_left _ (List.mem_append_left _ (List.mem_append_left _ (List.mem_append_left _ (List.mem_append_left _ (List.mem_append_right _ (List.mem_append_right _ (List.mem_append_right _ (List.mem_append_right _ (List.mem_append_right _ (List.mem_append_right _ (List.mem_append_right _ (List.mem_append_right _ (List.mem_append_right _ (List.mem_append_right _ (List.mem_append_right _ (List.mem_append_right _ (List.mem_append_right _ (List.mem_append_right _ (List.mem_append_right _ (List.mem_append_right _ (List.mem_append_right _ (List.mem_append_right _ (List.mem_append_right _ (List.mem_append_right _ (List.mem_append_right _ (List.mem_append_right _ (List.mem_append_right _ (List.mem_append_left _ h))))))))))))))))))))))))))))))))))))))
theorem sn_n25 : ∀ w ∈ wsL_law0_r25, w ∈ wsL_law := fun _ h => (List.mem_append_left _ (List.mem_append_left _ (List.mem_append_left _ (List.mem_append_left _ (List.mem_append_left _ (List.mem_append_left _ (List.mem_append_left _ (List.mem_append_left _ (List.mem_append_left _ (List.mem_append_left _ (List.mem_append_left _ (List.mem_append_left _ (List.mem_append_left _ (List.mem_append_left _ (List.mem_append_right _ (List.mem_append_right _ (List.mem_append_right _ (List.mem_append_right _ (List.mem_append_right _ (List.mem_append_right _ (List.mem_append_right _ (List.mem_append_right _ (List.mem_append_right _ (List.mem_append_right _ (List.mem_append_right _ (List.mem_append_right _ (List.mem_append_right _ (List.mem_append_right _ (List.mem_append_right _ (List.mem_append_right _ (List.mem_append_right _ (List.mem_append_right _ (List.mem_append_right _ (List.mem_append_right _ (List.mem_append_right _ (List.mem_append_right _ (List.mem_append_right _ (List.mem_append_right _ (List.mem_append_left _ h)))))))))))))))))))))))))))))))))))))))
theorem sn_n26 : ∀ w ∈ wsL_law0_r26, w ∈ wsL_law := fun _ h => (List.mem_append_left _ (List.mem_append_left _ (List.mem_append_left _ (List.mem_append_left _ (List.mem_append_left _ (List.mem_append_left _ (List.mem_append_left _ (List.mem_append_left _ (List.mem_append_left _ (List.mem_append_left _ (List.mem_append_left _ (List.mem_append_left _ (List.mem_append_left _ (List.mem_append_left _ (List.mem_append_right _ (List.mem_append_right _ (List.mem_append_right _ (List.mem_append_right _ (List.mem_append_right _ (List.mem_append_right _ (List.mem_append_right _ (List.mem_append_right _ (List.mem_append_right _ (List.mem_append_right _ (List.mem_append_right _ (List.mem_append_right _ (List.mem_append_right _ (List.mem_append_right _ (List.mem_append_right _ (List.mem_append_right _ (List.mem_append_right _ (List.mem_append_right _ (List.mem_append_right _ (List.mem_append_right _ (List.mem_append_right _ (List.mem_append_right _ (List.mem_append_right _ (List.mem_append_right _ (List.mem_append_right _ (List.mem_append_left _ h))))))))))))))))))))))))))))))))))))))))
theorem sn_n27 : ∀ w ∈ wsL_law0_r27, w ∈ wsL_law := fun _ h => (List.mem_append_left _ (List.mem_append_left _ (List.mem_append_left _ (List.mem_append_left _ (List.mem_append_left _ (List.mem_append_left _ (List.mem_append_left _ (List.mem_append_left _ (List.mem_append_left _ (List.mem_append_left _ (List.mem_append_left _ (List.mem_append_left _ (List.mem_append_left _ (List.mem_append_left _ (List.mem_append_right _ (List.mem_append_right _ (List.mem_append_right _ (List.mem_append_right _ (List.mem_append_right _ (List.mem_append_right _ (List.mem_append_right _ (List.mem_append_right _ (List.mem_append_right _ (List.mem_append_right _ (List.mem_append_right _ (List.mem_append_right _ (List.mem_append_right _ (List.mem_append_right _ (List.mem_append_right _ (List.mem_append_right _ (List.mem_append_right _ (List.mem_append_right _ (List.mem_append_right _ (List.mem_append_right _ (List.mem_append_right _ (List.mem_append_right _ (List.mem_append_right _ (List.mem_append_right _ (List.mem_append_right _ (List.mem_append_right _ (List.mem_append_left _ h)))))))))))))))))))))))))))))))))))))))))
theorem sn_n28 : ∀ w ∈ wsL_law0_r28, w ∈ wsL_law := fun _ h => (List.mem_append_left _ (List.mem_append_left _ (List.mem_append_left _ (List.mem_append_left _ (List.mem_append_left _ (List.mem_append_left _ (List.mem_append_left _ (List.mem_append_left _ (List.mem_append_left _ (List.mem_append_left _ (List.mem_append_left _ (List.mem_append_left _ (List.mem_append_left _ (List.mem_append_left _ (List.mem_append_right _ (List.mem_append_right _ (List.mem_append_right _ (List.mem_append_right _ (List.mem_append_right _ (List.mem_append_right _ (List.mem_append_right _ (List.mem_append_right _ (List.mem_append_right _ (List.mem_append_right _ (List.mem_append_right _ (List.mem_append_right _ (List.mem_append_right _ (List.mem_append_right _ (List.mem_append_right _ (List.mem_append_right _ (List.mem_append_right _ (List.mem_append_right _ (List.mem_append_right _ (List.mem_append_right _ (List.mem_append_right _ (List.mem_append_right _ (List.mem_append_right _ (List.mem_append_right _ (List.mem_append_right _ (List.mem_append_right _ (List.mem_append_right _ (List.mem_append_left _ h))))))))))))))))))))))))))))))))))))))))))
theorem sn_n29 : ∀ w ∈ wsL_law0_r29, w ∈ wsL_law := fun _ h => (List.mem_append_left _ (List.mem_append_left _ (List.mem_append_left _ (List.mem_append_left _ (List.mem_append_left _ (List.mem_append_left _ (List.mem_append_left _ (List.mem_append_left _ (List.mem_append_left _ (List.mem_append_left _ (List.mem_append_left _ (List.mem_append_left _ (List.mem_append_left _ (List.mem_append_left _ (List.mem_append_right _ (List.mem_append_right _ (List.mem_append_right _ (List.mem_append_right _ (List.mem_append_right _ (List.mem_append_right _ (List.mem_append_right _ (List.mem_append_right _ (List.mem_append_right _ (List.mem_append_right _ (List.mem_append_right _ (List.mem_append_right _ (List.mem_append_right _ (List.mem_append_right _ (List.mem_append_right _ (List.mem_append_right _ (List.mem_append_right _ (List.mem_append_right _ (List.mem_append_right _ (List.mem_append_right _ (List.mem_append_right _ (List.mem_append_right _ (List.mem_append_right _ (List.mem_append_right _ (List.mem_append_right _ (List.mem_append_right _ (List.mem_append_right _ (List.mem_append_right _ h))))))))))))))))))))))))))))))))))))))))))
end
section
/-! Tables, written by program (wip/p32/tables.py) out of the claim's own names: methods by number, what a constant pool entry stands for -/
def sn_bcl : List ByteArray := [cX9_init, cX3_init, cX7_init, cX8_init, cX0_init, cX2_init, cX4_init, cX6_init, cX5_init, cX1_init, cL_cell, cL_below, cX9_land, cX9_isWithin, cX9_needPhase, cX3_add, cX9_rules, cX9_enter, cX9_needLand, cX7_add, cX8_insert, cX9_many, cX9_count, cX2_countAll, cX2_countLand, cX0_given, cX0_numberOf, cX2_addBallots, cX2_clearRow, cX2_isCounting, cX0_addWeights, cX9_weight, cX2_sortCandidates, cX7_writeCandidates, cX7_isCandidate, cX9_sortDown, cX2_findOutlier, cX0_distance, Lib.Math.abs.code, cX2_findPraised, cX0_firstOn, cX2_voidPairs, cX2_borrowSums, cX2_addCandidates, cX2_givePoints, cX4_countLand, cX4_countSong, cX4_fullCallers, cX4_lineOf, cX4_givePoints, cX5_countAll, cX7_isRunning, cX5_addPoints, cX5_keyWithout, cX8_placeOf, cX9_numberOfContest, cX8_delay, cX8_delayOf, Lib.Math.max.code, cX9_voidJuries, cX9_bestMove, cX9_canMove, cX8_bestShift, cX8_isOfHalf, cX8_delayWith, cX8_writeTrial, cX9_move, cX8_shift, cX9_start, cX9_at, cX9_jury, cX7_candidatesOf, cX7_running, cX9_ordersOf, cX0_write, cX9_ofSong, cX9_needSong, cX9_numberOfSong, cX5_rankOf, cX1_juryOf, cX9_call, cX4_take, Lib.Math.min.code, cX9_disqualify, cX7_putOut, cX0_takeOut, cX1_wipe, cL_areGiven, cL_has, cX9_gives, cX9_ofLand, cX9_numberOfLand, cX9_ranked, cX5_songAt, cX9_meanTotal, cX5_sumOfTotals, cX9_close, cL_isRead, cX9_nextRead, cX9_closestLand, cX1_canRead, cX1_leadWith, cX9_read, cX1_takeLand, cX1_put, cX2_topOf, cX9_correct, cX9_readCalls, cX1_nextSong, cX1_takeCalls, cX9_isOpen, cX9_canStillChange, cX1_hopefuls, cX1_stillToCome, cL_isEnded, cX9_end, cX9_findHost, cX9_next, cX7_clear, cX8_clear, cX0_clear, cX4_clear, cX1_clear, cX9_digest, cX9_digestOfLand, cX5_leaderWithout, cX4_needed, cX4_winsTie, cX9_without, cL_law]
def sn_bc (m : Nat) : ByteArray := sn_bcl.getD m ⟨#[]⟩
def sn_yl : List MethodName := [yX9_init, yX3_init, yX7_init, yX8_init, yX0_init, yX2_init, yX4_init, yX6_init, yX5_init, yX1_init, yL_cell, yL_below, yX9_land, yX9_isWithin, yX9_needPhase, yX3_add, yX9_rules, yX9_enter, yX9_needLand, yX7_add, yX8_insert, yX9_many, yX9_count, yX2_countAll, yX2_countLand, yX0_given, yX0_numberOf, yX2_addBallots, yX2_clearRow, yX2_isCounting, yX0_addWeights, yX9_weight, yX2_sortCandidates, yX7_writeCandidates, yX7_isCandidate, yX9_sortDown, yX2_findOutlier, yX0_distance, Lib.Math.abs.name, yX2_findPraised, yX0_firstOn, yX2_voidPairs, yX2_borrowSums, yX2_addCandidates, yX2_givePoints, yX4_countLand, yX4_countSong, yX4_fullCallers, yX4_lineOf, yX4_givePoints, yX5_countAll, yX7_isRunning, yX5_addPoints, yX5_keyWithout, yX8_placeOf, yX9_numberOfContest, yX8_delay, yX8_delayOf, Lib.Math.max.name, yX9_voidJuries, yX9_bestMove, yX9_canMove, yX8_bestShift, yX8_isOfHalf, yX8_delayWith, yX8_writeTrial, yX9_move, yX8_shift, yX9_start, yX9_at, yX9_jury, yX7_candidatesOf, yX7_running, yX9_ordersOf, yX0_write, yX9_ofSong, yX9_needSong, yX9_numberOfSong, yX5_rankOf, yX1_juryOf, yX9_call, yX4_take, Lib.Math.min.name, yX9_disqualify, yX7_putOut, yX0_takeOut, yX1_wipe, yL_areGiven, yL_has, yX9_gives, yX9_ofLand, yX9_numberOfLand, yX9_ranked, yX5_songAt, yX9_meanTotal, yX5_sumOfTotals, yX9_close, yL_isRead, yX9_nextRead, yX9_closestLand, yX1_canRead, yX1_leadWith, yX9_read, yX1_takeLand, yX1_put, yX2_topOf, yX9_correct, yX9_readCalls, yX1_nextSong, yX1_takeCalls, yX9_isOpen, yX9_canStillChange, yX1_hopefuls, yX1_stillToCome, yL_isEnded, yX9_end, yX9_findHost, yX9_next, yX7_clear, yX8_clear, yX0_clear, yX4_clear, yX1_clear, yX9_digest, yX9_digestOfLand, yX5_leaderWithout, yX4_needed, yX4_winsTie, yX9_without, yL_law]
def sn_y (m : Nat) : MethodName := sn_yl.getD m yL_law
def sn_mll : List Nat := [7, 1, 1, 2, 2, 4, 2, 1, 5, 3, 2, 2, 3, 3, 2, 3, 7, 6, 2, 5, 5, 2, 2, 3, 3, 4, 2, 3, 2, 3, 6, 1, 2, 5, 3, 6, 6, 7, 1, 5, 4, 3, 3, 4, 4, 4, 8, 6, 2, 9, 2, 2, 3, 9, 3, 2, 1, 5, 2, 3, 1, 1, 6, 3, 3, 5, 3, 4, 1, 2, 4, 2, 1, 3, 12, 3, 2, 3, 3, 4, 5, 8, 2, 2, 2, 5, 3, 11, 3, 4, 3, 3, 2, 2, 2, 3, 1, 8, 1, 5, 2, 6, 2, 4, 5, 3, 2, 3, 5, 3, 1, 1, 5, 4, 9, 1, 3, 1, 2, 1, 2, 3, 2, 5, 7, 6, 6, 6, 2, 19]
def sn_ml (m : Nat) : Nat := sn_mll.getD m 0
def sn_rkl : List Nat := [4, 4, 4, 4, 4, 4, 4, 4, 4, 4, 0, 0, 0, 1, 4, 0, 0, 0, 4, 4, 4, 0, 4, 4, 4, 0, 0, 4, 4, 1, 4, 0, 4, 0, 1, 4, 0, 0, 0, 0, 0, 4, 4, 4, 4, 4, 4, 0, 0, 4, 4, 1, 4, 0, 0, 0, 0, 0, 0, 0, 0, 1, 0, 1, 0, 4, 0, 4, 0, 0, 0, 0, 0, 0, 4, 0, 4, 0, 0, 0, 0, 0, 0, 0, 4, 4, 4, 1, 1, 0, 0, 0, 0, 0, 3, 0, 0, 1, 0, 0, 1, 0, 0, 4, 0, 0, 0, 0, 0, 4, 1, 1, 0, 0, 1, 0, 0, 0, 4, 4, 4, 4, 4, 2, 2, 0, 0, 1, 0, 1]
def sn_rk (m : Nat) : Nat := sn_rkl.getD m 5
def sn_rt (m : Nat) : Option FieldType := match sn_rk m with
  | 0 => some .int
  | 1 => some .boolean
  | 2 => some .long
  | 3 => some .double
  | _ => none
def sn_ocl : List Nat := [9, 3, 7, 8, 0, 2, 4, 6, 5, 1, 10, 10, 9, 9, 9, 3, 9, 9, 9, 7, 8, 9, 9, 2, 2, 0, 0, 2, 2, 2, 0, 9, 2, 7, 7, 9, 2, 0, 11, 2, 0, 2, 2, 2, 2, 4, 4, 4, 4, 4, 5, 7, 5, 5, 8, 9, 8, 8, 11, 9, 9, 9, 8, 8, 8, 8, 9, 8, 9, 9, 9, 7, 7, 9, 0, 9, 9, 9, 5, 1, 9, 4, 11, 9, 7, 0, 1, 10, 10, 9, 9, 9, 9, 5, 9, 5, 9, 10, 9, 9, 1, 1, 9, 1, 1, 2, 9, 9, 1, 1, 9, 9, 1, 1, 10, 9, 9, 9, 7, 8, 0, 4, 1, 9, 9, 5, 4, 4, 9, 10]
def sn_oc (m : Nat) : Nat := sn_ocl.getD m 12
def sn_frl : List Nat := [2, 1, 1, 1, 1, 1, 1, 1, 1, 1, 0, 0, 1, 0, 0, 0, 1, 2, 1, 0, 0, 6, 5, 4, 3, 1, 0, 2, 0, 1, 1, 0, 2, 1, 0, 0, 2, 1, 0, 2, 1, 0, 2, 1, 1, 3, 2, 1, 0, 2, 2, 0, 0, 1, 0, 3, 2, 1, 0, 0, 4, 0, 3, 0, 2, 0, 3, 1, 1, 1, 3, 1, 0, 0, 2, 7, 6, 1, 0, 0, 7, 1, 0, 7, 0, 0, 0, 9, 8, 7, 6, 2, 6, 1, 6, 0, 6, 9, 6, 2, 0, 1, 6, 2, 1, 0, 6, 6, 1, 0, 3, 2, 1, 0, 7, 6, 2, 2, 0, 0, 0, 0, 1, 6, 3, 2, 1, 0, 6, 10]
def sn_fr (m : Nat) : Nat := sn_frl.getD m 0
def sn_lol : List Nat := [44, 20, 20, 20, 20, 20, 20, 20, 20, 20, 0, 0, 22, 0, 0, 0, 22, 43, 22, 0, 0, 137, 116, 94, 72, 21, 0, 46, 0, 21, 21, 0, 46, 22, 0, 0, 47, 21, 0, 44, 21, 0, 45, 22, 21, 73, 46, 21, 0, 46, 50, 0, 0, 22, 0, 65, 45, 21, 0, 0, 92, 0, 67, 0, 45, 0, 65, 24, 21, 22, 77, 21, 0, 0, 46, 137, 90, 23, 0, 0, 111, 21, 0, 111, 0, 0, 0, 181, 159, 137, 137, 44, 137, 22, 137, 0, 137, 181, 137, 48, 0, 23, 137, 45, 21, 0, 137, 137, 23, 0, 67, 47, 23, 0, 159, 137, 43, 43, 0, 0, 0, 0, 22, 137, 75, 50, 25, 0, 137, 211]
def sn_lo (m : Nat) : Nat := sn_lol.getD m 0
def sn_hl (m : Nat) : Bool := decide (m = 123) || decide (m = 124) || decide (m = 129)
def sn_in (m : Nat) : Bool := decide (m ∈ [0, 1, 2, 3, 4, 5, 6, 7, 8, 9])
def sn_cn (o : Nat) : String := match o with
  | 0 => RX0
  | 1 => RX1
  | 2 => RX2
  | 3 => RX3
  | 4 => RX4
  | 5 => RX5
  | 6 => RX6
  | 7 => RX7
  | 8 => RX8
  | 9 => RX9
  | 10 => RL
  | _ => "java/lang/Math"
abbrev sn_cls : List vw_C := [(RX0, TX0, 5), (RX1, TX1, 9), (RX2, TX2, 11), (RX3, TX3, 6), (RX4, TX4, 11), (RX5, TX5, 9), (RX6, TX6, 5), (RX7, TX7, 7), (RX8, TX8, 5), (RX9, TX9, 16)]
def sn_nf (ci : Nat) : Nat := [5, 9, 11, 6, 11, 9, 5, 7, 5, 16].getD ci 0
def sn_ftl : List (List Nat) := [[2, 2, 2, 2, 2], [2, 2, 2, 2, 2, 2, 2, 0, 0], [2, 2, 2, 2, 2, 2, 2, 2, 2, 2, 2], [0, 2, 2, 2, 2, 2], [2, 2, 2, 2, 2, 2, 2, 2, 2, 2, 2], [2, 2, 2, 2, 2, 2, 2, 2, 0], [0, 0, 0, 0, 1], [0, 0, 2, 2, 2, 2, 2], [2, 2, 2, 0, 0], [2, 2, 2, 2, 2, 2, 2, 2, 2, 0, 0, 0, 0, 0, 0, 1]]
def sn_ft (ci k : Nat) : Nat := (sn_ftl.getD ci []).getD k 3
def sn_ffl : List (List Bool) := [[true, true, true, true, true], [true, true, true, true, true, true, true, false, false], [true, true, true, true, true, true, true, true, true, true, true], [false, true, true, true, true, true], [true, true, true, true, true, true, true, true, true, true, true], [true, true, true, true, true, true, true, true, false], [false, false, false, false, false], [false, false, true, true, true, true, true], [true, true, true, false, false], [true, true, true, true, true, true, true, true, true, false, false, false, false, false, false, false]]
def sn_ff (ci k : Nat) : Bool := (sn_ffl.getD ci []).getD k true

def sn_pfl_1 : List (Nat × Nat × Nat × Nat) := [(0, 11, 0, 1), (0, 16, 0, 2), (0, 20, 0, 3), (0, 24, 0, 4), (0, 27, 0, 0), (1, 11, 1, 2), (1, 16, 1, 3), (1, 20, 1, 4), (1, 24, 1, 5), (1, 27, 1, 6), (1, 30, 1, 7), (1, 34, 1, 8)]
def sn_pfl_2 : List (Nat × Nat × Nat × Nat) := [(1, 37, 1, 0), (1, 41, 1, 1), (1, 49, 3, 0), (2, 11, 2, 3), (2, 16, 2, 4), (2, 19, 2, 5), (2, 22, 2, 6), (2, 26, 2, 7), (2, 29, 2, 8), (2, 33, 2, 9), (2, 36, 2, 10), (2, 39, 2, 0)]
def sn_pfl_3 : List (Nat × Nat × Nat × Nat) := [(2, 43, 2, 1), (2, 47, 2, 2), (2, 51, 3, 0), (2, 88, 0, 3), (2, 124, 3, 1), (3, 9, 3, 0), (3, 15, 3, 1), (3, 19, 3, 2), (3, 22, 3, 3), (3, 25, 3, 4), (3, 28, 3, 5), (4, 11, 4, 1)]
def sn_pfl_4 : List (Nat × Nat × Nat × Nat) := [(4, 16, 4, 2), (4, 20, 4, 3), (4, 23, 4, 4), (4, 26, 4, 5), (4, 29, 4, 6), (4, 32, 4, 7), (4, 35, 4, 8), (4, 38, 4, 9), (4, 41, 4, 10), (4, 44, 4, 0), (5, 9, 5, 4), (5, 15, 5, 5)]
def sn_pfl_5 : List (Nat × Nat × Nat × Nat) := [(5, 18, 5, 6), (5, 21, 5, 7), (5, 24, 5, 8), (5, 28, 5, 0), (5, 32, 5, 1), (5, 36, 5, 2), (5, 40, 5, 3), (5, 62, 2, 5), (5, 68, 4, 5), (6, 7, 6, 0), (6, 13, 6, 1), (6, 16, 6, 2)]
def sn_pfl_6 : List (Nat × Nat × Nat × Nat) := [(6, 19, 6, 3), (6, 22, 6, 4), (7, 9, 7, 0), (7, 15, 7, 1), (7, 18, 7, 2), (7, 22, 7, 3), (7, 25, 7, 4), (7, 29, 7, 5), (7, 32, 7, 6), (8, 9, 8, 1), (8, 15, 8, 2), (8, 18, 8, 3)]
def sn_pfl_7 : List (Nat × Nat × Nat × Nat) := [(8, 22, 8, 4), (8, 25, 8, 0), (8, 29, 7, 6), (8, 50, 7, 2), (8, 62, 7, 5), (9, 32, 9, 0), (9, 38, 9, 1), (9, 42, 9, 2), (9, 46, 9, 3), (9, 50, 9, 4), (9, 54, 9, 5), (9, 58, 9, 6)]
def sn_pfl_8 : List (Nat × Nat × Nat × Nat) := [(9, 67, 9, 7), (9, 76, 9, 8), (9, 80, 9, 9), (9, 84, 9, 10), (9, 87, 9, 11), (9, 90, 9, 12), (9, 93, 9, 13), (9, 96, 9, 14), (9, 99, 9, 15), (9, 118, 3, 0), (9, 134, 7, 0), (9, 137, 6, 0)]
def sn_pfl_9 : List (Nat × Nat × Nat × Nat) := [(9, 140, 6, 1), (9, 143, 6, 2), (9, 146, 6, 3), (9, 149, 6, 4), (9, 157, 7, 2), (9, 169, 3, 3), (9, 238, 7, 3), (9, 260, 1, 4), (9, 277, 2, 5), (9, 291, 1, 7), (9, 296, 5, 5), (9, 313, 3, 4)]
def sn_pfl_10 : List (Nat × Nat × Nat × Nat) := [(9, 319, 3, 5), (9, 341, 4, 5), (9, 342, 8, 3), (9, 343, 8, 1), (9, 379, 5, 8), (9, 380, 5, 6), (9, 381, 3, 1), (9, 384, 3, 2), (9, 390, 2, 7), (9, 393, 2, 8), (9, 396, 4, 6), (9, 399, 4, 7)]
def sn_pfl_11 : List (Nat × Nat × Nat × Nat) := [(9, 402, 7, 4), (9, 405, 7, 5), (9, 408, 7, 6), (9, 414, 5, 4), (9, 423, 1, 3), (9, 426, 7, 1), (9, 429, 1, 8)]
def sn_pfl : List (Nat × Nat × Nat × Nat) := sn_pfl_1 ++ (sn_pfl_2 ++ (sn_pfl_3 ++ (sn_pfl_4 ++ (sn_pfl_5 ++ (sn_pfl_6 ++ (sn_pfl_7 ++ (sn_pfl_8 ++ (sn_pfl_9 ++ (sn_pfl_10 ++ (sn_pfl_11))))))))))
def sn_pnl_1 : List (Nat × Nat × Nat) := [(9, 7, 3), (9, 10, 7), (9, 13, 8), (9, 18, 0), (9, 21, 2), (9, 26, 4), (9, 29, 6), (9, 62, 5), (9, 71, 1), (10, 9, 9)]
def sn_pnl : List (Nat × Nat × Nat) := sn_pnl_1
def sn_pil_1 : List (Nat × Nat × Int) := [(10, 7, 2147483647), (10, 8, 790386105)]
def sn_pil : List (Nat × Nat × Int) := sn_pil_1
def sn_pll_1 : List (Nat × Nat × Int) := [(9, 371, 58219), (9, 373, 31)]
def sn_pll : List (Nat × Nat × Int) := sn_pll_1
def sn_nl : List (Nat × Nat × Nat) := [(0, 41, 73), (0, 45, 31), (2, 113, 35), (2, 134, 31), (4, 78, 35), (4, 82, 31), (5, 58, 35), (5, 77, 13), (9, 9, 1), (9, 12, 2), (9, 31, 7)]
def sn_pvl_1 : List (Nat × Nat × Nat × Nat) := [(0, 35, 33, 2), (1, 45, 86, 1), (1, 58, 104, 2), (1, 68, 51, 1), (1, 73, 79, 1), (1, 80, 113, 1), (2, 57, 24, 1), (2, 61, 41, 0), (2, 64, 42, 1), (2, 67, 32, 1), (2, 70, 44, 1), (2, 73, 25, 1)]
def sn_pvl_2 : List (Nat × Nat × Nat × Nat) := [(2, 79, 27, 1), (2, 82, 36, 1), (2, 85, 39, 1), (2, 99, 29, 2), (2, 103, 30, 3), (2, 107, 33, 2), (2, 117, 37, 3), (2, 121, 40, 2), (2, 127, 43, 2), (2, 131, 34, 2), (4, 60, 46, 3), (4, 64, 34, 2)]
def sn_pvl_3 : List (Nat × Nat × Nat × Nat) := [(4, 70, 47, 3), (4, 74, 33, 2), (4, 86, 127, 3), (5, 44, 51, 1), (5, 50, 52, 1), (5, 54, 53, 2), (5, 71, 54, 1), (7, 35, 72, 0), (7, 39, 51, 1), (7, 43, 34, 2), (8, 38, 65, 2), (8, 42, 57, 1)]
def sn_pvl_4 : List (Nat × Nat × Nat × Nat) := [(8, 46, 56, 0), (8, 54, 63, 2), (8, 58, 64, 2), (9, 114, 14, 1), (9, 126, 15, 2), (9, 152, 18, 1), (9, 163, 19, 4), (9, 166, 20, 1), (9, 181, 61, 0), (9, 185, 63, 2), (9, 191, 67, 2), (9, 195, 56, 0)]
def sn_pvl_5 : List (Nat × Nat × Nat × Nat) := [(9, 206, 71, 1), (9, 215, 74, 3), (9, 219, 40, 2), (9, 222, 76, 1), (9, 227, 34, 2), (9, 232, 81, 5), (9, 241, 72, 0), (9, 246, 84, 1), (9, 249, 85, 1), (9, 252, 86, 1), (9, 255, 22, 0), (9, 257, 59, 0)]
def sn_pvl_6 : List (Nat × Nat × Nat × Nat) := [(9, 271, 100, 1), (9, 281, 103, 2), (9, 285, 105, 1), (9, 288, 108, 0), (9, 299, 109, 2), (9, 304, 104, 2), (9, 310, 93, 1), (9, 316, 116, 0), (9, 324, 118, 0), (9, 327, 119, 0), (9, 328, 120, 0), (9, 329, 121, 0)]
def sn_pvl_7 : List (Nat × Nat × Nat × Nat) := [(9, 330, 122, 0), (9, 333, 91, 2), (9, 338, 77, 2), (9, 350, 55, 1), (9, 353, 95, 0), (9, 356, 111, 0), (9, 359, 99, 0), (9, 362, 125, 1), (9, 365, 126, 2), (9, 368, 62, 0), (9, 375, 124, 2), (9, 387, 25, 1)]
def sn_pvl_8 : List (Nat × Nat × Nat × Nat) := [(9, 411, 54, 1), (9, 417, 78, 1), (9, 420, 79, 1), (9, 432, 112, 0), (9, 435, 101, 1), (9, 445, 23, 1), (9, 449, 45, 2), (9, 452, 49, 3), (9, 456, 50, 0), (10, 22, 12, 2), (10, 25, 16, 5), (10, 29, 17, 4)]
def sn_pvl_9 : List (Nat × Nat × Nat × Nat) := [(10, 33, 21, 1), (10, 37, 60, 0), (10, 41, 66, 2), (10, 44, 68, 0), (10, 47, 69, 1), (10, 50, 70, 3), (10, 54, 75, 2), (10, 57, 80, 4), (10, 60, 83, 1), (10, 67, 96, 0), (10, 78, 123, 0), (10, 82, 110, 0)]
def sn_pvl_10 : List (Nat × Nat × Nat × Nat) := [(10, 86, 98, 0), (10, 89, 128, 1), (10, 96, 89, 3), (10, 100, 90, 2), (10, 103, 92, 1), (10, 106, 94, 0), (10, 112, 102, 1), (10, 115, 106, 1), (10, 118, 107, 0), (10, 121, 115, 0), (10, 124, 117, 0)]
def sn_pvl : List (Nat × Nat × Nat × Nat) := sn_pvl_1 ++ (sn_pvl_2 ++ (sn_pvl_3 ++ (sn_pvl_4 ++ (sn_pvl_5 ++ (sn_pvl_6 ++ (sn_pvl_7 ++ (sn_pvl_8 ++ (sn_pvl_9 ++ (sn_pvl_10)))))))))
def sn_psl_1 : List (Nat × Nat × Nat × Nat) := [(0, 31, 26, 2), (0, 41, 73, 1), (0, 45, 31, 1), (2, 91, 26, 2), (2, 95, 28, 1), (2, 113, 35, 3), (2, 134, 31, 1), (4, 48, 48, 2), (4, 78, 35, 3), (4, 82, 31, 1), (5, 58, 35, 3), (5, 77, 13, 3)]
def sn_psl_2 : List (Nat × Nat × Nat × Nat) := [(9, 103, 13, 3), (9, 210, 73, 1), (10, 12, 10, 2), (10, 18, 11, 2), (10, 63, 87, 3), (10, 70, 97, 4), (10, 74, 114, 3), (10, 92, 88, 2)]
def sn_psl : List (Nat × Nat × Nat × Nat) := sn_psl_1 ++ (sn_psl_2)
def sn_pcl_1 : List (Nat × Nat × Nat × Nat) := [(0, 3, 200, 0), (1, 3, 200, 0), (2, 3, 200, 0), (3, 3, 200, 0), (4, 3, 200, 0), (5, 3, 200, 0), (6, 1, 200, 0), (7, 3, 200, 0), (8, 3, 200, 0), (9, 1, 200, 0), (9, 9, 1, 0), (9, 12, 2, 0)]
def sn_pcl_2 : List (Nat × Nat × Nat × Nat) := [(9, 15, 3, 1), (9, 20, 4, 1), (9, 23, 5, 3), (9, 28, 6, 1), (9, 31, 7, 0), (9, 64, 8, 4), (9, 73, 9, 2), (10, 11, 0, 0)]
def sn_pcl : List (Nat × Nat × Nat × Nat) := sn_pcl_1 ++ (sn_pcl_2)
def sn_pxl_1 : List (Nat × Nat × Nat) := [(0, 48, 0), (1, 62, 0), (1, 76, 1), (4, 52, 2), (4, 57, 1), (8, 65, 1)]
def sn_pxl : List (Nat × Nat × Nat) := sn_pxl_1

def sn_pi (o i : Nat) : Option Int := (sn_pil.find? (fun q => q.1 == o && q.2.1 == i)).map (fun q => q.2.2)
def sn_pl (o i : Nat) : Option Int := (sn_pll.find? (fun q => q.1 == o && q.2.1 == i)).map (fun q => q.2.2)
def sn_pf (o i : Nat) : Option (Nat × Nat) := (sn_pfl.find? (fun q => q.1 == o && q.2.1 == i)).map (fun q => q.2.2)
def sn_pn (o i : Nat) : Option Nat := (sn_pnl.find? (fun q => q.1 == o && q.2.1 == i)).map (fun q => q.2.2)
def sn_pv (o i : Nat) : Option (Nat × Nat) := (sn_pvl.find? (fun q => q.1 == o && q.2.1 == i)).map (fun q => q.2.2)
def sn_ps (o i : Nat) : Option (Nat × Nat) := (sn_psl.find? (fun q => q.1 == o && q.2.1 == i)).map (fun q => q.2.2)
def sn_pc (o i : Nat) : Option (Nat × Nat) := (sn_pcl.find? (fun q => q.1 == o && q.2.1 == i)).map (fun q => q.2.2)
def sn_px (o i : Nat) : Option Nat := (sn_pxl.find? (fun q => q.1 == o && q.2.1 == i)).map (fun q => q.2.2)


/-! Whole numbers of 32 and 64 bits, seen as integers -/
def sn_dv (x y : Int) : Int := (Int32.ofInt x / Int32.ofInt y).toInt
def sn_rm (x y : Int) : Int := (Int32.ofInt x - Int32.ofInt x / Int32.ofInt y * Int32.ofInt y).toInt
def sn_an (x y : Int) : Int := (Int32.ofInt x &&& Int32.ofInt y).toInt
def sn_sh (x y : Int) : Int := (Int32.ofInt x >>> (Int32.ofInt y &&& 31)).toInt
def sn_lc (x y : Int) : Int := (lg_cmp (Int64.ofInt x) (Int64.ofInt y)).toInt

/-! A plain machine beside the real one: values, a heap of places, one step, runs. Written for this class; 'sn_sim' (next part) says that the real one follows it. -/
/-- values: a whole number, a place or null, a long, a double's bits, nothing known -/
abbrev sn_V : Type := Int ⊕ (Option Nat ⊕ (Int ⊕ (UInt64 ⊕ Unit)))
abbrev sn_i (z : Int) : sn_V := .inl z
abbrev sn_r (k : Nat) : sn_V := .inr (.inl (some k))
abbrev sn_n : sn_V := .inr (.inl none)
abbrev sn_l (z : Int) : sn_V := .inr (.inr (.inl z))
abbrev sn_d (b : UInt64) : sn_V := .inr (.inr (.inr (.inl b)))
abbrev sn_u : sn_V := .inr (.inr (.inr (.inr ())))
/-- how many places, how many slots were made, each place's kind and length, what lies there -/
abbrev sn_H : Type := Nat × Nat × (Nat → Nat × Nat) × (Nat → Nat → sn_V)
/-- a whole number as the machine keeps it: 32 bits, 64 bits -/
def sn_wr (z : Int) : Int := (Int32.ofInt z).toInt
def sn_wl (z : Int) : Int := (Int64.ofInt z).toInt
def sn_inR (z : Int) : Bool := decide (-2147483648 ≤ z) && decide (z ≤ 2147483647)
def sn_w (C : Nat → Nat → sn_V) (p j : Nat) (v : sn_V) : Nat → Nat → sn_V := fun q i => if q = p ∧ i = j then v else C q i
/-- a new place of this kind and length, holding f -/
def sn_pu (h : sn_H) (tag len : Nat) (f : Nat → sn_V) : sn_H :=
  (h.1 + 1, h.2.1 + len, fun q => if q = h.1 then (tag, len) else h.2.2.1 q, fun q i => if q = h.1 then f i else h.2.2.2 q i)
/-- new int[a][b]: the outer one, then the rows -/
def sn_pm (h : sn_H) (a b : Nat) : sn_H :=
  (h.1 + 1 + a, h.2.1 + a + a * b, fun q => if q = h.1 then (102, a) else if h.1 < q ∧ q < h.1 + 1 + a then (100, b) else h.2.2.1 q,
   fun q i => if q = h.1 then (if i < a then sn_r (h.1 + 1 + i) else sn_n) else if h.1 < q ∧ q < h.1 + 1 + a then sn_i 0 else h.2.2.2 q i)
def sn_two : sn_V → Bool
  | .inr (.inr (.inl _)) => true
  | .inr (.inr (.inr (.inl _))) => true
  | _ => false
/-- the arguments as the callee's first locals -/
def sn_lay : List sn_V → List sn_V
  | [] => []
  | v :: r => if sn_two v then v :: sn_u :: sn_lay r else v :: sn_lay r
def sn_isN (v : sn_V) : Bool := match v with
  | .inl _ => true
  | .inr (.inl _) => true
  | _ => false
/-- what a step comes to: the next state; an end; a call (which method, its arguments, and where it goes on) -/
abbrev sn_O : Type := (Nat × List sn_V × List sn_V × sn_H) ⊕ ((Option sn_V × sn_H) ⊕ (Nat × List sn_V × Nat × List sn_V × List sn_V × sn_H))
def sn_goto (pc : Nat) (off : Int) (lv st : List sn_V) (h : sn_H) : Option sn_O := if 0 ≤ (pc : Int) + off then some (.inl (((pc : Int) + off).toNat, lv, st, h)) else none
def sn_cmp (c : ClassFile.Cond) (x y : Int) : Bool := match c with
  | .eq => decide (x = y)
  | .ne => decide (x ≠ y)
  | .lt => decide (x < y)
  | .ge => decide (y ≤ x)
  | .gt => decide (y < x)
  | .le => decide (x ≤ y)
def sn_ld (pc : Nat) (lv st : List sn_V) (h : sn_H) (k : Nat) (ok : sn_V → Bool) : Option sn_O := match lv[k]? with
  | some v => if ok v then some (.inl (pc, lv, v :: st, h)) else none
  | none => none
def sn_isI (v : sn_V) : Bool := match v with
  | .inl _ => true
  | _ => false
def sn_isA (v : sn_V) : Bool := match v with
  | .inr (.inl _) => true
  | _ => false
def sn_isL (v : sn_V) : Bool := match v with
  | .inr (.inr (.inl _)) => true
  | _ => false
/-- storing at local k; where the method has longs among its locals, the place ahead must not hold one -/
def sn_so (M pc : Nat) (lv st : List sn_V) (h : sn_H) (k : Nat) (v : sn_V) : Option sn_O :=
  if k < lv.length then (if sn_hl M && (0 < k) && sn_two (lv.getD (k - 1) sn_u) then none else some (.inl (pc, lv.set k v, st, h))) else none
def sn_so2 (M pc : Nat) (lv st : List sn_V) (h : sn_H) (k : Nat) (v : sn_V) : Option sn_O :=
  if sn_hl M && decide (k + 1 < lv.length) then (if (0 < k) && sn_two (lv.getD (k - 1) sn_u) then none else some (.inl (pc, (lv.set k v).set (k + 1) sn_u, st, h))) else none
def sn_call (M j a pc : Nat) (lv st : List sn_V) (h : sn_H) : Option sn_O :=
  if decide (sn_fr j + 1 ≤ sn_fr M) && decide (sn_lo j + sn_ml j + 19 ≤ sn_lo M) && decide (a ≤ st.length) && decide ((st.drop a).length ≤ 4) && decide ((sn_lay (st.take a).reverse).length ≤ sn_ml j) && (sn_hl j || (st.take a).all (fun v => !sn_two v)) then
    some (.inr (.inr (j, (st.take a).reverse, pc, lv, st.drop a, h))) else none
def sn_idx (h : sn_H) (p : Nat) (i : Int) (tag : Nat) : Bool := decide (p < h.1) && decide ((h.2.2.1 p).1 = tag) && decide (0 ≤ i) && decide (i < ((h.2.2.1 p).2 : Int))
def sn_fits (t : Nat) (v : sn_V) : Bool := match t, v with
  | 0, .inl _ => true
  | 1, .inl z => decide (z = 0) || decide (z = 1)
  | 2, .inr (.inl _) => true
  | _, _ => false
def sn_rets (t : Nat) (v : sn_V) : Bool := match t, v with
  | 0, .inl _ => true
  | 1, .inl z => decide (z = 0) || decide (z = 1)
  | _, _ => false
/-- one instruction of method M -/
def sn_do (M pc : Nat) (ins : Instr) (lv st : List sn_V) (h : sn_H) : Option sn_O := match ins with
  | .iconst n => if sn_inR n then some (.inl (pc + 1, lv, sn_i n :: st, h)) else none
  | .bipush n => if decide (-128 ≤ n) && decide (n ≤ 127) then some (.inl (pc + 2, lv, sn_i n :: st, h)) else none
  | .sipush n => if decide (-32768 ≤ n) && decide (n ≤ 32767) then some (.inl (pc + 3, lv, sn_i n :: st, h)) else none
  | .ldc i => match sn_pi (sn_oc M) i with
    | some z => if sn_inR z then some (.inl (pc + 2, lv, sn_i z :: st, h)) else none
    | none => none
  | .ldc2_w i => match sn_pl (sn_oc M) i with
    | some z => if decide (sn_wl z = z) then some (.inl (pc + 3, lv, sn_l z :: st, h)) else none
    | none => none
  | .dconst n => if n = 0 then some (.inl (pc + 1, lv, sn_d FP.dconst0 :: st, h)) else none
  | .iload_n k => sn_ld (pc + 1) lv st h k.val sn_isI
  | .iload k => sn_ld (pc + 2) lv st h k sn_isI
  | .aload_n k => sn_ld (pc + 1) lv st h k.val sn_isA
  | .aload k => sn_ld (pc + 2) lv st h k sn_isA
  | .lload_n k => sn_ld (pc + 1) lv st h k.val sn_isL
  | .lload k => sn_ld (pc + 2) lv st h k sn_isL
  | .istore_n k => match st with
    | .inl z :: r => sn_so M (pc + 1) lv r h k.val (sn_i z)
    | _ => none
  | .istore k => match st with
    | .inl z :: r => sn_so M (pc + 2) lv r h k (sn_i z)
    | _ => none
  | .astore_n k => match st with
    | .inr (.inl (some z)) :: r => sn_so M (pc + 1) lv r h k.val (sn_r z)
    | _ => none
  | .astore k => match st with
    | .inr (.inl (some z)) :: r => sn_so M (pc + 2) lv r h k (sn_r z)
    | _ => none
  | .lstore_n k => match st with
    | .inr (.inr (.inl z)) :: r => sn_so2 M (pc + 1) lv r h k.val (sn_l z)
    | _ => none
  | .lstore k => match st with
    | .inr (.inr (.inl z)) :: r => sn_so2 M (pc + 2) lv r h k (sn_l z)
    | _ => none
  | .iinc k n => match lv[k]? with
    | some (.inl z) => sn_so M (pc + 3) lv st h k (sn_i (sn_wr (z + n)))
    | _ => none
  | .iadd => match st with
    | .inl y :: .inl x :: r => some (.inl (pc + 1, lv, sn_i (sn_wr (x + y)) :: r, h))
    | _ => none
  | .isub => match st with
    | .inl y :: .inl x :: r => some (.inl (pc + 1, lv, sn_i (sn_wr (x - y)) :: r, h))
    | _ => none
  | .imul => match st with
    | .inl y :: .inl x :: r => some (.inl (pc + 1, lv, sn_i (sn_wr (x * y)) :: r, h))
    | _ => none
  | .idiv => match st with
    | .inl y :: .inl x :: r => if y = 0 then none else some (.inl (pc + 1, lv, sn_i (sn_dv x y) :: r, h))
    | _ => none
  | .irem => match st with
    | .inl y :: .inl x :: r => if y = 0 then none else some (.inl (pc + 1, lv, sn_i (sn_rm x y) :: r, h))
    | _ => none
  | .iand => match st with
    | .inl y :: .inl x :: r => some (.inl (pc + 1, lv, sn_i (sn_an x y) :: r, h))
    | _ => none
  | .ishr => match st with
    | .inl y :: .inl x :: r => some (.inl (pc + 1, lv, sn_i (sn_sh x y) :: r, h))
    | _ => none
  | .i2l => match st with
    | .inl x :: r => some (.inl (pc + 1, lv, sn_l x :: r, h))
    | _ => none
  | .ladd => match st with
    | .inr (.inr (.inl y)) :: .inr (.inr (.inl x)) :: r => some (.inl (pc + 1, lv, sn_l (sn_wl (x + y)) :: r, h))
    | _ => none
  | .lmul => match st with
    | .inr (.inr (.inl y)) :: .inr (.inr (.inl x)) :: r => some (.inl (pc + 1, lv, sn_l (sn_wl (x * y)) :: r, h))
    | _ => none
  | .lcmp => match st with
    | .inr (.inr (.inl y)) :: .inr (.inr (.inl x)) :: r => some (.inl (pc + 1, lv, sn_i (sn_lc x y) :: r, h))
    | _ => none
  | .i2d => match st with
    | .inl x :: r => some (.inl (pc + 1, lv, sn_d (FP.i2d (Int32.ofInt x)) :: r, h))
    | _ => none
  | .ddiv => match st with
    | .inr (.inr (.inr (.inl y))) :: .inr (.inr (.inr (.inl x))) :: r => if decide (FP.ddiv x y &&& 0x7fffffffffffffff ≤ 0x7ff0000000000000) then some (.inl (pc + 1, lv, sn_d (FP.ddiv x y) :: r, h)) else none
    | _ => none
  | .dcmp op => match st with
    | .inr (.inr (.inr (.inl y))) :: .inr (.inr (.inr (.inl x))) :: r => some (.inl (pc + 1, lv, sn_i (Op.cmpValue (FP.dcmp x y) op).toInt :: r, h))
    | _ => none
  | .dup => match st with
    | v :: r => if sn_isN v then some (.inl (pc + 1, lv, v :: v :: r, h)) else none
    | _ => none
  | .dup2 => match st with
    | v :: w :: r => if sn_isN v && sn_isN w then some (.inl (pc + 1, lv, v :: w :: v :: w :: r, h)) else none
    | _ => none
  | .pop => match st with
    | v :: r => if sn_isN v then some (.inl (pc + 1, lv, r, h)) else none
    | _ => none
  | .goto off => sn_goto pc off lv st h
  | .ifCond c off => match st with
    | .inl x :: r => if 0 ≤ (pc : Int) + off then some (.inl (if sn_cmp c x 0 then (((pc : Int) + off).toNat, lv, r, h) else (pc + 3, lv, r, h))) else none
    | _ => none
  | .if_icmp c off => match st with
    | .inl y :: .inl x :: r => if 0 ≤ (pc : Int) + off then some (.inl (if sn_cmp c x y then (((pc : Int) + off).toNat, lv, r, h) else (pc + 3, lv, r, h))) else none
    | _ => none
  | .tableswitch dflt lo hi offs => match st with
    | .inl x :: r => if x < lo ∨ hi < x then sn_goto pc dflt lv r h else match offs[(x - lo).toNat]? with
      | some off => sn_goto pc off lv r h
      | none => none
    | _ => none
  | .getfield i => match st, sn_pf (sn_oc M) i with
    | .inr (.inl (some p)) :: r, some (ci, k) => if decide (2 ≤ p) && decide (p < h.1) && decide ((h.2.2.1 p).1 = ci) then some (.inl (pc + 3, lv, h.2.2.2 p k :: r, h)) else none
    | _, _ => none
  | .putfield i => match st, sn_pf (sn_oc M) i with
    | v :: .inr (.inl (some p)) :: r, some (ci, k) =>
      if decide (2 ≤ p) && decide (p < h.1) && decide ((h.2.2.1 p).1 = ci) && sn_fits (sn_ft ci k) v && (!sn_ff ci k || (sn_in M && decide (sn_oc M = ci))) then some (.inl (pc + 3, lv, r, (h.1, h.2.1, h.2.2.1, sn_w h.2.2.2 p k v))) else none
    | _, _ => none
  | .getstatic i => if decide (sn_oc M = 9) && decide (i = 458) then some (.inl (pc + 3, lv, sn_r 1 :: st, h)) else none
  | .iaload => match st with
    | .inl i :: .inr (.inl (some p)) :: r => if sn_idx h p i 100 then some (.inl (pc + 1, lv, h.2.2.2 p i.toNat :: r, h)) else none
    | _ => none
  | .baload => match st with
    | .inl i :: .inr (.inl (some p)) :: r => if sn_idx h p i 101 then some (.inl (pc + 1, lv, h.2.2.2 p i.toNat :: r, h)) else none
    | _ => none
  | .aaload => match st with
    | .inl i :: .inr (.inl (some p)) :: r => if sn_idx h p i 102 then some (.inl (pc + 1, lv, h.2.2.2 p i.toNat :: r, h)) else none
    | _ => none
  | .iastore => match st with
    | .inl z :: .inl i :: .inr (.inl (some p)) :: r => if sn_idx h p i 100 && decide (2 ≤ p) then some (.inl (pc + 1, lv, r, (h.1, h.2.1, h.2.2.1, sn_w h.2.2.2 p i.toNat (sn_i z)))) else none
    | _ => none
  | .bastore => match st with
    | .inl z :: .inl i :: .inr (.inl (some p)) :: r => if sn_idx h p i 101 && decide (2 ≤ p) && (decide (z = 0) || decide (z = 1)) then some (.inl (pc + 1, lv, r, (h.1, h.2.1, h.2.2.1, sn_w h.2.2.2 p i.toNat (sn_i z)))) else none
    | _ => none
  | .arraylength => match st with
    | .inr (.inl (some p)) :: r => if decide (p < h.1) && (decide ((h.2.2.1 p).1 = 100) || decide ((h.2.2.1 p).1 = 101)) then some (.inl (pc + 1, lv, sn_i ((h.2.2.1 p).2 : Int) :: r, h)) else none
    | _ => none
  | .newarray ty => match st with
    | .inl z :: r => if decide (0 ≤ z) && decide (z ≤ 100000) then (match ty with
      | .int => some (.inl (pc + 2, lv, sn_r h.1 :: r, sn_pu h 100 z.toNat (fun _ => sn_i 0)))
      | .boolean => some (.inl (pc + 2, lv, sn_r h.1 :: r, sn_pu h 101 z.toNat (fun _ => sn_i 0)))
      | _ => none) else none
    | _ => none
  | .multianewarray i n => match st with
    | .inl b :: .inl a :: r => if decide (n = 2) && decide (i = 9) && decide (sn_oc M ∈ [0, 1, 2, 4]) && decide (0 ≤ a) && decide (a ≤ 1000) && decide (0 ≤ b) && decide (b ≤ 1000) then some (.inl (pc + 4, lv, sn_r h.1 :: r, sn_pm h a.toNat b.toNat)) else none
    | _ => none
  | .new i => match sn_pn (sn_oc M) i with
    | some ci => some (.inl (pc + 3, lv, sn_r h.1 :: st, sn_pu h ci (sn_nf ci) (fun k => if sn_ft ci k = 2 then sn_n else sn_i 0)))
    | none => none
  | .invokevirtual i => match sn_pv (sn_oc M) i with
    | some (j, a) => match st.drop a with
      | .inr (.inl (some p)) :: _ => if decide (2 ≤ p) && decide (p < h.1) && decide ((h.2.2.1 p).1 = sn_oc j) then sn_call M j (a + 1) (pc + 3) lv st h else none
      | _ => none
    | none => none
  | .invokestatic i => match sn_px (sn_oc M) i with
    | some 0 => match st with
      | .inl x :: r => if decide (1 ≤ sn_fr M) && decide (21 ≤ sn_lo M) && decide (r.length ≤ 4) then some (.inl (pc + 3, lv, sn_i (sn_wr (if 0 ≤ x then x else 0 - x)) :: r, h)) else none
      | _ => none
    | some 1 => match st with
      | .inl y :: .inl x :: r => if decide (1 ≤ sn_fr M) && decide (21 ≤ sn_lo M) && decide (r.length ≤ 4) then some (.inl (pc + 3, lv, sn_i (if x < y then y else x) :: r, h)) else none
      | _ => none
    | some _ => match st with
      | .inl y :: .inl x :: r => if decide (1 ≤ sn_fr M) && decide (21 ≤ sn_lo M) && decide (r.length ≤ 4) then some (.inl (pc + 3, lv, sn_i (if y < x then y else x) :: r, h)) else none
      | _ => none
    | none => match sn_ps (sn_oc M) i with
      | some (j, a) => sn_call M j a (pc + 3) lv st h
      | none => none
  | .invokespecial i => match sn_pc (sn_oc M) i with
    | some (200, _) => match st with
      | .inr (.inl (some p)) :: r => if decide (2 ≤ p) && decide (p < h.1) && decide (1 ≤ sn_fr M) && decide (20 ≤ sn_lo M) && decide (r.length ≤ 4) then some (.inl (pc + 3, lv, r, h)) else none
      | _ => none
    | some (j, a) => match st.drop a with
      | .inr (.inl (some p)) :: _ => if decide (2 ≤ p) && decide (p < h.1) then sn_call M j (a + 1) (pc + 3) lv st h else none
      | _ => none
    | none => none
  | .ireturn => match st with
    | [v] => if sn_rets (sn_rk M) v then some (.inr (.inl (some v, h))) else none
    | _ => none
  | .lreturn => match st with
    | [.inr (.inr (.inl z))] => if sn_rk M = 2 then some (.inr (.inl (some (sn_l z), h))) else none
    | _ => none
  | .dreturn => match st with
    | [.inr (.inr (.inr (.inl z)))] => if sn_rk M = 3 then some (.inr (.inl (some (sn_d z), h))) else none
    | _ => none
  | .return_ => match st with
    | [] => if sn_rk M = 4 then some (.inr (.inl (none, h))) else none
    | _ => none
  | _ => none
/-- an instruction's length, where it matters -/
def sn_len (ins : Instr) : Nat := match ins with
  | .bipush _ => 2
  | .ldc _ => 2
  | .iload _ => 2
  | .aload _ => 2
  | .lload _ => 2
  | .istore _ => 2
  | .astore _ => 2
  | .lstore _ => 2
  | .newarray _ => 2
  | .sipush _ => 3
  | .ldc2_w _ => 3
  | .iinc _ _ => 3
  | .goto _ => 3
  | .ifCond _ _ => 3
  | .if_icmp _ _ => 3
  | .getfield _ => 3
  | .putfield _ => 3
  | .getstatic _ => 3
  | .new _ => 3
  | .invokevirtual _ => 3
  | .invokestatic _ => 3
  | .invokespecial _ => 3
  | .multianewarray _ _ => 4
  | .tableswitch _ _ _ _ => 0
  | _ => 1
def sn_go (M pc : Nat) (lv st : List sn_V) (h : sn_H) : Option sn_O := match decode (sn_bc M) pc with
  | .ok (ins, len) => if decide (len = sn_len ins) || decide (sn_len ins = 0) then sn_do M pc ins lv st h else none
  | .error _ => none
def sn_ent (j : Nat) (as : List sn_V) : List sn_V := sn_lay as ++ List.replicate (sn_ml j - (sn_lay as).length) sn_u
/-- has(m, song), where the land is one but has no song in: an exception is made, thrown, caught -/
def sn_hs (as : List sn_V) (h : sn_H) : Option (Option sn_V × sn_H) := match as with
  | [.inr (.inl (some p)), .inl z] => match h.2.2.2 p 1, h.2.2.2 p 2 with
    | .inr (.inl (some pl)), .inr (.inl (some ps)) => match h.2.2.2 pl 0, h.2.2.2 ps 2 with
      | .inl n, .inr (.inl (some pi)) =>
        if decide (2 ≤ p) && decide (p < h.1) && decide ((h.2.2.1 p).1 = 9) && decide (2 ≤ pl) && decide (pl < h.1) && decide ((h.2.2.1 pl).1 = 3) && decide (2 ≤ ps) && decide (ps < h.1) && decide ((h.2.2.1 ps).1 = 7) && decide (2 ≤ pi) && sn_idx h pi z 101 && decide (z < n) && decide (z < 8) && decide (h.2.2.2 pi z.toNat = sn_i 0) then
          some (some (sn_i 0), sn_pu h 103 6 (fun _ => sn_n)) else none
      | _, _ => none
    | _, _ => none
  | _ => none
/-- whole runs, fuelled -/
def sn_ex : Nat → Nat → Nat → List sn_V → List sn_V → sn_H → Option (Option sn_V × sn_H)
  | 0, _, _, _, _, _ => none
  | f + 1, M, pc, lv, st, h => match sn_go M pc lv st h with
    | none => none
    | some (.inl c) => sn_ex f M c.1 c.2.1 c.2.2.1 c.2.2.2
    | some (.inr (.inl o)) => some o
    | some (.inr (.inr c)) => match (if c.1 = 88 then sn_hs c.2.1 c.2.2.2.2.2 else none) with
      | some o => sn_ex f M c.2.2.1 c.2.2.2.1 (o.1.toList ++ c.2.2.2.2.1) o.2
      | none => match sn_ex f c.1 0 (sn_ent c.1 c.2.1) [] c.2.2.2.2.2 with
        | some o => sn_ex f M c.2.2.1 c.2.2.2.1 (o.1.toList ++ c.2.2.2.2.1) o.2
        | none => none
end
section
/-! ===== the plain machine's values and heap, as the real one has them ===== -/
theorem sn_wr_eq (z : Int) : Int32.ofInt (sn_wr z) = Int32.ofInt z := Int32.ofInt_toInt _
theorem sn_wl_eq (z : Int) : Int64.ofInt (sn_wl z) = Int64.ofInt z := Int64.ofInt_toInt _
theorem sn_to {z : Int} (h : -2147483648 ≤ z ∧ z ≤ 2147483647) : (Int32.ofInt z).toInt = z := Int32.toInt_ofInt_of_le (by omega) (by omega)
theorem sn_wr_id {z : Int} (h1 : -2147483648 ≤ z) (h2 : z ≤ 2147483647) : sn_wr z = z := sn_to ⟨h1, h2⟩
theorem sn_wr_in (z : Int) : -2147483648 ≤ sn_wr z ∧ sn_wr z ≤ 2147483647 := by
  have h1 := Int32.le_toInt (Int32.ofInt z)
  have h2 := Int32.toInt_lt (Int32.ofInt z)
  unfold sn_wr
  omega
theorem sn_of_in (x : Int32) : -2147483648 ≤ x.toInt ∧ x.toInt ≤ 2147483647 := by
  have h1 := Int32.le_toInt x
  have h2 := Int32.toInt_lt x
  omega
theorem sn_inR_iff {z : Int} (h : sn_inR z = true) : -2147483648 ≤ z ∧ z ≤ 2147483647 := by
  unfold sn_inR at h
  simp only [Bool.and_eq_true, decide_eq_true_eq] at h
  exact h
/-- what a value may be: a whole number of 32 bits, a long of 64 -/
def sn_wf (v : sn_V) : Prop := match v with
  | .inl z => -2147483648 ≤ z ∧ z ≤ 2147483647
  | .inr (.inr (.inl z)) => sn_wl z = z
  | _ => True
/-- class numbers and slots, the three arrays' classes, the script's cell and length and the weights' cell, where the new cells begin, the script -/
abbrev sn_P : Type := va_G × (Nat × Nat × Nat) × (Nat × Nat × Nat × Nat) × (Nat → Int32)
abbrev sn_D (G : sn_P) : va_G := G.1
abbrev sn_cI (G : sn_P) : Nat := G.2.1.1
abbrev sn_cZ (G : sn_P) : Nat := G.2.1.2.1
abbrev sn_cQ (G : sn_P) : Nat := G.2.1.2.2
abbrev sn_b (G : sn_P) : Nat := G.2.2.1.1
abbrev sn_L (G : sn_P) : Nat := G.2.2.1.2.1
abbrev sn_wa (G : sn_P) : Nat := G.2.2.1.2.2.1
abbrev sn_s0 (G : sn_P) : Nat := G.2.2.1.2.2.2
abbrev sn_xs (G : sn_P) : Nat → Int32 := G.2.2.2
def sn_ad (G : sn_P) (q : Nat) : Nat := if q = 0 then sn_b G else if q = 1 then sn_wa G else sn_s0 G + (q - 2)
def sn_A (G : sn_P) : Nat → Prop := fun a => sn_s0 G ≤ a
theorem sn_ad2 (G : sn_P) {q : Nat} (h : 2 ≤ q) : sn_ad G q = sn_s0 G + (q - 2) := by
  unfold sn_ad
  rw [if_neg (by omega), if_neg (by omega)]
theorem sn_adA (G : sn_P) {q : Nat} (h : 2 ≤ q) : sn_A G (sn_ad G q) := by
  rw [sn_ad2 G h]
  exact Nat.le_add_right _ _
def sn_tr (G : sn_P) (v : sn_V) : Value := match v with
  | .inl z => .int (Int32.ofInt z)
  | .inr (.inl (some k)) => .ref (sn_ad G k)
  | .inr (.inr (.inl z)) => .long (Int64.ofInt z)
  | .inr (.inr (.inr (.inl d))) => .double d
  | _ => .null
/-- WEIGHTS -/
def sn_wt (j : Nat) : Int := [12, 10, 8, 7, 6, 5, 4].getD j 0
def sn_at (G : sn_P) (h : sn_H) (q : Nat) (H : Heap) : Prop :=
  if (h.2.2.1 q).1 < 10 then (h.2.2.1 q).2 = sn_nf (h.2.2.1 q).1 ∧ t_OB (sn_ad G q) ((sn_D G).1 (h.2.2.1 q).1) (sn_nf (h.2.2.1 q).1) ((sn_D G).2 (h.2.2.1 q).1) H (fun k => sn_tr G (h.2.2.2 q k))
  else if (h.2.2.1 q).1 = 100 then H[sn_ad G q]? = some (arrV (sn_cI G) (h.2.2.1 q).2 (fun k => sn_tr G (h.2.2.2 q k)))
  else if (h.2.2.1 q).1 = 101 then H[sn_ad G q]? = some (arrV (sn_cZ G) (h.2.2.1 q).2 (fun k => sn_tr G (h.2.2.2 q k)))
  else if (h.2.2.1 q).1 = 102 then H[sn_ad G q]? = some (arrV (sn_cQ G) (h.2.2.1 q).2 (fun k => sn_tr G (h.2.2.2 q k)))
  else True
/-- the real heap H is as the plain one says -/
def sn_Rp (G : sn_P) (h : sn_H) (H : Heap) : Prop :=
  2 ≤ h.1 ∧ H.size = sn_s0 G + (h.1 - 2) ∧ (∀ q, 2 ≤ q → q < h.1 → sn_at G h q H) ∧ (∀ q i, sn_wf (h.2.2.2 q i)) ∧ (∀ q, ((h.2.2.1 q).2 : Int) ≤ 2147483647) ∧
  h.2.2.1 0 = (100, sn_L G) ∧ (∀ j, j < sn_L G → h.2.2.2 0 j = sn_i (sn_xs G j).toInt) ∧ h.2.2.1 1 = (100, 7) ∧ (∀ j, j < 7 → h.2.2.2 1 j = sn_i (sn_wt j))
/-- what lay there before the law began, and stays: the script, WEIGHTS, what exceptions ask for -/
def sn_Wd (G : sn_P) (U : State) (H : Heap) : Prop :=
  va_T .int (sn_b G) (sn_L G) (fun j => .int (sn_xs G j)) (sn_A G) U H ∧ va_Z "Songnations" "WEIGHTS" "[I" (.ref (sn_wa G)) (sn_A G) U H ∧ va_T .int (sn_wa G) 7 (fun j => .int (Int32.ofInt (sn_wt j))) (sn_A G) U H ∧
  vx_Zq Bundle.tN "UNASSIGNED_STACK" Bundle.steD (sn_A G) U H ∧ vx_Zq Bundle.tN "SUPPRESSED_SENTINEL" Bundle.listD (sn_A G) U H ∧ (Cond.arrayOver (.array .int)).before #[] U = true ∧ (∀ e ∈ sn_nl, va_Nw (.methodLinkNest (sn_cn e.1) e.2.1 (sn_y e.2.2) "Songnations") U) ∧ ∃ sa, vk_R RX9 441 "there is no such song in this year" sa U
theorem sn_Wd.to {G : sn_P} {s U : State} {H : Heap} {locs : List Loc} (h : sn_Wd G s s.heap) (hS : va_S (sn_A G) s.heap H locs) (hW : s.WarmedH U.vm) (hU : U.heap = H) : sn_Wd G U U.heap := by
  have hq : ∀ a : Nat, a < s.heap.size → ¬ sn_A G a → U.heap[a]? = s.heap[a]? := fun a h1 h2 => by rw [hU]; exact hS.2.1 a h1 h2
  obtain ⟨h1, h2, h3, h4, h5, h7, h8, sa, h6⟩ := h
  exact ⟨(h1.moved hW.alike).kept hq, (h2.moved hW.alike).kept hq, (h3.moved hW.alike).kept hq, (h4.moved hW.alike).kept hq, (h5.moved hW.alike).kept hq, arrayOver_alikeB hW.alike h7, fun e he => (h8 e he).warmM hW, sa, h6.warm hW⟩
abbrev sn_ty (G : sn_P) : List (ClassId × FieldType) := [(sn_cI G, .int), (sn_cZ G, .boolean), (sn_cQ G, .array .int)]
/-- a method's frame, as its body finds it -/
def sn_Cx (G : sn_P) (M : Nat) (p : Program) (R : Room) (s : State) (m : MethodId) (args : Array Value) (meth : Method) (c : Code) : Prop :=
  p.tables.exec = Jvm.exec ∧ c.code = sn_bc M ∧ c.maxLocals = sn_ml M ∧ meth.sig.returnType = sn_rt M ∧ meth.locks = false ∧ s.vm.findClass (sn_cn (sn_oc M)) = some m.cls ∧ (sn_in M = true → meth.name = "<init>") ∧
  (∀ w ∈ wsL_law, w.before args s = true) ∧ va_K (sn_D G) sn_cls (sn_ty G) s ∧ sn_Wd G s s.heap ∧ sn_fr M ≤ R.frames ∧ sn_lo M ≤ R.locals ∧ sn_s0 G ≤ s.heap.size
/-- the locals -/
def sn_isU (v : sn_V) : Bool := match v with
  | .inr (.inr (.inr (.inr _))) => true
  | _ => false
theorem sn_isU_iff (v : sn_V) : sn_isU v = true ↔ v = sn_u := by
  match v with
  | .inl z => exact ⟨fun h => (by cases h), fun h => (by cases h)⟩
  | .inr (.inl z) => exact ⟨fun h => (by cases h), fun h => (by cases h)⟩
  | .inr (.inr (.inl z)) => exact ⟨fun h => (by cases h), fun h => (by cases h)⟩
  | .inr (.inr (.inr (.inl z))) => exact ⟨fun h => (by cases h), fun h => (by cases h)⟩
  | .inr (.inr (.inr (.inr ()))) => exact ⟨fun _ => rfl, fun _ => rfl⟩
def sn_lvl (G : sn_P) (lv : List sn_V) : List (Nat × Value) := (List.range lv.length).filterMap (fun j => if sn_isU (lv.getD j sn_u) = true then none else some (j, sn_tr G (lv.getD j sn_u)))
def sn_Ls (G : sn_P) (ls : Array Slot) (M : Nat) (lv : List sn_V) : Prop :=
  lv_has ls (sn_ml M) (sn_lvl G lv) ∧ lv.length = sn_ml M ∧ (∀ v ∈ lv, sn_wf v) ∧ (sn_hl M = false → ∀ v ∈ lv, sn_two v = false)
theorem sn_lvl_mem (G : sn_P) (lv : List sn_V) (q : Nat × Value) : q ∈ sn_lvl G lv ↔ ∃ v, lv[q.1]? = some v ∧ v ≠ sn_u ∧ q.2 = sn_tr G v := by
  unfold sn_lvl
  rw [List.mem_filterMap]
  constructor
  · rintro ⟨j, hj, h⟩
    have hlt := List.mem_range.mp hj
    split at h
    · cases h
    · rename_i hne
      cases h
      refine ⟨lv.getD j sn_u, ?_, fun e => hne ((sn_isU_iff _).mpr e), rfl⟩
      dsimp only
      rw [List.getD_eq_getElem?_getD, List.getElem?_eq_getElem hlt]
      rfl
  · rintro ⟨v, hv, hne, h2⟩
    obtain ⟨j, w⟩ := q
    dsimp only at hv h2
    subst h2
    have e : lv.getD j sn_u = v := by rw [List.getD_eq_getElem?_getD, hv]; rfl
    refine ⟨j, List.mem_range.mpr (List.getElem?_eq_some_iff.mp hv).1, ?_⟩
    rw [e, if_neg (fun h => hne ((sn_isU_iff v).mp h))]
theorem sn_Ls.at {G : sn_P} {ls : Array Slot} {M : Nat} {lv : List sn_V} (h : sn_Ls G ls M lv) {k : Nat} {v : sn_V} (hk : lv[k]? = some v) (hv : v ≠ sn_u) : ls[k]? = some (.val (sn_tr G v)) :=
  h.1.2.2 (k, sn_tr G v) ((sn_lvl_mem G lv _).mpr ⟨v, hk, hv, rfl⟩)
theorem sn_cat (G : sn_P) (v : sn_V) : (sn_tr G v).category = if sn_two v then 2 else 1 := by
  match v with
  | .inl z => rfl
  | .inr (.inl (some z)) => rfl
  | .inr (.inl none) => rfl
  | .inr (.inr (.inl z)) => rfl
  | .inr (.inr (.inr (.inl z))) => rfl
  | .inr (.inr (.inr (.inr ()))) => rfl
/-- storing one slot's value -/
theorem sn_Ls.set {G : sn_P} {ls' : Array Slot} {M k : Nat} {lv : List sn_V} {v : sn_V} {ls : Array Slot} (h : sn_Ls G ls M lv) (hw : sn_wf v) (h2 : sn_two v = false)
    (hno : (sn_hl M && decide (0 < k) && sn_two (lv.getD (k - 1) sn_u)) = false)
    (hn : lv_has ls' (sn_ml M) ((k, sn_tr G v) :: (sn_lvl G lv).filter (fun q => !(q.1 == k) && !(q.1 + 1 == k && q.2.category == 2)))) : sn_Ls G ls' M (lv.set k v) := by
  obtain ⟨h1, hlen, hwf, hl2⟩ := h
  refine ⟨⟨hn.1, hn.2.1, fun q hq => hn.2.2 q ?_⟩, by rw [List.length_set]; exact hlen, fun w hw' => ?_, fun hM w hw' => ?_⟩
  · obtain ⟨w, hv, hne, hq2⟩ := (sn_lvl_mem G _ q).mp hq
    by_cases hk : q.1 = k
    · have hlt := (List.getElem?_eq_some_iff.mp hv).1
      rw [List.length_set] at hlt
      rw [hk] at hlt hv
      rw [List.getElem?_set_self hlt] at hv
      cases hv
      obtain ⟨j, w2⟩ := q
      dsimp only at hk hq2
      subst hk; subst hq2
      exact List.mem_cons_self
    · rw [List.getElem?_set_ne (Ne.symm hk)] at hv
      refine List.mem_cons_of_mem _ (List.mem_filter.mpr ⟨(sn_lvl_mem G lv q).mpr ⟨w, hv, hne, hq2⟩, ?_⟩)
      simp only [Bool.and_eq_true, Bool.not_eq_true', beq_eq_false_iff_ne, ne_eq]
      refine ⟨hk, ?_⟩
      rw [Bool.and_eq_false_iff]
      by_cases hk1 : q.1 + 1 = k
      · right
        rw [hq2, sn_cat]
        cases hM : sn_hl M with
        | false => rw [hl2 hM w (List.mem_of_getElem? hv)]; rfl
        | true =>
          rw [hM] at hno
          have e1 : lv.getD (k - 1) sn_u = w := by rw [← hk1, Nat.add_sub_cancel, List.getD_eq_getElem?_getD, hv]; rfl
          rw [e1] at hno
          have e2 : decide (0 < k) = true := decide_eq_true (by omega)
          rw [e2] at hno
          have e3 : sn_two w = false := by simpa using hno
          rw [e3]; rfl
      · left
        simpa using hk1
  · rcases List.mem_or_eq_of_mem_set hw' with h3 | h3
    · exact hwf w h3
    · rw [h3]; exact hw
  · rcases List.mem_or_eq_of_mem_set hw' with h3 | h3
    · exact hl2 hM w h3
    · rw [h3]; exact h2
/-- storing a long -/
theorem sn_Ls.set2 {G : sn_P} {ls' : Array Slot} {M k : Nat} {lv : List sn_V} {v : sn_V} {ls : Array Slot} (h : sn_Ls G ls M lv) (hw : sn_wf v) (hM : sn_hl M = true)
    (hno : (decide (0 < k) && sn_two (lv.getD (k - 1) sn_u)) = false)
    (hn : lv_has ls' (sn_ml M) ((k, sn_tr G v) :: (sn_lvl G lv).filter (fun q => !(q.1 == k) && (!(q.1 == k + 1) && !(q.1 + 1 == k && q.2.category == 2))))) : sn_Ls G ls' M ((lv.set k v).set (k + 1) sn_u) := by
  obtain ⟨h1, hlen, hwf, hl2⟩ := h
  refine ⟨⟨hn.1, hn.2.1, fun q hq => hn.2.2 q ?_⟩, by rw [List.length_set, List.length_set]; exact hlen, fun w hw' => ?_, fun hM' w hw' => ?_⟩
  · obtain ⟨w, hv, hne, hq2⟩ := (sn_lvl_mem G _ q).mp hq
    by_cases hk : q.1 = k
    · rw [List.getElem?_set_ne (by omega)] at hv
      have hlt := (List.getElem?_eq_some_iff.mp hv).1
      rw [List.length_set] at hlt
      rw [hk] at hlt hv
      rw [List.getElem?_set_self hlt] at hv
      cases hv
      obtain ⟨j, w2⟩ := q
      dsimp only at hk hq2
      subst hk; subst hq2
      exact List.mem_cons_self
    · by_cases hk1 : q.1 = k + 1
      · have hlt := (List.getElem?_eq_some_iff.mp hv).1
        rw [List.length_set] at hlt
        rw [hk1] at hlt hv
        rw [List.getElem?_set_self hlt] at hv
        cases hv
        exact absurd rfl hne
      rw [List.getElem?_set_ne (Ne.symm hk1), List.getElem?_set_ne (Ne.symm hk)] at hv
      refine List.mem_cons_of_mem _ (List.mem_filter.mpr ⟨(sn_lvl_mem G lv q).mpr ⟨w, hv, hne, hq2⟩, ?_⟩)
      simp only [Bool.and_eq_true, Bool.not_eq_true', beq_eq_false_iff_ne, ne_eq]
      refine ⟨hk, hk1, ?_⟩
      rw [Bool.and_eq_false_iff]
      by_cases hk2 : q.1 + 1 = k
      · right
        rw [hq2, sn_cat]
        have e1 : lv.getD (k - 1) sn_u = w := by rw [← hk2, Nat.add_sub_cancel, List.getD_eq_getElem?_getD, hv]; rfl
        rw [e1] at hno
        have e2 : decide (0 < k) = true := decide_eq_true (by omega)
        rw [e2] at hno
        have e3 : sn_two w = false := by simpa using hno
        rw [e3]; rfl
      · left
        simpa using hk2
  · rcases List.mem_or_eq_of_mem_set hw' with h3 | h3
    · rcases List.mem_or_eq_of_mem_set h3 with h4 | h4
      · exact hwf w h4
      · rw [h4]; exact hw
    · rw [h3]; trivial
  · rw [hM] at hM'; cases hM'
end
section
/-! ===== one instruction: the real machine follows ===== -/
section SNK
variable {G : sn_P} {p : Program} {l : Launch} {e : Env} {R : Room} {s : State} {m : MethodId} {args : Array Value} {below : List Frame} {meth : Method} {c : Code} {H : Heap} {locs : List Loc} {cells slots : Nat} {Q : State → Prop} {M pc : Nat} {ls : Array Slot} {lv r : List sn_V} {h : sn_H}
def sn_Sr (G : sn_P) (M : Nat) (s : State) (H : Heap) (locs : List Loc) (ls : Array Slot) (lv st : List sn_V) (h : sn_H) : Prop :=
  sn_Rp G h H ∧ va_S (sn_A G) s.heap H locs ∧ sn_Ls G ls M lv ∧ ∀ v ∈ st, sn_wf v
/-- what is owed at the state behind a step -/
def sn_K (G : sn_P) (M : Nat) (p : Program) (l : Launch) (e : Env) (R : Room) (s : State) (m : MethodId) (args : Array Value) (below : List Frame) (meth : Method) (c : Code) (cells slots : Nat) (Q : State → Prop) (h : sn_H) (d : Nat × List sn_V × List sn_V × sn_H) : Prop :=
  ∀ (H' : Heap) (locs' : List Loc) (ls' : Array Slot), sn_Sr G M s H' locs' ls' d.2.1 d.2.2.1 d.2.2.2 → W p l e R s m args below meth c H' locs' (cells + (d.2.2.2.1 - h.1)) (slots + (d.2.2.2.2.1 - h.2.1)) Q (F0 m d.1 ls' (d.2.2.1.map (sn_tr G)))
theorem sn_K.go {pc' : Nat} {lv' st' : List sn_V} {ls' : Array Slot} (kk : sn_K G M p l e R s m args below meth c cells slots Q h (pc', lv', st', h)) (h1 : sn_Rp G h H) (h2 : va_S (sn_A G) s.heap H locs) (h3 : sn_Ls G ls' M lv') (h4 : ∀ v ∈ st', sn_wf v) :
    W p l e R s m args below meth c H locs cells slots Q (F0 m pc' ls' (st'.map (sn_tr G))) := by
  have k := kk H locs ls' ⟨h1, h2, h3, h4⟩
  dsimp only at k
  rw [Nat.sub_self, Nat.sub_self, Nat.add_zero, Nat.add_zero] at k
  exact k
theorem sn_wf1 {v : sn_V} {r : List sn_V} (h : sn_wf v) (hr : ∀ w ∈ r, sn_wf w) : ∀ w ∈ v :: r, sn_wf w := fun w hw => by
  rcases List.mem_cons.mp hw with rfl | hw
  · exact h
  · exact hr w hw
theorem sn_wfT {v : sn_V} {r : List sn_V} (hr : ∀ w ∈ v :: r, sn_wf w) : ∀ w ∈ r, sn_wf w := fun w hw => hr w (List.mem_cons_of_mem _ hw)
theorem sn_wfH {v : sn_V} {r : List sn_V} (hr : ∀ w ∈ v :: r, sn_wf w) : sn_wf v := hr v List.mem_cons_self
theorem sn_k_iconst {n : Int} (X : sn_Cx G M p R s m args meth c) (hd : decode (sn_bc M) pc = .ok (.iconst n, 1)) (S : sn_Sr G M s H locs ls lv r h) (hn : sn_inR n = true) (kk : sn_K G M p l e R s m args below meth c cells slots Q h (pc + 1, lv, sn_i n :: r, h)) :
    W p l e R s m args below meth c H locs cells slots Q (F0 m pc ls (r.map (sn_tr G))) := by
  refine lv_iconst (v := Int32.ofInt n) X.1 X.2.1 hd rfl ?_
  exact kk.go S.1 S.2.1 S.2.2.1 (sn_wf1 (sn_inR_iff hn) S.2.2.2)
theorem sn_k_bipush {n : Int} (X : sn_Cx G M p R s m args meth c) (hd : decode (sn_bc M) pc = .ok (.bipush n, 2)) (S : sn_Sr G M s H locs ls lv r h) (h1 : -128 ≤ n) (h2 : n ≤ 127) (kk : sn_K G M p l e R s m args below meth c cells slots Q h (pc + 2, lv, sn_i n :: r, h)) :
    W p l e R s m args below meth c H locs cells slots Q (F0 m pc ls (r.map (sn_tr G))) := by
  refine lv_bipush (v := Int32.ofInt n) X.1 X.2.1 hd ?_ ?_
  · apply Int32.toInt_inj.mp
    rw [Int8.toInt_toInt32, Int8.toInt_ofInt_of_le (by omega) (by omega), sn_to ⟨by omega, by omega⟩]
  · exact kk.go S.1 S.2.1 S.2.2.1 (sn_wf1 (show -2147483648 ≤ n ∧ n ≤ 2147483647 by omega) S.2.2.2)
theorem sn_k_sipush {n : Int} (X : sn_Cx G M p R s m args meth c) (hd : decode (sn_bc M) pc = .ok (.sipush n, 3)) (S : sn_Sr G M s H locs ls lv r h) (h1 : -32768 ≤ n) (h2 : n ≤ 32767) (kk : sn_K G M p l e R s m args below meth c cells slots Q h (pc + 3, lv, sn_i n :: r, h)) :
    W p l e R s m args below meth c H locs cells slots Q (F0 m pc ls (r.map (sn_tr G))) := by
  refine lv_sipush (v := Int32.ofInt n) X.1 X.2.1 hd ?_ ?_
  · apply Int32.toInt_inj.mp
    rw [Int16.toInt_toInt32, Int16.toInt_ofInt_of_le (by omega) (by omega), sn_to ⟨by omega, by omega⟩]
  · exact kk.go S.1 S.2.1 S.2.2.1 (sn_wf1 (show -2147483648 ≤ n ∧ n ≤ 2147483647 by omega) S.2.2.2)
theorem sn_k_dconst (X : sn_Cx G M p R s m args meth c) (hd : decode (sn_bc M) pc = .ok (.dconst 0, 1)) (S : sn_Sr G M s H locs ls lv r h) (kk : sn_K G M p l e R s m args below meth c cells slots Q h (pc + 1, lv, sn_d FP.dconst0 :: r, h)) :
    W p l e R s m args below meth c H locs cells slots Q (F0 m pc ls (r.map (sn_tr G))) := by
  refine lv_dconst0 X.1 X.2.1 hd ?_
  exact kk.go S.1 S.2.1 S.2.2.1 (sn_wf1 (v := sn_d FP.dconst0) trivial S.2.2.2)
theorem sn_k_ld_in {k : Fin 4} {z : Int} (X : sn_Cx G M p R s m args meth c) (hd : decode (sn_bc M) pc = .ok (.iload_n k, 1)) (S : sn_Sr G M s H locs ls lv r h) (hk : lv[k.val]? = some (sn_i z)) (kk : sn_K G M p l e R s m args below meth c cells slots Q h (pc + 1, lv, sn_i z :: r, h)) :
    W p l e R s m args below meth c H locs cells slots Q (F0 m pc ls (r.map (sn_tr G))) := by
  refine lv_iload_n X.1 X.2.1 hd rfl (S.2.2.1.at hk (by intro h; cases h)) ?_
  exact kk.go S.1 S.2.1 S.2.2.1 (sn_wf1 (S.2.2.1.2.2.1 _ (List.mem_of_getElem? hk)) S.2.2.2)
theorem sn_k_ld_i {k : Nat} {z : Int} (X : sn_Cx G M p R s m args meth c) (hd : decode (sn_bc M) pc = .ok (.iload k, 2)) (S : sn_Sr G M s H locs ls lv r h) (hk : lv[k]? = some (sn_i z)) (kk : sn_K G M p l e R s m args below meth c cells slots Q h (pc + 2, lv, sn_i z :: r, h)) :
    W p l e R s m args below meth c H locs cells slots Q (F0 m pc ls (r.map (sn_tr G))) := by
  refine lv_iload X.1 X.2.1 hd (S.2.2.1.at hk (by intro h; cases h)) ?_
  exact kk.go S.1 S.2.1 S.2.2.1 (sn_wf1 (S.2.2.1.2.2.1 _ (List.mem_of_getElem? hk)) S.2.2.2)
theorem sn_k_ld_an {k : Fin 4} {z : Option Nat} (X : sn_Cx G M p R s m args meth c) (hd : decode (sn_bc M) pc = .ok (.aload_n k, 1)) (S : sn_Sr G M s H locs ls lv r h) (hk : lv[k.val]? = some (.inr (.inl z))) (kk : sn_K G M p l e R s m args below meth c cells slots Q h (pc + 1, lv, .inr (.inl z) :: r, h)) :
    W p l e R s m args below meth c H locs cells slots Q (F0 m pc ls (r.map (sn_tr G))) := by
  have h1 := S.2.2.1.at hk (by intro h; cases h)
  have h2 := kk.go (locs := locs) S.1 S.2.1 S.2.2.1 (sn_wf1 (S.2.2.1.2.2.1 _ (List.mem_of_getElem? hk)) S.2.2.2)
  cases z with
  | some z => exact lv_aload_n X.1 X.2.1 hd rfl h1 h2
  | none => exact lv_aload_nN X.1 X.2.1 hd rfl h1 h2
theorem sn_k_ld_a {k : Nat} {z : Option Nat} (X : sn_Cx G M p R s m args meth c) (hd : decode (sn_bc M) pc = .ok (.aload k, 2)) (S : sn_Sr G M s H locs ls lv r h) (hk : lv[k]? = some (.inr (.inl z))) (kk : sn_K G M p l e R s m args below meth c cells slots Q h (pc + 2, lv, .inr (.inl z) :: r, h)) :
    W p l e R s m args below meth c H locs cells slots Q (F0 m pc ls (r.map (sn_tr G))) := by
  have h1 := S.2.2.1.at hk (by intro h; cases h)
  have h2 := kk.go (locs := locs) S.1 S.2.1 S.2.2.1 (sn_wf1 (S.2.2.1.2.2.1 _ (List.mem_of_getElem? hk)) S.2.2.2)
  cases z with
  | some z => exact lv_aload X.1 X.2.1 hd h1 h2
  | none => exact lv_aloadN X.1 X.2.1 hd h1 h2
theorem sn_k_ld_ln {k : Fin 4} {z : Int} (X : sn_Cx G M p R s m args meth c) (hd : decode (sn_bc M) pc = .ok (.lload_n k, 1)) (S : sn_Sr G M s H locs ls lv r h) (hk : lv[k.val]? = some (sn_l z)) (kk : sn_K G M p l e R s m args below meth c cells slots Q h (pc + 1, lv, sn_l z :: r, h)) :
    W p l e R s m args below meth c H locs cells slots Q (F0 m pc ls (r.map (sn_tr G))) := by
  refine lv_lload_n X.1 X.2.1 hd rfl (S.2.2.1.at hk (by intro h; cases h)) ?_
  exact kk.go S.1 S.2.1 S.2.2.1 (sn_wf1 (S.2.2.1.2.2.1 _ (List.mem_of_getElem? hk)) S.2.2.2)
theorem sn_k_ld_l {k : Nat} {z : Int} (X : sn_Cx G M p R s m args meth c) (hd : decode (sn_bc M) pc = .ok (.lload k, 2)) (S : sn_Sr G M s H locs ls lv r h) (hk : lv[k]? = some (sn_l z)) (kk : sn_K G M p l e R s m args below meth c cells slots Q h (pc + 2, lv, sn_l z :: r, h)) :
    W p l e R s m args below meth c H locs cells slots Q (F0 m pc ls (r.map (sn_tr G))) := by
  refine lv_lload X.1 X.2.1 hd (S.2.2.1.at hk (by intro h; cases h)) ?_
  exact kk.go S.1 S.2.1 S.2.2.1 (sn_wf1 (S.2.2.1.2.2.1 _ (List.mem_of_getElem? hk)) S.2.2.2)
theorem sn_k_st_in {k : Fin 4} {z : Int} (X : sn_Cx G M p R s m args meth c) (hd : decode (sn_bc M) pc = .ok (.istore_n k, 1)) (S : sn_Sr G M s H locs ls lv (sn_i z :: r) h) (hk : k.val < lv.length) (hno : (sn_hl M && decide (0 < k.val) && sn_two (lv.getD (k.val - 1) sn_u)) = false) (kk : sn_K G M p l e R s m args below meth c cells slots Q h (pc + 1, lv.set k.val (sn_i z), r, h)) :
    W p l e R s m args below meth c H locs cells slots Q (F0 m pc ls ((sn_i z :: r).map (sn_tr G))) := by
  refine lv_istore_n X.1 X.2.1 hd rfl S.2.2.1.1 (by rw [← S.2.2.1.2.1]; exact hk) rfl (fun ls' hl => ?_)
  exact kk.go S.1 S.2.1 (S.2.2.1.set (sn_wfH S.2.2.2) rfl hno hl) (sn_wfT S.2.2.2)
theorem sn_k_st_i {k : Nat} {z : Int} (X : sn_Cx G M p R s m args meth c) (hd : decode (sn_bc M) pc = .ok (.istore k, 2)) (S : sn_Sr G M s H locs ls lv (sn_i z :: r) h) (hk : k < lv.length) (hno : (sn_hl M && decide (0 < k) && sn_two (lv.getD (k - 1) sn_u)) = false) (kk : sn_K G M p l e R s m args below meth c cells slots Q h (pc + 2, lv.set k (sn_i z), r, h)) :
    W p l e R s m args below meth c H locs cells slots Q (F0 m pc ls ((sn_i z :: r).map (sn_tr G))) := by
  refine lv_istore X.1 X.2.1 hd S.2.2.1.1 (by rw [← S.2.2.1.2.1]; exact hk) rfl (fun ls' hl => ?_)
  exact kk.go S.1 S.2.1 (S.2.2.1.set (sn_wfH S.2.2.2) rfl hno hl) (sn_wfT S.2.2.2)
theorem sn_k_st_an {k : Fin 4} {z : Nat} (X : sn_Cx G M p R s m args meth c) (hd : decode (sn_bc M) pc = .ok (.astore_n k, 1)) (S : sn_Sr G M s H locs ls lv (sn_r z :: r) h) (hk : k.val < lv.length) (hno : (sn_hl M && decide (0 < k.val) && sn_two (lv.getD (k.val - 1) sn_u)) = false) (kk : sn_K G M p l e R s m args below meth c cells slots Q h (pc + 1, lv.set k.val (sn_r z), r, h)) :
    W p l e R s m args below meth c H locs cells slots Q (F0 m pc ls ((sn_r z :: r).map (sn_tr G))) := by
  refine lv_astore_n X.1 X.2.1 hd rfl S.2.2.1.1 (by rw [← S.2.2.1.2.1]; exact hk) rfl (fun ls' hl => ?_)
  exact kk.go S.1 S.2.1 (S.2.2.1.set (sn_wfH S.2.2.2) rfl hno hl) (sn_wfT S.2.2.2)
theorem sn_k_st_a {k : Nat} {z : Nat} (X : sn_Cx G M p R s m args meth c) (hd : decode (sn_bc M) pc = .ok (.astore k, 2)) (S : sn_Sr G M s H locs ls lv (sn_r z :: r) h) (hk : k < lv.length) (hno : (sn_hl M && decide (0 < k) && sn_two (lv.getD (k - 1) sn_u)) = false) (kk : sn_K G M p l e R s m args below meth c cells slots Q h (pc + 2, lv.set k (sn_r z), r, h)) :
    W p l e R s m args below meth c H locs cells slots Q (F0 m pc ls ((sn_r z :: r).map (sn_tr G))) := by
  refine lv_astore X.1 X.2.1 hd S.2.2.1.1 (by rw [← S.2.2.1.2.1]; exact hk) rfl (fun ls' hl => ?_)
  exact kk.go S.1 S.2.1 (S.2.2.1.set (sn_wfH S.2.2.2) rfl hno hl) (sn_wfT S.2.2.2)
theorem sn_k_st_ln {k : Fin 4} {z : Int} (X : sn_Cx G M p R s m args meth c) (hd : decode (sn_bc M) pc = .ok (.lstore_n k, 1)) (S : sn_Sr G M s H locs ls lv (sn_l z :: r) h) (hM : sn_hl M = true) (hk : k.val + 1 < lv.length) (hno : (decide (0 < k.val) && sn_two (lv.getD (k.val - 1) sn_u)) = false) (kk : sn_K G M p l e R s m args below meth c cells slots Q h (pc + 1, (lv.set k.val (sn_l z)).set (k.val + 1) sn_u, r, h)) :
    W p l e R s m args below meth c H locs cells slots Q (F0 m pc ls ((sn_l z :: r).map (sn_tr G))) := by
  refine lv_lstore_n X.1 X.2.1 hd rfl S.2.2.1.1 (by rw [← S.2.2.1.2.1]; exact hk) rfl (fun ls' hl => ?_)
  exact kk.go S.1 S.2.1 (S.2.2.1.set2 (sn_wfH S.2.2.2) hM hno hl) (sn_wfT S.2.2.2)
theorem sn_k_st_l {k : Nat} {z : Int} (X : sn_Cx G M p R s m args meth c) (hd : decode (sn_bc M) pc = .ok (.lstore k, 2)) (S : sn_Sr G M s H locs ls lv (sn_l z :: r) h) (hM : sn_hl M = true) (hk : k + 1 < lv.length) (hno : (decide (0 < k) && sn_two (lv.getD (k - 1) sn_u)) = false) (kk : sn_K G M p l e R s m args below meth c cells slots Q h (pc + 2, (lv.set k (sn_l z)).set (k + 1) sn_u, r, h)) :
    W p l e R s m args below meth c H locs cells slots Q (F0 m pc ls ((sn_l z :: r).map (sn_tr G))) := by
  refine lv_lstore X.1 X.2.1 hd S.2.2.1.1 (by rw [← S.2.2.1.2.1]; exact hk) rfl (fun ls' hl => ?_)
  exact kk.go S.1 S.2.1 (S.2.2.1.set2 (sn_wfH S.2.2.2) hM hno hl) (sn_wfT S.2.2.2)
theorem sn_k_iinc {k : Nat} {n z : Int} (X : sn_Cx G M p R s m args meth c) (hd : decode (sn_bc M) pc = .ok (.iinc k n, 3)) (S : sn_Sr G M s H locs ls lv r h) (hz : lv[k]? = some (sn_i z)) (hk : k < lv.length) (hno : (sn_hl M && decide (0 < k) && sn_two (lv.getD (k - 1) sn_u)) = false) (kk : sn_K G M p l e R s m args below meth c cells slots Q h (pc + 3, lv.set k (sn_i (sn_wr (z + n))), r, h)) :
    W p l e R s m args below meth c H locs cells slots Q (F0 m pc ls (r.map (sn_tr G))) := by
  have hm : (k, sn_tr G (sn_i z)) ∈ sn_lvl G lv := (sn_lvl_mem G lv _).mpr ⟨_, hz, (by intro h; cases h), rfl⟩
  obtain ⟨j, hj⟩ := List.getElem?_of_mem hm
  refine lv_iinc (k := j) (x := Int32.ofInt z) (v := Int32.ofInt (sn_wr (z + n))) X.1 X.2.1 hd S.2.2.1.1 hj (by rw [sn_wr_eq, Int32.ofInt_add]) (by rw [← S.2.2.1.2.1]; exact hk) rfl (fun ls' hl => ?_)
  exact kk.go S.1 S.2.1 (S.2.2.1.set (sn_wr_in _) rfl hno hl) S.2.2.2
theorem sn_k_iadd {x y : Int} (X : sn_Cx G M p R s m args meth c) (hd : decode (sn_bc M) pc = .ok (.iadd, 1)) (S : sn_Sr G M s H locs ls lv (sn_i y :: sn_i x :: r) h) (kk : sn_K G M p l e R s m args below meth c cells slots Q h (pc + 1, lv, sn_i (sn_wr (x + y)) :: r, h)) :
    W p l e R s m args below meth c H locs cells slots Q (F0 m pc ls ((sn_i y :: sn_i x :: r).map (sn_tr G))) := by
  refine lv_iadd (x := Int32.ofInt x) (y := Int32.ofInt y) X.1 X.2.1 hd ?_
  rw [← Int32.ofInt_add, ← sn_wr_eq]
  exact kk.go S.1 S.2.1 S.2.2.1 (sn_wf1 (v := sn_i _) (sn_wr_in _) (sn_wfT (sn_wfT S.2.2.2)))
theorem sn_k_isub {x y : Int} (X : sn_Cx G M p R s m args meth c) (hd : decode (sn_bc M) pc = .ok (.isub, 1)) (S : sn_Sr G M s H locs ls lv (sn_i y :: sn_i x :: r) h) (kk : sn_K G M p l e R s m args below meth c cells slots Q h (pc + 1, lv, sn_i (sn_wr (x - y)) :: r, h)) :
    W p l e R s m args below meth c H locs cells slots Q (F0 m pc ls ((sn_i y :: sn_i x :: r).map (sn_tr G))) := by
  refine lv_isub (x := Int32.ofInt x) (y := Int32.ofInt y) X.1 X.2.1 hd ?_
  rw [← Int32.ofInt_sub, ← sn_wr_eq]
  exact kk.go S.1 S.2.1 S.2.2.1 (sn_wf1 (v := sn_i _) (sn_wr_in _) (sn_wfT (sn_wfT S.2.2.2)))
theorem sn_k_imul {x y : Int} (X : sn_Cx G M p R s m args meth c) (hd : decode (sn_bc M) pc = .ok (.imul, 1)) (S : sn_Sr G M s H locs ls lv (sn_i y :: sn_i x :: r) h) (kk : sn_K G M p l e R s m args below meth c cells slots Q h (pc + 1, lv, sn_i (sn_wr (x * y)) :: r, h)) :
    W p l e R s m args below meth c H locs cells slots Q (F0 m pc ls ((sn_i y :: sn_i x :: r).map (sn_tr G))) := by
  refine lv_imul (x := Int32.ofInt x) (y := Int32.ofInt y) X.1 X.2.1 hd ?_
  rw [← Int32.ofInt_mul, ← sn_wr_eq]
  exact kk.go S.1 S.2.1 S.2.2.1 (sn_wf1 (v := sn_i _) (sn_wr_in _) (sn_wfT (sn_wfT S.2.2.2)))
theorem sn_k_iand {x y : Int} (X : sn_Cx G M p R s m args meth c) (hd : decode (sn_bc M) pc = .ok (.iand, 1)) (S : sn_Sr G M s H locs ls lv (sn_i y :: sn_i x :: r) h) (kk : sn_K G M p l e R s m args below meth c cells slots Q h (pc + 1, lv, sn_i (sn_an x y) :: r, h)) :
    W p l e R s m args below meth c H locs cells slots Q (F0 m pc ls ((sn_i y :: sn_i x :: r).map (sn_tr G))) := by
  refine lv_iand (x := Int32.ofInt x) (y := Int32.ofInt y) X.1 X.2.1 hd ?_
  have k := kk.go (locs := locs) S.1 S.2.1 S.2.2.1 (sn_wf1 (v := sn_i _) (sn_of_in _) (sn_wfT (sn_wfT S.2.2.2)))
  simp only [List.map_cons, sn_tr, sn_an, Int32.ofInt_toInt] at k
  exact k
theorem sn_k_ishr {x y : Int} (X : sn_Cx G M p R s m args meth c) (hd : decode (sn_bc M) pc = .ok (.ishr, 1)) (S : sn_Sr G M s H locs ls lv (sn_i y :: sn_i x :: r) h) (kk : sn_K G M p l e R s m args below meth c cells slots Q h (pc + 1, lv, sn_i (sn_sh x y) :: r, h)) :
    W p l e R s m args below meth c H locs cells slots Q (F0 m pc ls ((sn_i y :: sn_i x :: r).map (sn_tr G))) := by
  refine lv_ishr (x := Int32.ofInt x) (y := Int32.ofInt y) X.1 X.2.1 hd ?_
  have k := kk.go (locs := locs) S.1 S.2.1 S.2.2.1 (sn_wf1 (v := sn_i _) (sn_of_in _) (sn_wfT (sn_wfT S.2.2.2)))
  simp only [List.map_cons, sn_tr, sn_sh, Int32.ofInt_toInt] at k
  exact k
theorem sn_k_idiv {x y : Int} (X : sn_Cx G M p R s m args meth c) (hd : decode (sn_bc M) pc = .ok (.idiv, 1)) (S : sn_Sr G M s H locs ls lv (sn_i y :: sn_i x :: r) h) (hy : ¬ y = 0) (kk : sn_K G M p l e R s m args below meth c cells slots Q h (pc + 1, lv, sn_i (sn_dv x y) :: r, h)) :
    W p l e R s m args below meth c H locs cells slots Q (F0 m pc ls ((sn_i y :: sn_i x :: r).map (sn_tr G))) := by
  refine lv_idiv (x := Int32.ofInt x) (y := Int32.ofInt y) X.1 X.2.1 hd ?_ ?_
  · intro h0
    have h1 := congrArg Int32.toInt h0
    rw [sn_to (sn_wfH S.2.2.2), Int32.toInt_zero] at h1
    exact hy h1
  have k := kk.go (locs := locs) S.1 S.2.1 S.2.2.1 (sn_wf1 (v := sn_i _) (sn_of_in _) (sn_wfT (sn_wfT S.2.2.2)))
  simp only [List.map_cons, sn_tr, sn_dv, Int32.ofInt_toInt] at k
  exact k
theorem sn_k_irem {x y : Int} (X : sn_Cx G M p R s m args meth c) (hd : decode (sn_bc M) pc = .ok (.irem, 1)) (S : sn_Sr G M s H locs ls lv (sn_i y :: sn_i x :: r) h) (hy : ¬ y = 0) (kk : sn_K G M p l e R s m args below meth c cells slots Q h (pc + 1, lv, sn_i (sn_rm x y) :: r, h)) :
    W p l e R s m args below meth c H locs cells slots Q (F0 m pc ls ((sn_i y :: sn_i x :: r).map (sn_tr G))) := by
  refine lv_irem (x := Int32.ofInt x) (y := Int32.ofInt y) X.1 X.2.1 hd ?_ ?_
  · intro h0
    have h1 := congrArg Int32.toInt h0
    rw [sn_to (sn_wfH S.2.2.2), Int32.toInt_zero] at h1
    exact hy h1
  have k := kk.go (locs := locs) S.1 S.2.1 S.2.2.1 (sn_wf1 (v := sn_i _) (sn_of_in _) (sn_wfT (sn_wfT S.2.2.2)))
  simp only [List.map_cons, sn_tr, sn_rm, Int32.ofInt_toInt] at k
  exact k
theorem sn_k_i2l {x : Int} (X : sn_Cx G M p R s m args meth c) (hd : decode (sn_bc M) pc = .ok (.i2l, 1)) (S : sn_Sr G M s H locs ls lv (sn_i x :: r) h) (kk : sn_K G M p l e R s m args below meth c cells slots Q h (pc + 1, lv, sn_l x :: r, h)) :
    W p l e R s m args below meth c H locs cells slots Q (F0 m pc ls ((sn_i x :: r).map (sn_tr G))) := by
  have hx : -2147483648 ≤ x ∧ x ≤ 2147483647 := sn_wfH S.2.2.2
  have h64 : (Int64.ofInt x).toInt = x := Int64.toInt_ofInt_of_le (by omega) (by omega)
  refine lv_i2l (x := Int32.ofInt x) (v := Int64.ofInt x) X.1 X.2.1 hd ?_ ?_
  · apply Int64.toInt_inj.mp
    rw [Int32.toInt_toInt64, sn_to hx, h64]
  · exact kk.go S.1 S.2.1 S.2.2.1 (sn_wf1 (v := sn_l x) h64 (sn_wfT S.2.2.2))
theorem sn_k_ladd {x y : Int} (X : sn_Cx G M p R s m args meth c) (hd : decode (sn_bc M) pc = .ok (.ladd, 1)) (S : sn_Sr G M s H locs ls lv (sn_l y :: sn_l x :: r) h) (kk : sn_K G M p l e R s m args below meth c cells slots Q h (pc + 1, lv, sn_l (sn_wl (x + y)) :: r, h)) :
    W p l e R s m args below meth c H locs cells slots Q (F0 m pc ls ((sn_l y :: sn_l x :: r).map (sn_tr G))) := by
  refine lv_ladd (x := Int64.ofInt x) (y := Int64.ofInt y) X.1 X.2.1 hd ?_
  rw [← Int64.ofInt_add, ← sn_wl_eq]
  exact kk.go S.1 S.2.1 S.2.2.1 (sn_wf1 (v := sn_l _) (show sn_wl (sn_wl _) = _ by unfold sn_wl; rw [Int64.ofInt_toInt]) (sn_wfT (sn_wfT S.2.2.2)))
theorem sn_k_lmul {x y : Int} (X : sn_Cx G M p R s m args meth c) (hd : decode (sn_bc M) pc = .ok (.lmul, 1)) (S : sn_Sr G M s H locs ls lv (sn_l y :: sn_l x :: r) h) (kk : sn_K G M p l e R s m args below meth c cells slots Q h (pc + 1, lv, sn_l (sn_wl (x * y)) :: r, h)) :
    W p l e R s m args below meth c H locs cells slots Q (F0 m pc ls ((sn_l y :: sn_l x :: r).map (sn_tr G))) := by
  refine lv_lmul (x := Int64.ofInt x) (y := Int64.ofInt y) X.1 X.2.1 hd ?_
  rw [← Int64.ofInt_mul, ← sn_wl_eq]
  exact kk.go S.1 S.2.1 S.2.2.1 (sn_wf1 (v := sn_l _) (show sn_wl (sn_wl _) = _ by unfold sn_wl; rw [Int64.ofInt_toInt]) (sn_wfT (sn_wfT S.2.2.2)))
theorem sn_k_lcmp {x y : Int} (X : sn_Cx G M p R s m args meth c) (hd : decode (sn_bc M) pc = .ok (.lcmp, 1)) (S : sn_Sr G M s H locs ls lv (sn_l y :: sn_l x :: r) h) (kk : sn_K G M p l e R s m args below meth c cells slots Q h (pc + 1, lv, sn_i (sn_lc x y) :: r, h)) :
    W p l e R s m args below meth c H locs cells slots Q (F0 m pc ls ((sn_l y :: sn_l x :: r).map (sn_tr G))) := by
  refine W.lcmp (x := Int64.ofInt x) (y := Int64.ofInt y) X.1 X.2.1 hd ?_
  have k := kk.go (locs := locs) S.1 S.2.1 S.2.2.1 (sn_wf1 (v := sn_i _) (sn_of_in _) (sn_wfT (sn_wfT S.2.2.2)))
  simp only [List.map_cons, sn_tr, sn_lc, Int32.ofInt_toInt] at k
  exact k
theorem sn_k_i2d {x : Int} (X : sn_Cx G M p R s m args meth c) (hd : decode (sn_bc M) pc = .ok (.i2d, 1)) (S : sn_Sr G M s H locs ls lv (sn_i x :: r) h) (kk : sn_K G M p l e R s m args below meth c cells slots Q h (pc + 1, lv, sn_d (FP.i2d (Int32.ofInt x)) :: r, h)) :
    W p l e R s m args below meth c H locs cells slots Q (F0 m pc ls ((sn_i x :: r).map (sn_tr G))) := by
  refine lv_i2d (x := Int32.ofInt x) X.1 X.2.1 hd ?_
  exact kk.go S.1 S.2.1 S.2.2.1 (sn_wf1 (v := sn_d _) trivial (sn_wfT S.2.2.2))
theorem sn_k_ddiv {x y : UInt64} (X : sn_Cx G M p R s m args meth c) (hd : decode (sn_bc M) pc = .ok (.ddiv, 1)) (S : sn_Sr G M s H locs ls lv (sn_d y :: sn_d x :: r) h) (hn : FP.ddiv x y &&& 0x7fffffffffffffff ≤ 0x7ff0000000000000) (kk : sn_K G M p l e R s m args below meth c cells slots Q h (pc + 1, lv, sn_d (FP.ddiv x y) :: r, h)) :
    W p l e R s m args below meth c H locs cells slots Q (F0 m pc ls ((sn_d y :: sn_d x :: r).map (sn_tr G))) := by
  refine lv_ddiv (x := x) (y := y) X.1 X.2.1 hd hn ?_
  exact kk.go S.1 S.2.1 S.2.2.1 (sn_wf1 (v := sn_d _) trivial (sn_wfT (sn_wfT S.2.2.2)))
theorem sn_k_dcmp {x y : UInt64} {op : CmpOp} (X : sn_Cx G M p R s m args meth c) (hd : decode (sn_bc M) pc = .ok (.dcmp op, 1)) (S : sn_Sr G M s H locs ls lv (sn_d y :: sn_d x :: r) h) (kk : sn_K G M p l e R s m args below meth c cells slots Q h (pc + 1, lv, sn_i (Op.cmpValue (FP.dcmp x y) op).toInt :: r, h)) :
    W p l e R s m args below meth c H locs cells slots Q (F0 m pc ls ((sn_d y :: sn_d x :: r).map (sn_tr G))) := by
  refine lv_dcmp (x := x) (y := y) X.1 X.2.1 hd ?_
  have k := kk.go (locs := locs) S.1 S.2.1 S.2.2.1 (sn_wf1 (v := sn_i _) (sn_of_in _) (sn_wfT (sn_wfT S.2.2.2)))
  simp only [List.map_cons, sn_tr, Int32.ofInt_toInt] at k
  exact k
theorem sn_isN1 {v : sn_V} (h : sn_isN v = true) : (sn_tr G v).category = 1 := by
  rw [sn_cat]
  match v, h with
  | .inl z, _ => rfl
  | .inr (.inl z), _ => rfl
theorem sn_k_dup {v : sn_V} (X : sn_Cx G M p R s m args meth c) (hd : decode (sn_bc M) pc = .ok (.dup, 1)) (S : sn_Sr G M s H locs ls lv (v :: r) h) (hv : sn_isN v = true) (kk : sn_K G M p l e R s m args below meth c cells slots Q h (pc + 1, lv, v :: v :: r, h)) :
    W p l e R s m args below meth c H locs cells slots Q (F0 m pc ls ((v :: r).map (sn_tr G))) := by
  refine lv_dup X.1 X.2.1 hd (sn_isN1 hv) ?_
  exact kk.go S.1 S.2.1 S.2.2.1 (sn_wf1 (sn_wfH S.2.2.2) S.2.2.2)
theorem sn_k_dup2 {v w : sn_V} (X : sn_Cx G M p R s m args meth c) (hd : decode (sn_bc M) pc = .ok (.dup2, 1)) (S : sn_Sr G M s H locs ls lv (v :: w :: r) h) (hv : sn_isN v = true) (hw : sn_isN w = true) (kk : sn_K G M p l e R s m args below meth c cells slots Q h (pc + 1, lv, v :: w :: v :: w :: r, h)) :
    W p l e R s m args below meth c H locs cells slots Q (F0 m pc ls ((v :: w :: r).map (sn_tr G))) := by
  refine lv_dup2_11 X.1 X.2.1 hd (sn_isN1 hv) (sn_isN1 hw) ?_
  exact kk.go S.1 S.2.1 S.2.2.1 (sn_wf1 (sn_wfH S.2.2.2) (sn_wf1 (sn_wfH (sn_wfT S.2.2.2)) S.2.2.2))
theorem sn_k_pop {v : sn_V} (X : sn_Cx G M p R s m args meth c) (hd : decode (sn_bc M) pc = .ok (.pop, 1)) (S : sn_Sr G M s H locs ls lv (v :: r) h) (hv : sn_isN v = true) (kk : sn_K G M p l e R s m args below meth c cells slots Q h (pc + 1, lv, r, h)) :
    W p l e R s m args below meth c H locs cells slots Q (F0 m pc ls ((v :: r).map (sn_tr G))) := by
  refine lv_pop X.1 X.2.1 hd (sn_isN1 hv) ?_
  exact kk.go S.1 S.2.1 S.2.2.1 (sn_wfT S.2.2.2)
theorem sn_goto_eq {off : Int} {d : Nat × List sn_V × List sn_V × sn_H} (hg : sn_goto pc off lv r h = some (.inl d)) : (pc : Int) + off = ((((pc : Int) + off).toNat : Nat) : Int) ∧ d = (((pc : Int) + off).toNat, lv, r, h) := by
  unfold sn_goto at hg
  split at hg
  · rename_i h0
    cases hg
    exact ⟨(Int.toNat_of_nonneg h0).symm, rfl⟩
  · cases hg
theorem sn_k_goto {off : Int} {d : Nat × List sn_V × List sn_V × sn_H} (X : sn_Cx G M p R s m args meth c) (hd : decode (sn_bc M) pc = .ok (.goto off, 3)) (S : sn_Sr G M s H locs ls lv r h) (hg : sn_goto pc off lv r h = some (.inl d)) (kk : sn_K G M p l e R s m args below meth c cells slots Q h d) :
    W p l e R s m args below meth c H locs cells slots Q (F0 m pc ls (r.map (sn_tr G))) := by
  obtain ⟨h1, rfl⟩ := sn_goto_eq hg
  exact lv_goto X.1 X.2.1 hd h1 (kk.go S.1 S.2.1 S.2.2.1 S.2.2.2)
theorem sn_lt_iff {x y : Int} (hx : -2147483648 ≤ x ∧ x ≤ 2147483647) (hy : -2147483648 ≤ y ∧ y ≤ 2147483647) : Int32.ofInt x < Int32.ofInt y ↔ x < y := by
  rw [Int32.lt_iff_toInt_lt, sn_to hx, sn_to hy]
theorem sn_le_iff {x y : Int} (hx : -2147483648 ≤ x ∧ x ≤ 2147483647) (hy : -2147483648 ≤ y ∧ y ≤ 2147483647) : Int32.ofInt x ≤ Int32.ofInt y ↔ x ≤ y := by
  rw [Int32.le_iff_toInt_le, sn_to hx, sn_to hy]
theorem sn_eq_iff {x y : Int} (hx : -2147483648 ≤ x ∧ x ≤ 2147483647) (hy : -2147483648 ≤ y ∧ y ≤ 2147483647) : Int32.ofInt x = Int32.ofInt y ↔ x = y := by
  rw [← Int32.toInt_inj, sn_to hx, sn_to hy]
theorem sn_k_icmp_eq {x y off : Int} (X : sn_Cx G M p R s m args meth c) (hd : decode (sn_bc M) pc = .ok (.if_icmp .eq off, 3)) (S : sn_Sr G M s H locs ls lv (sn_i y :: sn_i x :: r) h) (hoff : 0 ≤ (pc : Int) + off) (kk : sn_K G M p l e R s m args below meth c cells slots Q h (if sn_cmp .eq x y then (((pc : Int) + off).toNat, lv, r, h) else (pc + 3, lv, r, h))) :
    W p l e R s m args below meth c H locs cells slots Q (F0 m pc ls ((sn_i y :: sn_i x :: r).map (sn_tr G))) := by
  have hy : -2147483648 ≤ y ∧ y ≤ 2147483647 := sn_wfH S.2.2.2
  have hx : -2147483648 ≤ x ∧ x ≤ 2147483647 := sn_wfH (sn_wfT S.2.2.2)
  refine lv_icmp_eq (x := Int32.ofInt x) (y := Int32.ofInt y) (tgt := ((pc : Int) + off).toNat) X.1 X.2.1 hd (Int.toNat_of_nonneg hoff).symm (fun hc => ?_) (fun hc => ?_)
  · rw [if_pos (show sn_cmp .eq x y = true from decide_eq_true ((sn_eq_iff hx hy).mp hc))] at kk
    exact kk.go S.1 S.2.1 S.2.2.1 (sn_wfT (sn_wfT S.2.2.2))
  · rw [if_neg (show ¬ sn_cmp .eq x y = true from fun z => hc ((sn_eq_iff hx hy).mpr (of_decide_eq_true z)))] at kk
    exact kk.go S.1 S.2.1 S.2.2.1 (sn_wfT (sn_wfT S.2.2.2))
theorem sn_k_if_eq {x off : Int} (X : sn_Cx G M p R s m args meth c) (hd : decode (sn_bc M) pc = .ok (.ifCond .eq off, 3)) (S : sn_Sr G M s H locs ls lv (sn_i x :: r) h) (hoff : 0 ≤ (pc : Int) + off) (kk : sn_K G M p l e R s m args below meth c cells slots Q h (if sn_cmp .eq x 0 then (((pc : Int) + off).toNat, lv, r, h) else (pc + 3, lv, r, h))) :
    W p l e R s m args below meth c H locs cells slots Q (F0 m pc ls ((sn_i x :: r).map (sn_tr G))) := by
  obtain ⟨y, hyd⟩ : ∃ y : Int, y = 0 := ⟨0, rfl⟩
  have hy : -2147483648 ≤ y ∧ y ≤ 2147483647 := by omega
  have hx : -2147483648 ≤ x ∧ x ≤ 2147483647 := sn_wfH S.2.2.2
  have h0 : (0 : Int32) = Int32.ofInt y := by rw [hyd]; rfl
  rw [← hyd] at kk
  refine lv_if_eq (x := Int32.ofInt x) (tgt := ((pc : Int) + off).toNat) X.1 X.2.1 hd (Int.toNat_of_nonneg hoff).symm (fun hc => ?_) (fun hc => ?_)
  · rw [h0] at hc
    rw [if_pos (show sn_cmp .eq x y = true from decide_eq_true ((sn_eq_iff hx hy).mp hc))] at kk
    exact kk.go S.1 S.2.1 S.2.2.1 (sn_wfT S.2.2.2)
  · rw [h0] at hc
    rw [if_neg (show ¬ sn_cmp .eq x y = true from fun z => hc ((sn_eq_iff hx hy).mpr (of_decide_eq_true z)))] at kk
    exact kk.go S.1 S.2.1 S.2.2.1 (sn_wfT S.2.2.2)
theorem sn_k_icmp_ne {x y off : Int} (X : sn_Cx G M p R s m args meth c) (hd : decode (sn_bc M) pc = .ok (.if_icmp .ne off, 3)) (S : sn_Sr G M s H locs ls lv (sn_i y :: sn_i x :: r) h) (hoff : 0 ≤ (pc : Int) + off) (kk : sn_K G M p l e R s m args below meth c cells slots Q h (if sn_cmp .ne x y then (((pc : Int) + off).toNat, lv, r, h) else (pc + 3, lv, r, h))) :
    W p l e R s m args below meth c H locs cells slots Q (F0 m pc ls ((sn_i y :: sn_i x :: r).map (sn_tr G))) := by
  have hy : -2147483648 ≤ y ∧ y ≤ 2147483647 := sn_wfH S.2.2.2
  have hx : -2147483648 ≤ x ∧ x ≤ 2147483647 := sn_wfH (sn_wfT S.2.2.2)
  refine lv_icmp_ne (x := Int32.ofInt x) (y := Int32.ofInt y) (tgt := ((pc : Int) + off).toNat) X.1 X.2.1 hd (Int.toNat_of_nonneg hoff).symm (fun hc => ?_) (fun hc => ?_)
  · rw [if_pos (show sn_cmp .ne x y = true from decide_eq_true ((not_congr (sn_eq_iff hx hy)).mp hc))] at kk
    exact kk.go S.1 S.2.1 S.2.2.1 (sn_wfT (sn_wfT S.2.2.2))
  · rw [if_neg (show ¬ sn_cmp .ne x y = true from fun z => (of_decide_eq_true z : x ≠ y) ((sn_eq_iff hx hy).mp hc))] at kk
    exact kk.go S.1 S.2.1 S.2.2.1 (sn_wfT (sn_wfT S.2.2.2))
theorem sn_k_if_ne {x off : Int} (X : sn_Cx G M p R s m args meth c) (hd : decode (sn_bc M) pc = .ok (.ifCond .ne off, 3)) (S : sn_Sr G M s H locs ls lv (sn_i x :: r) h) (hoff : 0 ≤ (pc : Int) + off) (kk : sn_K G M p l e R s m args below meth c cells slots Q h (if sn_cmp .ne x 0 then (((pc : Int) + off).toNat, lv, r, h) else (pc + 3, lv, r, h))) :
    W p l e R s m args below meth c H locs cells slots Q (F0 m pc ls ((sn_i x :: r).map (sn_tr G))) := by
  obtain ⟨y, hyd⟩ : ∃ y : Int, y = 0 := ⟨0, rfl⟩
  have hy : -2147483648 ≤ y ∧ y ≤ 2147483647 := by omega
  have hx : -2147483648 ≤ x ∧ x ≤ 2147483647 := sn_wfH S.2.2.2
  have h0 : (0 : Int32) = Int32.ofInt y := by rw [hyd]; rfl
  rw [← hyd] at kk
  refine lv_if_ne (x := Int32.ofInt x) (tgt := ((pc : Int) + off).toNat) X.1 X.2.1 hd (Int.toNat_of_nonneg hoff).symm (fun hc => ?_) (fun hc => ?_)
  · rw [h0] at hc
    rw [if_pos (show sn_cmp .ne x y = true from decide_eq_true ((not_congr (sn_eq_iff hx hy)).mp hc))] at kk
    exact kk.go S.1 S.2.1 S.2.2.1 (sn_wfT S.2.2.2)
  · rw [h0] at hc
    rw [if_neg (show ¬ sn_cmp .ne x y = true from fun z => (of_decide_eq_true z : x ≠ y) ((sn_eq_iff hx hy).mp hc))] at kk
    exact kk.go S.1 S.2.1 S.2.2.1 (sn_wfT S.2.2.2)
theorem sn_k_icmp_lt {x y off : Int} (X : sn_Cx G M p R s m args meth c) (hd : decode (sn_bc M) pc = .ok (.if_icmp .lt off, 3)) (S : sn_Sr G M s H locs ls lv (sn_i y :: sn_i x :: r) h) (hoff : 0 ≤ (pc : Int) + off) (kk : sn_K G M p l e R s m args below meth c cells slots Q h (if sn_cmp .lt x y then (((pc : Int) + off).toNat, lv, r, h) else (pc + 3, lv, r, h))) :
    W p l e R s m args below meth c H locs cells slots Q (F0 m pc ls ((sn_i y :: sn_i x :: r).map (sn_tr G))) := by
  have hy : -2147483648 ≤ y ∧ y ≤ 2147483647 := sn_wfH S.2.2.2
  have hx : -2147483648 ≤ x ∧ x ≤ 2147483647 := sn_wfH (sn_wfT S.2.2.2)
  refine lv_icmp_lt (x := Int32.ofInt x) (y := Int32.ofInt y) (tgt := ((pc : Int) + off).toNat) X.1 X.2.1 hd (Int.toNat_of_nonneg hoff).symm (fun hc => ?_) (fun hc => ?_)
  · rw [if_pos (show sn_cmp .lt x y = true from decide_eq_true ((sn_lt_iff hx hy).mp hc))] at kk
    exact kk.go S.1 S.2.1 S.2.2.1 (sn_wfT (sn_wfT S.2.2.2))
  · rw [if_neg (show ¬ sn_cmp .lt x y = true from fun z => hc ((sn_lt_iff hx hy).mpr (of_decide_eq_true z)))] at kk
    exact kk.go S.1 S.2.1 S.2.2.1 (sn_wfT (sn_wfT S.2.2.2))
theorem sn_k_if_lt {x off : Int} (X : sn_Cx G M p R s m args meth c) (hd : decode (sn_bc M) pc = .ok (.ifCond .lt off, 3)) (S : sn_Sr G M s H locs ls lv (sn_i x :: r) h) (hoff : 0 ≤ (pc : Int) + off) (kk : sn_K G M p l e R s m args below meth c cells slots Q h (if sn_cmp .lt x 0 then (((pc : Int) + off).toNat, lv, r, h) else (pc + 3, lv, r, h))) :
    W p l e R s m args below meth c H locs cells slots Q (F0 m pc ls ((sn_i x :: r).map (sn_tr G))) := by
  obtain ⟨y, hyd⟩ : ∃ y : Int, y = 0 := ⟨0, rfl⟩
  have hy : -2147483648 ≤ y ∧ y ≤ 2147483647 := by omega
  have hx : -2147483648 ≤ x ∧ x ≤ 2147483647 := sn_wfH S.2.2.2
  have h0 : (0 : Int32) = Int32.ofInt y := by rw [hyd]; rfl
  rw [← hyd] at kk
  refine lv_if_lt (x := Int32.ofInt x) (tgt := ((pc : Int) + off).toNat) X.1 X.2.1 hd (Int.toNat_of_nonneg hoff).symm (fun hc => ?_) (fun hc => ?_)
  · rw [h0] at hc
    rw [if_pos (show sn_cmp .lt x y = true from decide_eq_true ((sn_lt_iff hx hy).mp hc))] at kk
    exact kk.go S.1 S.2.1 S.2.2.1 (sn_wfT S.2.2.2)
  · rw [h0] at hc
    rw [if_neg (show ¬ sn_cmp .lt x y = true from fun z => hc ((sn_lt_iff hx hy).mpr (of_decide_eq_true z)))] at kk
    exact kk.go S.1 S.2.1 S.2.2.1 (sn_wfT S.2.2.2)
theorem sn_k_icmp_ge {x y off : Int} (X : sn_Cx G M p R s m args meth c) (hd : decode (sn_bc M) pc = .ok (.if_icmp .ge off, 3)) (S : sn_Sr G M s H locs ls lv (sn_i y :: sn_i x :: r) h) (hoff : 0 ≤ (pc : Int) + off) (kk : sn_K G M p l e R s m args below meth c cells slots Q h (if sn_cmp .ge x y then (((pc : Int) + off).toNat, lv, r, h) else (pc + 3, lv, r, h))) :
    W p l e R s m args below meth c H locs cells slots Q (F0 m pc ls ((sn_i y :: sn_i x :: r).map (sn_tr G))) := by
  have hy : -2147483648 ≤ y ∧ y ≤ 2147483647 := sn_wfH S.2.2.2
  have hx : -2147483648 ≤ x ∧ x ≤ 2147483647 := sn_wfH (sn_wfT S.2.2.2)
  refine lv_icmp_ge (x := Int32.ofInt x) (y := Int32.ofInt y) (tgt := ((pc : Int) + off).toNat) X.1 X.2.1 hd (Int.toNat_of_nonneg hoff).symm (fun hc => ?_) (fun hc => ?_)
  · rw [if_pos (show sn_cmp .ge x y = true from decide_eq_true ((sn_le_iff hy hx).mp hc))] at kk
    exact kk.go S.1 S.2.1 S.2.2.1 (sn_wfT (sn_wfT S.2.2.2))
  · rw [if_neg (show ¬ sn_cmp .ge x y = true from fun z => hc ((sn_le_iff hy hx).mpr (of_decide_eq_true z)))] at kk
    exact kk.go S.1 S.2.1 S.2.2.1 (sn_wfT (sn_wfT S.2.2.2))
theorem sn_k_if_ge {x off : Int} (X : sn_Cx G M p R s m args meth c) (hd : decode (sn_bc M) pc = .ok (.ifCond .ge off, 3)) (S : sn_Sr G M s H locs ls lv (sn_i x :: r) h) (hoff : 0 ≤ (pc : Int) + off) (kk : sn_K G M p l e R s m args below meth c cells slots Q h (if sn_cmp .ge x 0 then (((pc : Int) + off).toNat, lv, r, h) else (pc + 3, lv, r, h))) :
    W p l e R s m args below meth c H locs cells slots Q (F0 m pc ls ((sn_i x :: r).map (sn_tr G))) := by
  obtain ⟨y, hyd⟩ : ∃ y : Int, y = 0 := ⟨0, rfl⟩
  have hy : -2147483648 ≤ y ∧ y ≤ 2147483647 := by omega
  have hx : -2147483648 ≤ x ∧ x ≤ 2147483647 := sn_wfH S.2.2.2
  have h0 : (0 : Int32) = Int32.ofInt y := by rw [hyd]; rfl
  rw [← hyd] at kk
  refine lv_if_ge (x := Int32.ofInt x) (tgt := ((pc : Int) + off).toNat) X.1 X.2.1 hd (Int.toNat_of_nonneg hoff).symm (fun hc => ?_) (fun hc => ?_)
  · rw [h0] at hc
    rw [if_pos (show sn_cmp .ge x y = true from decide_eq_true ((sn_le_iff hy hx).mp hc))] at kk
    exact kk.go S.1 S.2.1 S.2.2.1 (sn_wfT S.2.2.2)
  · rw [h0] at hc
    rw [if_neg (show ¬ sn_cmp .ge x y = true from fun z => hc ((sn_le_iff hy hx).mpr (of_decide_eq_true z)))] at kk
    exact kk.go S.1 S.2.1 S.2.2.1 (sn_wfT S.2.2.2)
theorem sn_k_icmp_gt {x y off : Int} (X : sn_Cx G M p R s m args meth c) (hd : decode (sn_bc M) pc = .ok (.if_icmp .gt off, 3)) (S : sn_Sr G M s H locs ls lv (sn_i y :: sn_i x :: r) h) (hoff : 0 ≤ (pc : Int) + off) (kk : sn_K G M p l e R s m args below meth c cells slots Q h (if sn_cmp .gt x y then (((pc : Int) + off).toNat, lv, r, h) else (pc + 3, lv, r, h))) :
    W p l e R s m args below meth c H locs cells slots Q (F0 m pc ls ((sn_i y :: sn_i x :: r).map (sn_tr G))) := by
  have hy : -2147483648 ≤ y ∧ y ≤ 2147483647 := sn_wfH S.2.2.2
  have hx : -2147483648 ≤ x ∧ x ≤ 2147483647 := sn_wfH (sn_wfT S.2.2.2)
  refine lv_icmp_gt (x := Int32.ofInt x) (y := Int32.ofInt y) (tgt := ((pc : Int) + off).toNat) X.1 X.2.1 hd (Int.toNat_of_nonneg hoff).symm (fun hc => ?_) (fun hc => ?_)
  · rw [if_pos (show sn_cmp .gt x y = true from decide_eq_true ((sn_lt_iff hy hx).mp hc))] at kk
    exact kk.go S.1 S.2.1 S.2.2.1 (sn_wfT (sn_wfT S.2.2.2))
  · rw [if_neg (show ¬ sn_cmp .gt x y = true from fun z => hc ((sn_lt_iff hy hx).mpr (of_decide_eq_true z)))] at kk
    exact kk.go S.1 S.2.1 S.2.2.1 (sn_wfT (sn_wfT S.2.2.2))
theorem sn_k_if_gt {x off : Int} (X : sn_Cx G M p R s m args meth c) (hd : decode (sn_bc M) pc = .ok (.ifCond .gt off, 3)) (S : sn_Sr G M s H locs ls lv (sn_i x :: r) h) (hoff : 0 ≤ (pc : Int) + off) (kk : sn_K G M p l e R s m args below meth c cells slots Q h (if sn_cmp .gt x 0 then (((pc : Int) + off).toNat, lv, r, h) else (pc + 3, lv, r, h))) :
    W p l e R s m args below meth c H locs cells slots Q (F0 m pc ls ((sn_i x :: r).map (sn_tr G))) := by
  obtain ⟨y, hyd⟩ : ∃ y : Int, y = 0 := ⟨0, rfl⟩
  have hy : -2147483648 ≤ y ∧ y ≤ 2147483647 := by omega
  have hx : -2147483648 ≤ x ∧ x ≤ 2147483647 := sn_wfH S.2.2.2
  have h0 : (0 : Int32) = Int32.ofInt y := by rw [hyd]; rfl
  rw [← hyd] at kk
  refine lv_if_gt (x := Int32.ofInt x) (tgt := ((pc : Int) + off).toNat) X.1 X.2.1 hd (Int.toNat_of_nonneg hoff).symm (fun hc => ?_) (fun hc => ?_)
  · rw [h0] at hc
    rw [if_pos (show sn_cmp .gt x y = true from decide_eq_true ((sn_lt_iff hy hx).mp hc))] at kk
    exact kk.go S.1 S.2.1 S.2.2.1 (sn_wfT S.2.2.2)
  · rw [h0] at hc
    rw [if_neg (show ¬ sn_cmp .gt x y = true from fun z => hc ((sn_lt_iff hy hx).mpr (of_decide_eq_true z)))] at kk
    exact kk.go S.1 S.2.1 S.2.2.1 (sn_wfT S.2.2.2)
theorem sn_k_icmp_le {x y off : Int} (X : sn_Cx G M p R s m args meth c) (hd : decode (sn_bc M) pc = .ok (.if_icmp .le off, 3)) (S : sn_Sr G M s H locs ls lv (sn_i y :: sn_i x :: r) h) (hoff : 0 ≤ (pc : Int) + off) (kk : sn_K G M p l e R s m args below meth c cells slots Q h (if sn_cmp .le x y then (((pc : Int) + off).toNat, lv, r, h) else (pc + 3, lv, r, h))) :
    W p l e R s m args below meth c H locs cells slots Q (F0 m pc ls ((sn_i y :: sn_i x :: r).map (sn_tr G))) := by
  have hy : -2147483648 ≤ y ∧ y ≤ 2147483647 := sn_wfH S.2.2.2
  have hx : -2147483648 ≤ x ∧ x ≤ 2147483647 := sn_wfH (sn_wfT S.2.2.2)
  refine lv_icmp_le (x := Int32.ofInt x) (y := Int32.ofInt y) (tgt := ((pc : Int) + off).toNat) X.1 X.2.1 hd (Int.toNat_of_nonneg hoff).symm (fun hc => ?_) (fun hc => ?_)
  · rw [if_pos (show sn_cmp .le x y = true from decide_eq_true ((sn_le_iff hx hy).mp hc))] at kk
    exact kk.go S.1 S.2.1 S.2.2.1 (sn_wfT (sn_wfT S.2.2.2))
  · rw [if_neg (show ¬ sn_cmp .le x y = true from fun z => hc ((sn_le_iff hx hy).mpr (of_decide_eq_true z)))] at kk
    exact kk.go S.1 S.2.1 S.2.2.1 (sn_wfT (sn_wfT S.2.2.2))
theorem sn_k_if_le {x off : Int} (X : sn_Cx G M p R s m args meth c) (hd : decode (sn_bc M) pc = .ok (.ifCond .le off, 3)) (S : sn_Sr G M s H locs ls lv (sn_i x :: r) h) (hoff : 0 ≤ (pc : Int) + off) (kk : sn_K G M p l e R s m args below meth c cells slots Q h (if sn_cmp .le x 0 then (((pc : Int) + off).toNat, lv, r, h) else (pc + 3, lv, r, h))) :
    W p l e R s m args below meth c H locs cells slots Q (F0 m pc ls ((sn_i x :: r).map (sn_tr G))) := by
  obtain ⟨y, hyd⟩ : ∃ y : Int, y = 0 := ⟨0, rfl⟩
  have hy : -2147483648 ≤ y ∧ y ≤ 2147483647 := by omega
  have hx : -2147483648 ≤ x ∧ x ≤ 2147483647 := sn_wfH S.2.2.2
  have h0 : (0 : Int32) = Int32.ofInt y := by rw [hyd]; rfl
  rw [← hyd] at kk
  refine lv_if_le (x := Int32.ofInt x) (tgt := ((pc : Int) + off).toNat) X.1 X.2.1 hd (Int.toNat_of_nonneg hoff).symm (fun hc => ?_) (fun hc => ?_)
  · rw [h0] at hc
    rw [if_pos (show sn_cmp .le x y = true from decide_eq_true ((sn_le_iff hx hy).mp hc))] at kk
    exact kk.go S.1 S.2.1 S.2.2.1 (sn_wfT S.2.2.2)
  · rw [h0] at hc
    rw [if_neg (show ¬ sn_cmp .le x y = true from fun z => hc ((sn_le_iff hx hy).mpr (of_decide_eq_true z)))] at kk
    exact kk.go S.1 S.2.1 S.2.2.1 (sn_wfT S.2.2.2)
end SNK
end
section
/-! ===== the tables are the claim's ===== -/
def sn_T (ci : Nat) : u_T := match ci with
  | 0 => TX0
  | 1 => TX1
  | 2 => TX2
  | 3 => TX3
  | 4 => TX4
  | 5 => TX5
  | 6 => TX6
  | 7 => TX7
  | 8 => TX8
  | _ => TX9
def sn_tc (ci : Nat) : Nat → FieldType := match ci with
  | 0 => tyX0
  | 1 => tyX1
  | 2 => tyX2
  | 3 => tyX3
  | 4 => tyX4
  | 5 => tyX5
  | 6 => tyX6
  | 7 => tyX7
  | 8 => tyX8
  | _ => tyX9
theorem sn_lt10 {ci : Nat} (h : ci < 10) : ci = 0 ∨ ci = 1 ∨ ci = 2 ∨ ci = 3 ∨ ci = 4 ∨ ci = 5 ∨ ci = 6 ∨ ci = 7 ∨ ci = 8 ∨ ci = 9 := by omega
theorem sn_cls_at {ci : Nat} (h : ci < 10) : sn_cls[ci]? = some (sn_cn ci, sn_T ci, sn_nf ci) := by
  rcases sn_lt10 h with rfl | rfl | rfl | rfl | rfl | rfl | rfl | rfl | rfl | rfl <;> rfl
theorem sn_inl {ci : Nat} (h : ci < 10) : ∀ w ∈ u_ws (sn_cn ci) (sn_T ci) (sn_nf ci), w ∈ wsL_law := by
  rcases sn_lt10 h with rfl | rfl | rfl | rfl | rfl | rfl | rfl | rfl | rfl | rfl
  · exact inlX0
  · exact inlX1
  · exact inlX2
  · exact inlX3
  · exact inlX4
  · exact inlX5
  · exact inlX6
  · exact inlX7
  · exact inlX8
  · exact inlX9
theorem sn_tc_ok {ci : Nat} (h : ci < 10) : ∀ k, k < sn_nf ci → parseFieldDescriptor (sn_T ci k).2.2.1 = some (sn_tc ci k) := by
  rcases sn_lt10 h with rfl | rfl | rfl | rfl | rfl | rfl | rfl | rfl | rfl | rfl
  · exact tyX0_ok
  · exact tyX1_ok
  · exact tyX2_ok
  · exact tyX3_ok
  · exact tyX4_ok
  · exact tyX5_ok
  · exact tyX6_ok
  · exact tyX7_ok
  · exact tyX8_ok
  · exact tyX9_ok
theorem sn_nm_ok {ci : Nat} (h : ci < 10) : ∀ a, a < sn_nf ci → ∀ b, b < sn_nf ci → a ≠ b → (sn_T ci a).2.1 ≠ (sn_T ci b).2.1 := by
  rcases sn_lt10 h with rfl | rfl | rfl | rfl | rfl | rfl | rfl | rfl | rfl | rfl
  · exact nmX0
  · exact nmX1
  · exact nmX2
  · exact nmX3
  · exact nmX4
  · exact nmX5
  · exact nmX6
  · exact nmX7
  · exact nmX8
  · exact nmX9
set_option maxRecDepth 100000 in
theorem sn_ft_ok : ∀ ci, ci < 10 → ∀ k, k < sn_nf ci → (sn_ft ci k = 0 ∧ sn_tc ci k = .int) ∨ (sn_ft ci k = 1 ∧ sn_tc ci k = .boolean) ∨ (sn_ft ci k = 2 ∧ (sn_tc ci k).isReference = true) := by decide +kernel
theorem sn_cn_plain1 : ∀ o, o < 11 → plainName (sn_cn o) = true := by decide +kernel
theorem sn_cn_plain : ∀ o, o < 12 → sn_cn o ≠ "java/lang/invoke/MethodHandle" ∧ sn_cn o ≠ "java/lang/invoke/VarHandle" := by decide +kernel

theorem sn_pfl_ok1 : ∀ e ∈ sn_pfl_1, e.2.2.1 < 10 ∧ e.2.2.2 < sn_nf e.2.2.1 ∧ (sn_T e.2.2.1 e.2.2.2).1 = sn_cn e.2.2.1 ∧ (sn_T e.2.2.1 e.2.2.2).2.2.2 = sn_ff e.2.2.1 e.2.2.2 ∧ Cond.fieldLink (sn_cn e.1) e.2.1 (sn_cn e.2.2.1) (sn_T e.2.2.1 e.2.2.2).2.1 (sn_T e.2.2.1 e.2.2.2).2.2.1 ∈ wsL_law := List.forall_mem_cons.mpr ⟨⟨by decide, by decide, rfl, rfl, (sn_n4 _ (List.mem_of_getElem? (i := 15) rfl))⟩, List.forall_mem_cons.mpr ⟨⟨by decide, by decide, rfl, rfl, (sn_n4 _ (List.mem_of_getElem? (i := 16) rfl))⟩, List.forall_mem_cons.mpr ⟨⟨by decide, by decide, rfl, rfl, (sn_n4 _ (List.mem_of_getElem? (i := 17) rfl))⟩, List.forall_mem_cons.mpr ⟨⟨by decide, by decide, rfl, rfl, (sn_n4 _ (List.mem_of_getElem? (i := 18) rfl))⟩, List.forall_mem_cons.mpr ⟨⟨by decide, by decide, rfl, rfl, (sn_n4 _ (List.mem_of_getElem? (i := 19) rfl))⟩, List.forall_mem_cons.mpr ⟨⟨by decide, by decide, rfl, rfl, (sn_n7 _ (List.mem_of_getElem? (i := 6) rfl))⟩, List.forall_mem_cons.mpr ⟨⟨by decide, by decide, rfl, rfl, (sn_n7 _ (List.mem_of_getElem? (i := 7) rfl))⟩, List.forall_mem_cons.mpr ⟨⟨by decide, by decide, rfl, rfl, (sn_n7 _ (List.mem_of_getElem? (i := 8) rfl))⟩, List.forall_mem_cons.mpr ⟨⟨by decide, by decide, rfl, rfl, (sn_n7 _ (List.mem_of_getElem? (i := 9) rfl))⟩, List.forall_mem_cons.mpr ⟨⟨by decide, by decide, rfl, rfl, (sn_n7 _ (List.mem_of_getElem? (i := 10) rfl))⟩, List.forall_mem_cons.mpr ⟨⟨by decide, by decide, rfl, rfl, (sn_n7 _ (List.mem_of_getElem? (i := 11) rfl))⟩, List.forall_mem_cons.mpr ⟨⟨by decide, by decide, rfl, rfl, (sn_n7 _ (List.mem_of_getElem? (i := 12) rfl))⟩, fun _ h => absurd h List.not_mem_nil⟩⟩⟩⟩⟩⟩⟩⟩⟩⟩⟩⟩
theorem sn_pfl_ok2 : ∀ e ∈ sn_pfl_2, e.2.2.1 < 10 ∧ e.2.2.2 < sn_nf e.2.2.1 ∧ (sn_T e.2.2.1 e.2.2.2).1 = sn_cn e.2.2.1 ∧ (sn_T e.2.2.1 e.2.2.2).2.2.2 = sn_ff e.2.2.1 e.2.2.2 ∧ Cond.fieldLink (sn_cn e.1) e.2.1 (sn_cn e.2.2.1) (sn_T e.2.2.1 e.2.2.2).2.1 (sn_T e.2.2.1 e.2.2.2).2.2.1 ∈ wsL_law := List.forall_mem_cons.mpr ⟨⟨by decide, by decide, rfl, rfl, (sn_n7 _ (List.mem_of_getElem? (i := 13) rfl))⟩, List.forall_mem_cons.mpr ⟨⟨by decide, by decide, rfl, rfl, (sn_n7 _ (List.mem_of_getElem? (i := 14) rfl))⟩, List.forall_mem_cons.mpr ⟨⟨by decide, by decide, rfl, rfl, (sn_n27 _ (List.mem_of_getElem? (i := 5) rfl))⟩, List.forall_mem_cons.mpr ⟨⟨by decide, by decide, rfl, rfl, (sn_n5 _ (List.mem_of_getElem? (i := 1) rfl))⟩, List.forall_mem_cons.mpr ⟨⟨by decide, by decide, rfl, rfl, (sn_n5 _ (List.mem_of_getElem? (i := 2) rfl))⟩, List.forall_mem_cons.mpr ⟨⟨by decide, by decide, rfl, rfl, (sn_n5 _ (List.mem_of_getElem? (i := 3) rfl))⟩, List.forall_mem_cons.mpr ⟨⟨by decide, by decide, rfl, rfl, (sn_n5 _ (List.mem_of_getElem? (i := 4) rfl))⟩, List.forall_mem_cons.mpr ⟨⟨by decide, by decide, rfl, rfl, (sn_n5 _ (List.mem_of_getElem? (i := 5) rfl))⟩, List.forall_mem_cons.mpr ⟨⟨by decide, by decide, rfl, rfl, (sn_n5 _ (List.mem_of_getElem? (i := 6) rfl))⟩, List.forall_mem_cons.mpr ⟨⟨by decide, by decide, rfl, rfl, (sn_n5 _ (List.mem_of_getElem? (i := 7) rfl))⟩, List.forall_mem_cons.mpr ⟨⟨by decide, by decide, rfl, rfl, (sn_n5 _ (List.mem_of_getElem? (i := 8) rfl))⟩, List.forall_mem_cons.mpr ⟨⟨by decide, by decide, rfl, rfl, (sn_n5 _ (List.mem_of_getElem? (i := 9) rfl))⟩, fun _ h => absurd h List.not_mem_nil⟩⟩⟩⟩⟩⟩⟩⟩⟩⟩⟩⟩
theorem sn_pfl_ok3 : ∀ e ∈ sn_pfl_3, e.2.2.1 < 10 ∧ e.2.2.2 < sn_nf e.2.2.1 ∧ (sn_T e.2.2.1 e.2.2.2).1 = sn_cn e.2.2.1 ∧ (sn_T e.2.2.1 e.2.2.2).2.2.2 = sn_ff e.2.2.1 e.2.2.2 ∧ Cond.fieldLink (sn_cn e.1) e.2.1 (sn_cn e.2.2.1) (sn_T e.2.2.1 e.2.2.2).2.1 (sn_T e.2.2.1 e.2.2.2).2.2.1 ∈ wsL_law := List.forall_mem_cons.mpr ⟨⟨by decide, by decide, rfl, rfl, (sn_n5 _ (List.mem_of_getElem? (i := 10) rfl))⟩, List.forall_mem_cons.mpr ⟨⟨by decide, by decide, rfl, rfl, (sn_n5 _ (List.mem_of_getElem? (i := 11) rfl))⟩, List.forall_mem_cons.mpr ⟨⟨by decide, by decide, rfl, rfl, (sn_n10 _ (List.mem_of_getElem? (i := 16) rfl))⟩, List.forall_mem_cons.mpr ⟨⟨by decide, by decide, rfl, rfl, (sn_n11 _ (List.mem_of_getElem? (i := 15) rfl))⟩, List.forall_mem_cons.mpr ⟨⟨by decide, by decide, rfl, rfl, (sn_n13 _ (List.mem_of_getElem? (i := 18) rfl))⟩, List.forall_mem_cons.mpr ⟨⟨by decide, by decide, rfl, rfl, (sn_n3 _ (List.mem_of_getElem? (i := 8) rfl))⟩, List.forall_mem_cons.mpr ⟨⟨by decide, by decide, rfl, rfl, (sn_n3 _ (List.mem_of_getElem? (i := 9) rfl))⟩, List.forall_mem_cons.mpr ⟨⟨by decide, by decide, rfl, rfl, (sn_n3 _ (List.mem_of_getElem? (i := 10) rfl))⟩, List.forall_mem_cons.mpr ⟨⟨by decide, by decide, rfl, rfl, (sn_n3 _ (List.mem_of_getElem? (i := 11) rfl))⟩, List.forall_mem_cons.mpr ⟨⟨by decide, by decide, rfl, rfl, (sn_n3 _ (List.mem_of_getElem? (i := 12) rfl))⟩, List.forall_mem_cons.mpr ⟨⟨by decide, by decide, rfl, rfl, (sn_n3 _ (List.mem_of_getElem? (i := 13) rfl))⟩, List.forall_mem_cons.mpr ⟨⟨by decide, by decide, rfl, rfl, (sn_n5 _ (List.mem_of_getElem? (i := 17) rfl))⟩, fun _ h => absurd h List.not_mem_nil⟩⟩⟩⟩⟩⟩⟩⟩⟩⟩⟩⟩
theorem sn_pfl_ok4 : ∀ e ∈ sn_pfl_4, e.2.2.1 < 10 ∧ e.2.2.2 < sn_nf e.2.2.1 ∧ (sn_T e.2.2.1 e.2.2.2).1 = sn_cn e.2.2.1 ∧ (sn_T e.2.2.1 e.2.2.2).2.2.2 = sn_ff e.2.2.1 e.2.2.2 ∧ Cond.fieldLink (sn_cn e.1) e.2.1 (sn_cn e.2.2.1) (sn_T e.2.2.1 e.2.2.2).2.1 (sn_T e.2.2.1 e.2.2.2).2.2.1 ∈ wsL_law := List.forall_mem_cons.mpr ⟨⟨by decide, by decide, rfl, rfl, (sn_n5 _ (List.mem_of_getElem? (i := 18) rfl))⟩, List.forall_mem_cons.mpr ⟨⟨by decide, by decide, rfl, rfl, (sn_n5 _ (List.mem_of_getElem? (i := 19) rfl))⟩, List.forall_mem_cons.mpr ⟨⟨by decide, by decide, rfl, rfl, (sn_n5 _ (List.mem_of_getElem? (i := 20) rfl))⟩, List.forall_mem_cons.mpr ⟨⟨by decide, by decide, rfl, rfl, (sn_n5 _ (List.mem_of_getElem? (i := 21) rfl))⟩, List.forall_mem_cons.mpr ⟨⟨by decide, by decide, rfl, rfl, (sn_n5 _ (List.mem_of_getElem? (i := 22) rfl))⟩, List.forall_mem_cons.mpr ⟨⟨by decide, by decide, rfl, rfl, (sn_n5 _ (List.mem_of_getElem? (i := 23) rfl))⟩, List.forall_mem_cons.mpr ⟨⟨by decide, by decide, rfl, rfl, (sn_n6 _ (List.mem_of_getElem? (i := 0) rfl))⟩, List.forall_mem_cons.mpr ⟨⟨by decide, by decide, rfl, rfl, (sn_n6 _ (List.mem_of_getElem? (i := 1) rfl))⟩, List.forall_mem_cons.mpr ⟨⟨by decide, by decide, rfl, rfl, (sn_n6 _ (List.mem_of_getElem? (i := 2) rfl))⟩, List.forall_mem_cons.mpr ⟨⟨by decide, by decide, rfl, rfl, (sn_n6 _ (List.mem_of_getElem? (i := 3) rfl))⟩, List.forall_mem_cons.mpr ⟨⟨by decide, by decide, rfl, rfl, (sn_n6 _ (List.mem_of_getElem? (i := 16) rfl))⟩, List.forall_mem_cons.mpr ⟨⟨by decide, by decide, rfl, rfl, (sn_n6 _ (List.mem_of_getElem? (i := 17) rfl))⟩, fun _ h => absurd h List.not_mem_nil⟩⟩⟩⟩⟩⟩⟩⟩⟩⟩⟩⟩
theorem sn_pfl_ok5 : ∀ e ∈ sn_pfl_5, e.2.2.1 < 10 ∧ e.2.2.2 < sn_nf e.2.2.1 ∧ (sn_T e.2.2.1 e.2.2.2).1 = sn_cn e.2.2.1 ∧ (sn_T e.2.2.1 e.2.2.2).2.2.2 = sn_ff e.2.2.1 e.2.2.2 ∧ Cond.fieldLink (sn_cn e.1) e.2.1 (sn_cn e.2.2.1) (sn_T e.2.2.1 e.2.2.2).2.1 (sn_T e.2.2.1 e.2.2.2).2.2.1 ∈ wsL_law := List.forall_mem_cons.mpr ⟨⟨by decide, by decide, rfl, rfl, (sn_n6 _ (List.mem_of_getElem? (i := 18) rfl))⟩, List.forall_mem_cons.mpr ⟨⟨by decide, by decide, rfl, rfl, (sn_n6 _ (List.mem_of_getElem? (i := 19) rfl))⟩, List.forall_mem_cons.mpr ⟨⟨by decide, by decide, rfl, rfl, (sn_n6 _ (List.mem_of_getElem? (i := 20) rfl))⟩, List.forall_mem_cons.mpr ⟨⟨by decide, by decide, rfl, rfl, (sn_n6 _ (List.mem_of_getElem? (i := 21) rfl))⟩, List.forall_mem_cons.mpr ⟨⟨by decide, by decide, rfl, rfl, (sn_n6 _ (List.mem_of_getElem? (i := 22) rfl))⟩, List.forall_mem_cons.mpr ⟨⟨by decide, by decide, rfl, rfl, (sn_n6 _ (List.mem_of_getElem? (i := 23) rfl))⟩, List.forall_mem_cons.mpr ⟨⟨by decide, by decide, rfl, rfl, (sn_n7 _ (List.mem_of_getElem? (i := 0) rfl))⟩, List.forall_mem_cons.mpr ⟨⟨by decide, by decide, rfl, rfl, (sn_n15 _ (List.mem_of_getElem? (i := 13) rfl))⟩, List.forall_mem_cons.mpr ⟨⟨by decide, by decide, rfl, rfl, (sn_n15 _ (List.mem_of_getElem? (i := 14) rfl))⟩, List.forall_mem_cons.mpr ⟨⟨by decide, by decide, rfl, rfl, (sn_n6 _ (List.mem_of_getElem? (i := 7) rfl))⟩, List.forall_mem_cons.mpr ⟨⟨by decide, by decide, rfl, rfl, (sn_n6 _ (List.mem_of_getElem? (i := 8) rfl))⟩, List.forall_mem_cons.mpr ⟨⟨by decide, by decide, rfl, rfl, (sn_n6 _ (List.mem_of_getElem? (i := 9) rfl))⟩, fun _ h => absurd h List.not_mem_nil⟩⟩⟩⟩⟩⟩⟩⟩⟩⟩⟩⟩
theorem sn_pfl_ok6 : ∀ e ∈ sn_pfl_6, e.2.2.1 < 10 ∧ e.2.2.2 < sn_nf e.2.2.1 ∧ (sn_T e.2.2.1 e.2.2.2).1 = sn_cn e.2.2.1 ∧ (sn_T e.2.2.1 e.2.2.2).2.2.2 = sn_ff e.2.2.1 e.2.2.2 ∧ Cond.fieldLink (sn_cn e.1) e.2.1 (sn_cn e.2.2.1) (sn_T e.2.2.1 e.2.2.2).2.1 (sn_T e.2.2.1 e.2.2.2).2.2.1 ∈ wsL_law := List.forall_mem_cons.mpr ⟨⟨by decide, by decide, rfl, rfl, (sn_n6 _ (List.mem_of_getElem? (i := 10) rfl))⟩, List.forall_mem_cons.mpr ⟨⟨by decide, by decide, rfl, rfl, (sn_n6 _ (List.mem_of_getElem? (i := 11) rfl))⟩, List.forall_mem_cons.mpr ⟨⟨by decide, by decide, rfl, rfl, (sn_n3 _ (List.mem_of_getElem? (i := 17) rfl))⟩, List.forall_mem_cons.mpr ⟨⟨by decide, by decide, rfl, rfl, (sn_n3 _ (List.mem_of_getElem? (i := 18) rfl))⟩, List.forall_mem_cons.mpr ⟨⟨by decide, by decide, rfl, rfl, (sn_n3 _ (List.mem_of_getElem? (i := 20) rfl))⟩, List.forall_mem_cons.mpr ⟨⟨by decide, by decide, rfl, rfl, (sn_n3 _ (List.mem_of_getElem? (i := 21) rfl))⟩, List.forall_mem_cons.mpr ⟨⟨by decide, by decide, rfl, rfl, (sn_n3 _ (List.mem_of_getElem? (i := 22) rfl))⟩, List.forall_mem_cons.mpr ⟨⟨by decide, by decide, rfl, rfl, (sn_n3 _ (List.mem_of_getElem? (i := 23) rfl))⟩, List.forall_mem_cons.mpr ⟨⟨by decide, by decide, rfl, rfl, (sn_n4 _ (List.mem_of_getElem? (i := 0) rfl))⟩, List.forall_mem_cons.mpr ⟨⟨by decide, by decide, rfl, rfl, (sn_n4 _ (List.mem_of_getElem? (i := 5) rfl))⟩, List.forall_mem_cons.mpr ⟨⟨by decide, by decide, rfl, rfl, (sn_n4 _ (List.mem_of_getElem? (i := 6) rfl))⟩, List.forall_mem_cons.mpr ⟨⟨by decide, by decide, rfl, rfl, (sn_n4 _ (List.mem_of_getElem? (i := 7) rfl))⟩, fun _ h => absurd h List.not_mem_nil⟩⟩⟩⟩⟩⟩⟩⟩⟩⟩⟩⟩
theorem sn_pfl_ok7 : ∀ e ∈ sn_pfl_7, e.2.2.1 < 10 ∧ e.2.2.2 < sn_nf e.2.2.1 ∧ (sn_T e.2.2.1 e.2.2.2).1 = sn_cn e.2.2.1 ∧ (sn_T e.2.2.1 e.2.2.2).2.2.2 = sn_ff e.2.2.1 e.2.2.2 ∧ Cond.fieldLink (sn_cn e.1) e.2.1 (sn_cn e.2.2.1) (sn_T e.2.2.1 e.2.2.2).2.1 (sn_T e.2.2.1 e.2.2.2).2.2.1 ∈ wsL_law := List.forall_mem_cons.mpr ⟨⟨by decide, by decide, rfl, rfl, (sn_n4 _ (List.mem_of_getElem? (i := 8) rfl))⟩, List.forall_mem_cons.mpr ⟨⟨by decide, by decide, rfl, rfl, (sn_n4 _ (List.mem_of_getElem? (i := 9) rfl))⟩, List.forall_mem_cons.mpr ⟨⟨by decide, by decide, rfl, rfl, (sn_n10 _ (List.mem_of_getElem? (i := 2) rfl))⟩, List.forall_mem_cons.mpr ⟨⟨by decide, by decide, rfl, rfl, (sn_n17 _ (List.mem_of_getElem? (i := 11) rfl))⟩, List.forall_mem_cons.mpr ⟨⟨by decide, by decide, rfl, rfl, (sn_n16 _ (List.mem_of_getElem? (i := 14) rfl))⟩, List.forall_mem_cons.mpr ⟨⟨by decide, by decide, rfl, rfl, (sn_n2 _ (List.mem_of_getElem? (i := 7) rfl))⟩, List.forall_mem_cons.mpr ⟨⟨by decide, by decide, rfl, rfl, (sn_n2 _ (List.mem_of_getElem? (i := 8) rfl))⟩, List.forall_mem_cons.mpr ⟨⟨by decide, by decide, rfl, rfl, (sn_n2 _ (List.mem_of_getElem? (i := 9) rfl))⟩, List.forall_mem_cons.mpr ⟨⟨by decide, by decide, rfl, rfl, (sn_n2 _ (List.mem_of_getElem? (i := 10) rfl))⟩, List.forall_mem_cons.mpr ⟨⟨by decide, by decide, rfl, rfl, (sn_n2 _ (List.mem_of_getElem? (i := 11) rfl))⟩, List.forall_mem_cons.mpr ⟨⟨by decide, by decide, rfl, rfl, (sn_n2 _ (List.mem_of_getElem? (i := 12) rfl))⟩, List.forall_mem_cons.mpr ⟨⟨by decide, by decide, rfl, rfl, (sn_n2 _ (List.mem_of_getElem? (i := 13) rfl))⟩, fun _ h => absurd h List.not_mem_nil⟩⟩⟩⟩⟩⟩⟩⟩⟩⟩⟩⟩
theorem sn_pfl_ok8 : ∀ e ∈ sn_pfl_8, e.2.2.1 < 10 ∧ e.2.2.2 < sn_nf e.2.2.1 ∧ (sn_T e.2.2.1 e.2.2.2).1 = sn_cn e.2.2.1 ∧ (sn_T e.2.2.1 e.2.2.2).2.2.2 = sn_ff e.2.2.1 e.2.2.2 ∧ Cond.fieldLink (sn_cn e.1) e.2.1 (sn_cn e.2.2.1) (sn_T e.2.2.1 e.2.2.2).2.1 (sn_T e.2.2.1 e.2.2.2).2.2.1 ∈ wsL_law := List.forall_mem_cons.mpr ⟨⟨by decide, by decide, rfl, rfl, (sn_n2 _ (List.mem_of_getElem? (i := 17) rfl))⟩, List.forall_mem_cons.mpr ⟨⟨by decide, by decide, rfl, rfl, (sn_n2 _ (List.mem_of_getElem? (i := 21) rfl))⟩, List.forall_mem_cons.mpr ⟨⟨by decide, by decide, rfl, rfl, (sn_n2 _ (List.mem_of_getElem? (i := 22) rfl))⟩, List.forall_mem_cons.mpr ⟨⟨by decide, by decide, rfl, rfl, (sn_n2 _ (List.mem_of_getElem? (i := 23) rfl))⟩, List.forall_mem_cons.mpr ⟨⟨by decide, by decide, rfl, rfl, (sn_n3 _ (List.mem_of_getElem? (i := 0) rfl))⟩, List.forall_mem_cons.mpr ⟨⟨by decide, by decide, rfl, rfl, (sn_n3 _ (List.mem_of_getElem? (i := 1) rfl))⟩, List.forall_mem_cons.mpr ⟨⟨by decide, by decide, rfl, rfl, (sn_n3 _ (List.mem_of_getElem? (i := 2) rfl))⟩, List.forall_mem_cons.mpr ⟨⟨by decide, by decide, rfl, rfl, (sn_n3 _ (List.mem_of_getElem? (i := 3) rfl))⟩, List.forall_mem_cons.mpr ⟨⟨by decide, by decide, rfl, rfl, (sn_n3 _ (List.mem_of_getElem? (i := 4) rfl))⟩, List.forall_mem_cons.mpr ⟨⟨by decide, by decide, rfl, rfl, (sn_n8 _ (List.mem_of_getElem? (i := 8) rfl))⟩, List.forall_mem_cons.mpr ⟨⟨by decide, by decide, rfl, rfl, (sn_n9 _ (List.mem_of_getElem? (i := 0) rfl))⟩, List.forall_mem_cons.mpr ⟨⟨by decide, by decide, rfl, rfl, (sn_n9 _ (List.mem_of_getElem? (i := 1) rfl))⟩, fun _ h => absurd h List.not_mem_nil⟩⟩⟩⟩⟩⟩⟩⟩⟩⟩⟩⟩
theorem sn_pfl_ok9 : ∀ e ∈ sn_pfl_9, e.2.2.1 < 10 ∧ e.2.2.2 < sn_nf e.2.2.1 ∧ (sn_T e.2.2.1 e.2.2.2).1 = sn_cn e.2.2.1 ∧ (sn_T e.2.2.1 e.2.2.2).2.2.2 = sn_ff e.2.2.1 e.2.2.2 ∧ Cond.fieldLink (sn_cn e.1) e.2.1 (sn_cn e.2.2.1) (sn_T e.2.2.1 e.2.2.2).2.1 (sn_T e.2.2.1 e.2.2.2).2.2.1 ∈ wsL_law := List.forall_mem_cons.mpr ⟨⟨by decide, by decide, rfl, rfl, (sn_n9 _ (List.mem_of_getElem? (i := 2) rfl))⟩, List.forall_mem_cons.mpr ⟨⟨by decide, by decide, rfl, rfl, (sn_n9 _ (List.mem_of_getElem? (i := 3) rfl))⟩, List.forall_mem_cons.mpr ⟨⟨by decide, by decide, rfl, rfl, (sn_n9 _ (List.mem_of_getElem? (i := 4) rfl))⟩, List.forall_mem_cons.mpr ⟨⟨by decide, by decide, rfl, rfl, (sn_n9 _ (List.mem_of_getElem? (i := 5) rfl))⟩, List.forall_mem_cons.mpr ⟨⟨by decide, by decide, rfl, rfl, (sn_n9 _ (List.mem_of_getElem? (i := 10) rfl))⟩, List.forall_mem_cons.mpr ⟨⟨by decide, by decide, rfl, rfl, (sn_n9 _ (List.mem_of_getElem? (i := 11) rfl))⟩, List.forall_mem_cons.mpr ⟨⟨by decide, by decide, rfl, rfl, (sn_n20 _ (List.mem_of_getElem? (i := 9) rfl))⟩, List.forall_mem_cons.mpr ⟨⟨by decide, by decide, rfl, rfl, (sn_n23 _ (List.mem_of_getElem? (i := 5) rfl))⟩, List.forall_mem_cons.mpr ⟨⟨by decide, by decide, rfl, rfl, (sn_n10 _ (List.mem_of_getElem? (i := 11) rfl))⟩, List.forall_mem_cons.mpr ⟨⟨by decide, by decide, rfl, rfl, (sn_n16 _ (List.mem_of_getElem? (i := 4) rfl))⟩, List.forall_mem_cons.mpr ⟨⟨by decide, by decide, rfl, rfl, (sn_n20 _ (List.mem_of_getElem? (i := 11) rfl))⟩, List.forall_mem_cons.mpr ⟨⟨by decide, by decide, rfl, rfl, (sn_n23 _ (List.mem_of_getElem? (i := 6) rfl))⟩, fun _ h => absurd h List.not_mem_nil⟩⟩⟩⟩⟩⟩⟩⟩⟩⟩⟩⟩
theorem sn_pfl_ok10 : ∀ e ∈ sn_pfl_10, e.2.2.1 < 10 ∧ e.2.2.2 < sn_nf e.2.2.1 ∧ (sn_T e.2.2.1 e.2.2.2).1 = sn_cn e.2.2.1 ∧ (sn_T e.2.2.1 e.2.2.2).2.2.2 = sn_ff e.2.2.1 e.2.2.2 ∧ Cond.fieldLink (sn_cn e.1) e.2.1 (sn_cn e.2.2.1) (sn_T e.2.2.1 e.2.2.2).2.1 (sn_T e.2.2.1 e.2.2.2).2.2.1 ∈ wsL_law := List.forall_mem_cons.mpr ⟨⟨by decide, by decide, rfl, rfl, (sn_n23 _ (List.mem_of_getElem? (i := 7) rfl))⟩, List.forall_mem_cons.mpr ⟨⟨by decide, by decide, rfl, rfl, (sn_n22 _ (List.mem_of_getElem? (i := 15) rfl))⟩, List.forall_mem_cons.mpr ⟨⟨by decide, by decide, rfl, rfl, (sn_n18 _ (List.mem_of_getElem? (i := 18) rfl))⟩, List.forall_mem_cons.mpr ⟨⟨by decide, by decide, rfl, rfl, (sn_n18 _ (List.mem_of_getElem? (i := 19) rfl))⟩, List.forall_mem_cons.mpr ⟨⟨by decide, by decide, rfl, rfl, (sn_n29 _ (List.mem_of_getElem? (i := 0) rfl))⟩, List.forall_mem_cons.mpr ⟨⟨by decide, by decide, rfl, rfl, (sn_n29 _ (List.mem_of_getElem? (i := 1) rfl))⟩, List.forall_mem_cons.mpr ⟨⟨by decide, by decide, rfl, rfl, (sn_n23 _ (List.mem_of_getElem? (i := 0) rfl))⟩, List.forall_mem_cons.mpr ⟨⟨by decide, by decide, rfl, rfl, (sn_n23 _ (List.mem_of_getElem? (i := 1) rfl))⟩, List.forall_mem_cons.mpr ⟨⟨by decide, by decide, rfl, rfl, (sn_n23 _ (List.mem_of_getElem? (i := 2) rfl))⟩, List.forall_mem_cons.mpr ⟨⟨by decide, by decide, rfl, rfl, (sn_n16 _ (List.mem_of_getElem? (i := 22) rfl))⟩, List.forall_mem_cons.mpr ⟨⟨by decide, by decide, rfl, rfl, (sn_n23 _ (List.mem_of_getElem? (i := 3) rfl))⟩, List.forall_mem_cons.mpr ⟨⟨by decide, by decide, rfl, rfl, (sn_n23 _ (List.mem_of_getElem? (i := 4) rfl))⟩, fun _ h => absurd h List.not_mem_nil⟩⟩⟩⟩⟩⟩⟩⟩⟩⟩⟩⟩
theorem sn_pfl_ok11 : ∀ e ∈ sn_pfl_11, e.2.2.1 < 10 ∧ e.2.2.2 < sn_nf e.2.2.1 ∧ (sn_T e.2.2.1 e.2.2.2).1 = sn_cn e.2.2.1 ∧ (sn_T e.2.2.1 e.2.2.2).2.2.2 = sn_ff e.2.2.1 e.2.2.2 ∧ Cond.fieldLink (sn_cn e.1) e.2.1 (sn_cn e.2.2.1) (sn_T e.2.2.1 e.2.2.2).2.1 (sn_T e.2.2.1 e.2.2.2).2.2.1 ∈ wsL_law := List.forall_mem_cons.mpr ⟨⟨by decide, by decide, rfl, rfl, (sn_n20 _ (List.mem_of_getElem? (i := 6) rfl))⟩, List.forall_mem_cons.mpr ⟨⟨by decide, by decide, rfl, rfl, (sn_n20 _ (List.mem_of_getElem? (i := 7) rfl))⟩, List.forall_mem_cons.mpr ⟨⟨by decide, by decide, rfl, rfl, (sn_n20 _ (List.mem_of_getElem? (i := 8) rfl))⟩, List.forall_mem_cons.mpr ⟨⟨by decide, by decide, rfl, rfl, (sn_n20 _ (List.mem_of_getElem? (i := 10) rfl))⟩, List.forall_mem_cons.mpr ⟨⟨by decide, by decide, rfl, rfl, (sn_n20 _ (List.mem_of_getElem? (i := 12) rfl))⟩, List.forall_mem_cons.mpr ⟨⟨by decide, by decide, rfl, rfl, (sn_n16 _ (List.mem_of_getElem? (i := 3) rfl))⟩, List.forall_mem_cons.mpr ⟨⟨by decide, by decide, rfl, rfl, (sn_n16 _ (List.mem_of_getElem? (i := 5) rfl))⟩, fun _ h => absurd h List.not_mem_nil⟩⟩⟩⟩⟩⟩⟩
theorem sn_pfl_ok : ∀ e ∈ sn_pfl, e.2.2.1 < 10 ∧ e.2.2.2 < sn_nf e.2.2.1 ∧ (sn_T e.2.2.1 e.2.2.2).1 = sn_cn e.2.2.1 ∧ (sn_T e.2.2.1 e.2.2.2).2.2.2 = sn_ff e.2.2.1 e.2.2.2 ∧ Cond.fieldLink (sn_cn e.1) e.2.1 (sn_cn e.2.2.1) (sn_T e.2.2.1 e.2.2.2).2.1 (sn_T e.2.2.1 e.2.2.2).2.2.1 ∈ wsL_law := List.forall_mem_append.mpr ⟨sn_pfl_ok1, List.forall_mem_append.mpr ⟨sn_pfl_ok2, List.forall_mem_append.mpr ⟨sn_pfl_ok3, List.forall_mem_append.mpr ⟨sn_pfl_ok4, List.forall_mem_append.mpr ⟨sn_pfl_ok5, List.forall_mem_append.mpr ⟨sn_pfl_ok6, List.forall_mem_append.mpr ⟨sn_pfl_ok7, List.forall_mem_append.mpr ⟨sn_pfl_ok8, List.forall_mem_append.mpr ⟨sn_pfl_ok9, List.forall_mem_append.mpr ⟨sn_pfl_ok10, sn_pfl_ok11⟩⟩⟩⟩⟩⟩⟩⟩⟩⟩
theorem sn_pnl_ok1 : ∀ e ∈ sn_pnl_1, e.2.2 < 10 ∧ Cond.classLink (sn_cn e.1) e.2.1 (sn_cn e.2.2) ∈ wsL_law ∧ Cond.instantiable (sn_cn e.2.2) (sn_nf e.2.2) ∈ wsL_law ∧ Cond.initialized (sn_cn e.2.2) ∈ wsL_law := List.forall_mem_cons.mpr ⟨⟨by decide, (sn_n1 _ (List.mem_of_getElem? (i := 10) rfl)), (sn_n1 _ (List.mem_of_getElem? (i := 11) rfl)), (sn_n1 _ (List.mem_of_getElem? (i := 12) rfl))⟩, List.forall_mem_cons.mpr ⟨⟨by decide, (sn_n1 _ (List.mem_of_getElem? (i := 13) rfl)), (sn_n1 _ (List.mem_of_getElem? (i := 14) rfl)), (sn_n1 _ (List.mem_of_getElem? (i := 15) rfl))⟩, List.forall_mem_cons.mpr ⟨⟨by decide, (sn_n1 _ (List.mem_of_getElem? (i := 16) rfl)), (sn_n1 _ (List.mem_of_getElem? (i := 17) rfl)), (sn_n1 _ (List.mem_of_getElem? (i := 18) rfl))⟩, List.forall_mem_cons.mpr ⟨⟨by decide, (sn_n1 _ (List.mem_of_getElem? (i := 19) rfl)), (sn_n1 _ (List.mem_of_getElem? (i := 20) rfl)), (sn_n1 _ (List.mem_of_getElem? (i := 21) rfl))⟩, List.forall_mem_cons.mpr ⟨⟨by decide, (sn_n1 _ (List.mem_of_getElem? (i := 22) rfl)), (sn_n1 _ (List.mem_of_getElem? (i := 23) rfl)), (sn_n2 _ (List.mem_of_getElem? (i := 0) rfl))⟩, List.forall_mem_cons.mpr ⟨⟨by decide, (sn_n2 _ (List.mem_of_getElem? (i := 1) rfl)), (sn_n2 _ (List.mem_of_getElem? (i := 2) rfl)), (sn_n2 _ (List.mem_of_getElem? (i := 3) rfl))⟩, List.forall_mem_cons.mpr ⟨⟨by decide, (sn_n2 _ (List.mem_of_getElem? (i := 4) rfl)), (sn_n2 _ (List.mem_of_getElem? (i := 5) rfl)), (sn_n2 _ (List.mem_of_getElem? (i := 6) rfl))⟩, List.forall_mem_cons.mpr ⟨⟨by decide, (sn_n2 _ (List.mem_of_getElem? (i := 14) rfl)), (sn_n2 _ (List.mem_of_getElem? (i := 15) rfl)), (sn_n2 _ (List.mem_of_getElem? (i := 16) rfl))⟩, List.forall_mem_cons.mpr ⟨⟨by decide, (sn_n2 _ (List.mem_of_getElem? (i := 18) rfl)), (sn_n2 _ (List.mem_of_getElem? (i := 19) rfl)), (sn_n2 _ (List.mem_of_getElem? (i := 20) rfl))⟩, List.forall_mem_cons.mpr ⟨⟨by decide, (sn_n1 _ (List.mem_of_getElem? (i := 0) rfl)), (sn_n1 _ (List.mem_of_getElem? (i := 1) rfl)), (sn_n1 _ (List.mem_of_getElem? (i := 2) rfl))⟩, fun _ h => absurd h List.not_mem_nil⟩⟩⟩⟩⟩⟩⟩⟩⟩⟩
theorem sn_pnl_ok : ∀ e ∈ sn_pnl, e.2.2 < 10 ∧ Cond.classLink (sn_cn e.1) e.2.1 (sn_cn e.2.2) ∈ wsL_law ∧ Cond.instantiable (sn_cn e.2.2) (sn_nf e.2.2) ∈ wsL_law ∧ Cond.initialized (sn_cn e.2.2) ∈ wsL_law := sn_pnl_ok1
theorem sn_pil_ok1 : ∀ e ∈ sn_pil_1, Cond.constant (sn_cn e.1) e.2.1 (Int32.ofInt e.2.2) ∈ wsL_law := List.forall_mem_cons.mpr ⟨(show Cond.constant RL 7 (2147483647) ∈ wsL_law from (sn_n7 _ (List.mem_of_getElem? (i := 23) rfl))), List.forall_mem_cons.mpr ⟨(show Cond.constant RL 8 (790386105) ∈ wsL_law from (sn_n7 _ (List.mem_of_getElem? (i := 19) rfl))), fun _ h => absurd h List.not_mem_nil⟩⟩
theorem sn_pil_ok : ∀ e ∈ sn_pil, Cond.constant (sn_cn e.1) e.2.1 (Int32.ofInt e.2.2) ∈ wsL_law := sn_pil_ok1
theorem sn_pll_ok1 : ∀ e ∈ sn_pll_1, Cond.constantLong (sn_cn e.1) e.2.1 (Int64.ofInt e.2.2) ∈ wsL_law := List.forall_mem_cons.mpr ⟨(show Cond.constantLong RX9 371 (58219) ∈ wsL_law from (sn_n28 _ (List.mem_of_getElem? (i := 22) rfl))), List.forall_mem_cons.mpr ⟨(show Cond.constantLong RX9 373 (31) ∈ wsL_law from (sn_n28 _ (List.mem_of_getElem? (i := 23) rfl))), fun _ h => absurd h List.not_mem_nil⟩⟩
theorem sn_pll_ok : ∀ e ∈ sn_pll, Cond.constantLong (sn_cn e.1) e.2.1 (Int64.ofInt e.2.2) ∈ wsL_law := sn_pll_ok1
theorem sn_pvl_ok1 : ∀ e ∈ sn_pvl_1, e.2.2.1 < 129 ∧ e.2.2.1 ≠ 88 ∧ sn_oc e.2.2.1 < 10 ∧ (sn_y e.2.2.1).cls = sn_cn (sn_oc e.2.2.1) ∧ (parseMethodDescriptor (sn_y e.2.2.1).desc).map (fun d => d.parameters.length) = some e.2.2.2 ∧ Cond.methodLink (sn_cn e.1) e.2.1 (sn_y e.2.2.1) ∈ wsL_law ∧ Cond.instanceMethod (sn_y e.2.2.1) ∈ wsL_law ∧ Cond.selects (sn_y e.2.2.1).cls (sn_y e.2.2.1) (sn_y e.2.2.1) ∈ wsL_law ∧ Cond.initialized (sn_y e.2.2.1).cls ∈ wsL_law := List.forall_mem_cons.mpr ⟨⟨by decide, by decide, by decide, rfl, by decide +kernel, (sn_n19 _ (List.mem_of_getElem? (i := 16) rfl)), (sn_n12 _ (List.mem_of_getElem? (i := 5) rfl)), (sn_n12 _ (List.mem_of_getElem? (i := 6) rfl)), (sn_n1 _ (List.mem_of_getElem? (i := 15) rfl))⟩, List.forall_mem_cons.mpr ⟨⟨by decide, by decide, by decide, rfl, by decide +kernel, (sn_n28 _ (List.mem_of_getElem? (i := 17) rfl)), (sn_n22 _ (List.mem_of_getElem? (i := 1) rfl)), (sn_n22 _ (List.mem_of_getElem? (i := 2) rfl)), (sn_n2 _ (List.mem_of_getElem? (i := 20) rfl))⟩, List.forall_mem_cons.mpr ⟨⟨by decide, by decide, by decide, rfl, by decide +kernel, (sn_n25 _ (List.mem_of_getElem? (i := 10) rfl)), (sn_n25 _ (List.mem_of_getElem? (i := 11) rfl)), (sn_n25 _ (List.mem_of_getElem? (i := 12) rfl)), (sn_n2 _ (List.mem_of_getElem? (i := 20) rfl))⟩, List.forall_mem_cons.mpr ⟨⟨by decide, by decide, by decide, rfl, by decide +kernel, (sn_n25 _ (List.mem_of_getElem? (i := 0) rfl)), (sn_n15 _ (List.mem_of_getElem? (i := 6) rfl)), (sn_n15 _ (List.mem_of_getElem? (i := 7) rfl)), (sn_n1 _ (List.mem_of_getElem? (i := 15) rfl))⟩, List.forall_mem_cons.mpr ⟨⟨by decide, by decide, by decide, rfl, by decide +kernel, (sn_n25 _ (List.mem_of_getElem? (i := 1) rfl)), (sn_n20 _ (List.mem_of_getElem? (i := 19) rfl)), (sn_n20 _ (List.mem_of_getElem? (i := 20) rfl)), (sn_n2 _ (List.mem_of_getElem? (i := 20) rfl))⟩, List.forall_mem_cons.mpr ⟨⟨by decide, by decide, by decide, rfl, by decide +kernel, (sn_n27 _ (List.mem_of_getElem? (i := 1) rfl)), (sn_n27 _ (List.mem_of_getElem? (i := 2) rfl)), (sn_n27 _ (List.mem_of_getElem? (i := 3) rfl)), (sn_n2 _ (List.mem_of_getElem? (i := 20) rfl))⟩, List.forall_mem_cons.mpr ⟨⟨by decide, by decide, by decide, rfl, by decide +kernel, (sn_n10 _ (List.mem_of_getElem? (i := 17) rfl)), (sn_n10 _ (List.mem_of_getElem? (i := 18) rfl)), (sn_n10 _ (List.mem_of_getElem? (i := 19) rfl)), (sn_n2 _ (List.mem_of_getElem? (i := 0) rfl))⟩, List.forall_mem_cons.mpr ⟨⟨by decide, by decide, by decide, rfl, by decide +kernel, (sn_n13 _ (List.mem_of_getElem? (i := 10) rfl)), (sn_n13 _ (List.mem_of_getElem? (i := 11) rfl)), (sn_n13 _ (List.mem_of_getElem? (i := 12) rfl)), (sn_n2 _ (List.mem_of_getElem? (i := 0) rfl))⟩, List.forall_mem_cons.mpr ⟨⟨by decide, by decide, by decide, rfl, by decide +kernel, (sn_n13 _ (List.mem_of_getElem? (i := 14) rfl)), (sn_n13 _ (List.mem_of_getElem? (i := 15) rfl)), (sn_n13 _ (List.mem_of_getElem? (i := 16) rfl)), (sn_n2 _ (List.mem_of_getElem? (i := 0) rfl))⟩, List.forall_mem_cons.mpr ⟨⟨by decide, by decide, by decide, rfl, by decide +kernel, (sn_n12 _ (List.mem_of_getElem? (i := 0) rfl)), (sn_n12 _ (List.mem_of_getElem? (i := 1) rfl)), (sn_n12 _ (List.mem_of_getElem? (i := 2) rfl)), (sn_n2 _ (List.mem_of_getElem? (i := 0) rfl))⟩, List.forall_mem_cons.mpr ⟨⟨by decide, by decide, by decide, rfl, by decide +kernel, (sn_n14 _ (List.mem_of_getElem? (i := 0) rfl)), (sn_n14 _ (List.mem_of_getElem? (i := 1) rfl)), (sn_n14 _ (List.mem_of_getElem? (i := 2) rfl)), (sn_n2 _ (List.mem_of_getElem? (i := 0) rfl))⟩, List.forall_mem_cons.mpr ⟨⟨by decide, by decide, by decide, rfl, by decide +kernel, (sn_n10 _ (List.mem_of_getElem? (i := 21) rfl)), (sn_n10 _ (List.mem_of_getElem? (i := 22) rfl)), (sn_n10 _ (List.mem_of_getElem? (i := 23) rfl)), (sn_n1 _ (List.mem_of_getElem? (i := 21) rfl))⟩, fun _ h => absurd h List.not_mem_nil⟩⟩⟩⟩⟩⟩⟩⟩⟩⟩⟩⟩
theorem sn_pvl_ok2 : ∀ e ∈ sn_pvl_2, e.2.2.1 < 129 ∧ e.2.2.1 ≠ 88 ∧ sn_oc e.2.2.1 < 10 ∧ (sn_y e.2.2.1).cls = sn_cn (sn_oc e.2.2.1) ∧ (parseMethodDescriptor (sn_y e.2.2.1).desc).map (fun d => d.parameters.length) = some e.2.2.2 ∧ Cond.methodLink (sn_cn e.1) e.2.1 (sn_y e.2.2.1) ∈ wsL_law ∧ Cond.instanceMethod (sn_y e.2.2.1) ∈ wsL_law ∧ Cond.selects (sn_y e.2.2.1).cls (sn_y e.2.2.1) (sn_y e.2.2.1) ∈ wsL_law ∧ Cond.initialized (sn_y e.2.2.1).cls ∈ wsL_law := List.forall_mem_cons.mpr ⟨⟨by decide, by decide, by decide, rfl, by decide +kernel, (sn_n11 _ (List.mem_of_getElem? (i := 4) rfl)), (sn_n11 _ (List.mem_of_getElem? (i := 5) rfl)), (sn_n11 _ (List.mem_of_getElem? (i := 6) rfl)), (sn_n2 _ (List.mem_of_getElem? (i := 0) rfl))⟩, List.forall_mem_cons.mpr ⟨⟨by decide, by decide, by decide, rfl, by decide +kernel, (sn_n12 _ (List.mem_of_getElem? (i := 14) rfl)), (sn_n12 _ (List.mem_of_getElem? (i := 15) rfl)), (sn_n12 _ (List.mem_of_getElem? (i := 16) rfl)), (sn_n2 _ (List.mem_of_getElem? (i := 0) rfl))⟩, List.forall_mem_cons.mpr ⟨⟨by decide, by decide, by decide, rfl, by decide +kernel, (sn_n13 _ (List.mem_of_getElem? (i := 2) rfl)), (sn_n13 _ (List.mem_of_getElem? (i := 3) rfl)), (sn_n13 _ (List.mem_of_getElem? (i := 4) rfl)), (sn_n2 _ (List.mem_of_getElem? (i := 0) rfl))⟩, List.forall_mem_cons.mpr ⟨⟨by decide, by decide, by decide, rfl, by decide +kernel, (sn_n11 _ (List.mem_of_getElem? (i := 11) rfl)), (sn_n11 _ (List.mem_of_getElem? (i := 12) rfl)), (sn_n11 _ (List.mem_of_getElem? (i := 13) rfl)), (sn_n2 _ (List.mem_of_getElem? (i := 0) rfl))⟩, List.forall_mem_cons.mpr ⟨⟨by decide, by decide, by decide, rfl, by decide +kernel, (sn_n11 _ (List.mem_of_getElem? (i := 17) rfl)), (sn_n11 _ (List.mem_of_getElem? (i := 18) rfl)), (sn_n11 _ (List.mem_of_getElem? (i := 19) rfl)), (sn_n1 _ (List.mem_of_getElem? (i := 21) rfl))⟩, List.forall_mem_cons.mpr ⟨⟨by decide, by decide, by decide, rfl, by decide +kernel, (sn_n12 _ (List.mem_of_getElem? (i := 4) rfl)), (sn_n12 _ (List.mem_of_getElem? (i := 5) rfl)), (sn_n12 _ (List.mem_of_getElem? (i := 6) rfl)), (sn_n1 _ (List.mem_of_getElem? (i := 15) rfl))⟩, List.forall_mem_cons.mpr ⟨⟨by decide, by decide, by decide, rfl, by decide +kernel, (sn_n12 _ (List.mem_of_getElem? (i := 18) rfl)), (sn_n12 _ (List.mem_of_getElem? (i := 19) rfl)), (sn_n12 _ (List.mem_of_getElem? (i := 20) rfl)), (sn_n1 _ (List.mem_of_getElem? (i := 21) rfl))⟩, List.forall_mem_cons.mpr ⟨⟨by decide, by decide, by decide, rfl, by decide +kernel, (sn_n13 _ (List.mem_of_getElem? (i := 6) rfl)), (sn_n13 _ (List.mem_of_getElem? (i := 7) rfl)), (sn_n13 _ (List.mem_of_getElem? (i := 8) rfl)), (sn_n1 _ (List.mem_of_getElem? (i := 21) rfl))⟩, List.forall_mem_cons.mpr ⟨⟨by decide, by decide, by decide, rfl, by decide +kernel, (sn_n13 _ (List.mem_of_getElem? (i := 19) rfl)), (sn_n13 _ (List.mem_of_getElem? (i := 20) rfl)), (sn_n13 _ (List.mem_of_getElem? (i := 21) rfl)), (sn_n2 _ (List.mem_of_getElem? (i := 0) rfl))⟩, List.forall_mem_cons.mpr ⟨⟨by decide, by decide, by decide, rfl, by decide +kernel, (sn_n13 _ (List.mem_of_getElem? (i := 23) rfl)), (sn_n12 _ (List.mem_of_getElem? (i := 9) rfl)), (sn_n12 _ (List.mem_of_getElem? (i := 10) rfl)), (sn_n1 _ (List.mem_of_getElem? (i := 15) rfl))⟩, List.forall_mem_cons.mpr ⟨⟨by decide, by decide, by decide, rfl, by decide +kernel, (sn_n14 _ (List.mem_of_getElem? (i := 8) rfl)), (sn_n14 _ (List.mem_of_getElem? (i := 9) rfl)), (sn_n14 _ (List.mem_of_getElem? (i := 10) rfl)), (sn_n2 _ (List.mem_of_getElem? (i := 3) rfl))⟩, List.forall_mem_cons.mpr ⟨⟨by decide, by decide, by decide, rfl, by decide +kernel, (sn_n14 _ (List.mem_of_getElem? (i := 19) rfl)), (sn_n12 _ (List.mem_of_getElem? (i := 9) rfl)), (sn_n12 _ (List.mem_of_getElem? (i := 10) rfl)), (sn_n1 _ (List.mem_of_getElem? (i := 15) rfl))⟩, fun _ h => absurd h List.not_mem_nil⟩⟩⟩⟩⟩⟩⟩⟩⟩⟩⟩⟩
theorem sn_pvl_ok3 : ∀ e ∈ sn_pvl_3, e.2.2.1 < 129 ∧ e.2.2.1 ≠ 88 ∧ sn_oc e.2.2.1 < 10 ∧ (sn_y e.2.2.1).cls = sn_cn (sn_oc e.2.2.1) ∧ (parseMethodDescriptor (sn_y e.2.2.1).desc).map (fun d => d.parameters.length) = some e.2.2.2 ∧ Cond.methodLink (sn_cn e.1) e.2.1 (sn_y e.2.2.1) ∈ wsL_law ∧ Cond.instanceMethod (sn_y e.2.2.1) ∈ wsL_law ∧ Cond.selects (sn_y e.2.2.1).cls (sn_y e.2.2.1) (sn_y e.2.2.1) ∈ wsL_law ∧ Cond.initialized (sn_y e.2.2.1).cls ∈ wsL_law := List.forall_mem_cons.mpr ⟨⟨by decide, by decide, by decide, rfl, by decide +kernel, (sn_n14 _ (List.mem_of_getElem? (i := 12) rfl)), (sn_n14 _ (List.mem_of_getElem? (i := 13) rfl)), (sn_n14 _ (List.mem_of_getElem? (i := 14) rfl)), (sn_n2 _ (List.mem_of_getElem? (i := 3) rfl))⟩, List.forall_mem_cons.mpr ⟨⟨by decide, by decide, by decide, rfl, by decide +kernel, (sn_n15 _ (List.mem_of_getElem? (i := 0) rfl)), (sn_n12 _ (List.mem_of_getElem? (i := 5) rfl)), (sn_n12 _ (List.mem_of_getElem? (i := 6) rfl)), (sn_n1 _ (List.mem_of_getElem? (i := 15) rfl))⟩, List.forall_mem_cons.mpr ⟨⟨by decide, by decide, by decide, rfl, by decide +kernel, (sn_n29 _ (List.mem_of_getElem? (i := 14) rfl)), (sn_n29 _ (List.mem_of_getElem? (i := 15) rfl)), (sn_n29 _ (List.mem_of_getElem? (i := 16) rfl)), (sn_n2 _ (List.mem_of_getElem? (i := 3) rfl))⟩, List.forall_mem_cons.mpr ⟨⟨by decide, by decide, by decide, rfl, by decide +kernel, (sn_n15 _ (List.mem_of_getElem? (i := 5) rfl)), (sn_n15 _ (List.mem_of_getElem? (i := 6) rfl)), (sn_n15 _ (List.mem_of_getElem? (i := 7) rfl)), (sn_n1 _ (List.mem_of_getElem? (i := 15) rfl))⟩, List.forall_mem_cons.mpr ⟨⟨by decide, by decide, by decide, rfl, by decide +kernel, (sn_n15 _ (List.mem_of_getElem? (i := 9) rfl)), (sn_n15 _ (List.mem_of_getElem? (i := 10) rfl)), (sn_n15 _ (List.mem_of_getElem? (i := 11) rfl)), (sn_n2 _ (List.mem_of_getElem? (i := 16) rfl))⟩, List.forall_mem_cons.mpr ⟨⟨by decide, by decide, by decide, rfl, by decide +kernel, (sn_n15 _ (List.mem_of_getElem? (i := 15) rfl)), (sn_n15 _ (List.mem_of_getElem? (i := 16) rfl)), (sn_n15 _ (List.mem_of_getElem? (i := 17) rfl)), (sn_n2 _ (List.mem_of_getElem? (i := 16) rfl))⟩, List.forall_mem_cons.mpr ⟨⟨by decide, by decide, by decide, rfl, by decide +kernel, (sn_n15 _ (List.mem_of_getElem? (i := 19) rfl)), (sn_n15 _ (List.mem_of_getElem? (i := 20) rfl)), (sn_n15 _ (List.mem_of_getElem? (i := 21) rfl)), (sn_n1 _ (List.mem_of_getElem? (i := 18) rfl))⟩, List.forall_mem_cons.mpr ⟨⟨by decide, by decide, by decide, rfl, by decide +kernel, (sn_n19 _ (List.mem_of_getElem? (i := 4) rfl)), (sn_n19 _ (List.mem_of_getElem? (i := 5) rfl)), (sn_n19 _ (List.mem_of_getElem? (i := 6) rfl)), (sn_n1 _ (List.mem_of_getElem? (i := 15) rfl))⟩, List.forall_mem_cons.mpr ⟨⟨by decide, by decide, by decide, rfl, by decide +kernel, (sn_n19 _ (List.mem_of_getElem? (i := 8) rfl)), (sn_n15 _ (List.mem_of_getElem? (i := 6) rfl)), (sn_n15 _ (List.mem_of_getElem? (i := 7) rfl)), (sn_n1 _ (List.mem_of_getElem? (i := 15) rfl))⟩, List.forall_mem_cons.mpr ⟨⟨by decide, by decide, by decide, rfl, by decide +kernel, (sn_n12 _ (List.mem_of_getElem? (i := 8) rfl)), (sn_n12 _ (List.mem_of_getElem? (i := 9) rfl)), (sn_n12 _ (List.mem_of_getElem? (i := 10) rfl)), (sn_n1 _ (List.mem_of_getElem? (i := 15) rfl))⟩, List.forall_mem_cons.mpr ⟨⟨by decide, by decide, by decide, rfl, by decide +kernel, (sn_n17 _ (List.mem_of_getElem? (i := 21) rfl)), (sn_n17 _ (List.mem_of_getElem? (i := 22) rfl)), (sn_n17 _ (List.mem_of_getElem? (i := 23) rfl)), (sn_n1 _ (List.mem_of_getElem? (i := 18) rfl))⟩, List.forall_mem_cons.mpr ⟨⟨by decide, by decide, by decide, rfl, by decide +kernel, (sn_n16 _ (List.mem_of_getElem? (i := 10) rfl)), (sn_n16 _ (List.mem_of_getElem? (i := 11) rfl)), (sn_n16 _ (List.mem_of_getElem? (i := 12) rfl)), (sn_n1 _ (List.mem_of_getElem? (i := 18) rfl))⟩, fun _ h => absurd h List.not_mem_nil⟩⟩⟩⟩⟩⟩⟩⟩⟩⟩⟩⟩
theorem sn_pvl_ok4 : ∀ e ∈ sn_pvl_4, e.2.2.1 < 129 ∧ e.2.2.1 ≠ 88 ∧ sn_oc e.2.2.1 < 10 ∧ (sn_y e.2.2.1).cls = sn_cn (sn_oc e.2.2.1) ∧ (parseMethodDescriptor (sn_y e.2.2.1).desc).map (fun d => d.parameters.length) = some e.2.2.2 ∧ Cond.methodLink (sn_cn e.1) e.2.1 (sn_y e.2.2.1) ∈ wsL_law ∧ Cond.instanceMethod (sn_y e.2.2.1) ∈ wsL_law ∧ Cond.selects (sn_y e.2.2.1).cls (sn_y e.2.2.1) (sn_y e.2.2.1) ∈ wsL_law ∧ Cond.initialized (sn_y e.2.2.1).cls ∈ wsL_law := List.forall_mem_cons.mpr ⟨⟨by decide, by decide, by decide, rfl, by decide +kernel, (sn_n17 _ (List.mem_of_getElem? (i := 12) rfl)), (sn_n16 _ (List.mem_of_getElem? (i := 7) rfl)), (sn_n16 _ (List.mem_of_getElem? (i := 8) rfl)), (sn_n1 _ (List.mem_of_getElem? (i := 18) rfl))⟩, List.forall_mem_cons.mpr ⟨⟨by decide, by decide, by decide, rfl, by decide +kernel, (sn_n17 _ (List.mem_of_getElem? (i := 13) rfl)), (sn_n17 _ (List.mem_of_getElem? (i := 14) rfl)), (sn_n17 _ (List.mem_of_getElem? (i := 15) rfl)), (sn_n1 _ (List.mem_of_getElem? (i := 18) rfl))⟩, List.forall_mem_cons.mpr ⟨⟨by decide, by decide, by decide, rfl, by decide +kernel, (sn_n17 _ (List.mem_of_getElem? (i := 17) rfl)), (sn_n17 _ (List.mem_of_getElem? (i := 18) rfl)), (sn_n17 _ (List.mem_of_getElem? (i := 19) rfl)), (sn_n1 _ (List.mem_of_getElem? (i := 18) rfl))⟩, List.forall_mem_cons.mpr ⟨⟨by decide, by decide, by decide, rfl, by decide +kernel, (sn_n8 _ (List.mem_of_getElem? (i := 12) rfl)), (sn_n8 _ (List.mem_of_getElem? (i := 13) rfl)), (sn_n8 _ (List.mem_of_getElem? (i := 14) rfl)), (sn_n1 _ (List.mem_of_getElem? (i := 2) rfl))⟩, List.forall_mem_cons.mpr ⟨⟨by decide, by decide, by decide, rfl, by decide +kernel, (sn_n8 _ (List.mem_of_getElem? (i := 16) rfl)), (sn_n8 _ (List.mem_of_getElem? (i := 17) rfl)), (sn_n8 _ (List.mem_of_getElem? (i := 18) rfl)), (sn_n1 _ (List.mem_of_getElem? (i := 12) rfl))⟩, List.forall_mem_cons.mpr ⟨⟨by decide, by decide, by decide, rfl, by decide +kernel, (sn_n9 _ (List.mem_of_getElem? (i := 12) rfl)), (sn_n9 _ (List.mem_of_getElem? (i := 13) rfl)), (sn_n9 _ (List.mem_of_getElem? (i := 14) rfl)), (sn_n1 _ (List.mem_of_getElem? (i := 2) rfl))⟩, List.forall_mem_cons.mpr ⟨⟨by decide, by decide, by decide, rfl, by decide +kernel, (sn_n9 _ (List.mem_of_getElem? (i := 18) rfl)), (sn_n9 _ (List.mem_of_getElem? (i := 19) rfl)), (sn_n9 _ (List.mem_of_getElem? (i := 20) rfl)), (sn_n1 _ (List.mem_of_getElem? (i := 15) rfl))⟩, List.forall_mem_cons.mpr ⟨⟨by decide, by decide, by decide, rfl, by decide +kernel, (sn_n9 _ (List.mem_of_getElem? (i := 22) rfl)), (sn_n9 _ (List.mem_of_getElem? (i := 23) rfl)), (sn_n10 _ (List.mem_of_getElem? (i := 0) rfl)), (sn_n1 _ (List.mem_of_getElem? (i := 18) rfl))⟩, List.forall_mem_cons.mpr ⟨⟨by decide, by decide, by decide, rfl, by decide +kernel, (sn_n17 _ (List.mem_of_getElem? (i := 3) rfl)), (sn_n17 _ (List.mem_of_getElem? (i := 4) rfl)), (sn_n17 _ (List.mem_of_getElem? (i := 5) rfl)), (sn_n1 _ (List.mem_of_getElem? (i := 2) rfl))⟩, List.forall_mem_cons.mpr ⟨⟨by decide, by decide, by decide, rfl, by decide +kernel, (sn_n18 _ (List.mem_of_getElem? (i := 5) rfl)), (sn_n17 _ (List.mem_of_getElem? (i := 14) rfl)), (sn_n17 _ (List.mem_of_getElem? (i := 15) rfl)), (sn_n1 _ (List.mem_of_getElem? (i := 18) rfl))⟩, List.forall_mem_cons.mpr ⟨⟨by decide, by decide, by decide, rfl, by decide +kernel, (sn_n18 _ (List.mem_of_getElem? (i := 6) rfl)), (sn_n18 _ (List.mem_of_getElem? (i := 7) rfl)), (sn_n18 _ (List.mem_of_getElem? (i := 8) rfl)), (sn_n1 _ (List.mem_of_getElem? (i := 18) rfl))⟩, List.forall_mem_cons.mpr ⟨⟨by decide, by decide, by decide, rfl, by decide +kernel, (sn_n16 _ (List.mem_of_getElem? (i := 6) rfl)), (sn_n16 _ (List.mem_of_getElem? (i := 7) rfl)), (sn_n16 _ (List.mem_of_getElem? (i := 8) rfl)), (sn_n1 _ (List.mem_of_getElem? (i := 18) rfl))⟩, fun _ h => absurd h List.not_mem_nil⟩⟩⟩⟩⟩⟩⟩⟩⟩⟩⟩⟩
theorem sn_pvl_ok5 : ∀ e ∈ sn_pvl_5, e.2.2.1 < 129 ∧ e.2.2.1 ≠ 88 ∧ sn_oc e.2.2.1 < 10 ∧ (sn_y e.2.2.1).cls = sn_cn (sn_oc e.2.2.1) ∧ (parseMethodDescriptor (sn_y e.2.2.1).desc).map (fun d => d.parameters.length) = some e.2.2.2 ∧ Cond.methodLink (sn_cn e.1) e.2.1 (sn_y e.2.2.1) ∈ wsL_law ∧ Cond.instanceMethod (sn_y e.2.2.1) ∈ wsL_law ∧ Cond.selects (sn_y e.2.2.1).cls (sn_y e.2.2.1) (sn_y e.2.2.1) ∈ wsL_law ∧ Cond.initialized (sn_y e.2.2.1).cls ∈ wsL_law := List.forall_mem_cons.mpr ⟨⟨by decide, by decide, by decide, rfl, by decide +kernel, (sn_n19 _ (List.mem_of_getElem? (i := 0) rfl)), (sn_n19 _ (List.mem_of_getElem? (i := 1) rfl)), (sn_n19 _ (List.mem_of_getElem? (i := 2) rfl)), (sn_n1 _ (List.mem_of_getElem? (i := 15) rfl))⟩, List.forall_mem_cons.mpr ⟨⟨by decide, by decide, by decide, rfl, by decide +kernel, (sn_n19 _ (List.mem_of_getElem? (i := 12) rfl)), (sn_n19 _ (List.mem_of_getElem? (i := 13) rfl)), (sn_n19 _ (List.mem_of_getElem? (i := 14) rfl)), (sn_n1 _ (List.mem_of_getElem? (i := 21) rfl))⟩, List.forall_mem_cons.mpr ⟨⟨by decide, by decide, by decide, rfl, by decide +kernel, (sn_n19 _ (List.mem_of_getElem? (i := 17) rfl)), (sn_n13 _ (List.mem_of_getElem? (i := 7) rfl)), (sn_n13 _ (List.mem_of_getElem? (i := 8) rfl)), (sn_n1 _ (List.mem_of_getElem? (i := 21) rfl))⟩, List.forall_mem_cons.mpr ⟨⟨by decide, by decide, by decide, rfl, by decide +kernel, (sn_n19 _ (List.mem_of_getElem? (i := 22) rfl)), (sn_n19 _ (List.mem_of_getElem? (i := 23) rfl)), (sn_n20 _ (List.mem_of_getElem? (i := 0) rfl)), (sn_n1 _ (List.mem_of_getElem? (i := 2) rfl))⟩, List.forall_mem_cons.mpr ⟨⟨by decide, by decide, by decide, rfl, by decide +kernel, (sn_n21 _ (List.mem_of_getElem? (i := 2) rfl)), (sn_n12 _ (List.mem_of_getElem? (i := 9) rfl)), (sn_n12 _ (List.mem_of_getElem? (i := 10) rfl)), (sn_n1 _ (List.mem_of_getElem? (i := 15) rfl))⟩, List.forall_mem_cons.mpr ⟨⟨by decide, by decide, by decide, rfl, by decide +kernel, (sn_n21 _ (List.mem_of_getElem? (i := 3) rfl)), (sn_n21 _ (List.mem_of_getElem? (i := 4) rfl)), (sn_n21 _ (List.mem_of_getElem? (i := 5) rfl)), (sn_n2 _ (List.mem_of_getElem? (i := 3) rfl))⟩, List.forall_mem_cons.mpr ⟨⟨by decide, by decide, by decide, rfl, by decide +kernel, (sn_n21 _ (List.mem_of_getElem? (i := 15) rfl)), (sn_n19 _ (List.mem_of_getElem? (i := 5) rfl)), (sn_n19 _ (List.mem_of_getElem? (i := 6) rfl)), (sn_n1 _ (List.mem_of_getElem? (i := 15) rfl))⟩, List.forall_mem_cons.mpr ⟨⟨by decide, by decide, by decide, rfl, by decide +kernel, (sn_n21 _ (List.mem_of_getElem? (i := 16) rfl)), (sn_n21 _ (List.mem_of_getElem? (i := 17) rfl)), (sn_n21 _ (List.mem_of_getElem? (i := 18) rfl)), (sn_n1 _ (List.mem_of_getElem? (i := 15) rfl))⟩, List.forall_mem_cons.mpr ⟨⟨by decide, by decide, by decide, rfl, by decide +kernel, (sn_n21 _ (List.mem_of_getElem? (i := 20) rfl)), (sn_n21 _ (List.mem_of_getElem? (i := 21) rfl)), (sn_n21 _ (List.mem_of_getElem? (i := 22) rfl)), (sn_n1 _ (List.mem_of_getElem? (i := 21) rfl))⟩, List.forall_mem_cons.mpr ⟨⟨by decide, by decide, by decide, rfl, by decide +kernel, (sn_n22 _ (List.mem_of_getElem? (i := 0) rfl)), (sn_n22 _ (List.mem_of_getElem? (i := 1) rfl)), (sn_n22 _ (List.mem_of_getElem? (i := 2) rfl)), (sn_n2 _ (List.mem_of_getElem? (i := 20) rfl))⟩, List.forall_mem_cons.mpr ⟨⟨by decide, by decide, by decide, rfl, by decide +kernel, (sn_n10 _ (List.mem_of_getElem? (i := 7) rfl)), (sn_n10 _ (List.mem_of_getElem? (i := 8) rfl)), (sn_n10 _ (List.mem_of_getElem? (i := 9) rfl)), (sn_n1 _ (List.mem_of_getElem? (i := 2) rfl))⟩, List.forall_mem_cons.mpr ⟨⟨by decide, by decide, by decide, rfl, by decide +kernel, (sn_n16 _ (List.mem_of_getElem? (i := 18) rfl)), (sn_n16 _ (List.mem_of_getElem? (i := 19) rfl)), (sn_n16 _ (List.mem_of_getElem? (i := 20) rfl)), (sn_n1 _ (List.mem_of_getElem? (i := 2) rfl))⟩, fun _ h => absurd h List.not_mem_nil⟩⟩⟩⟩⟩⟩⟩⟩⟩⟩⟩⟩
theorem sn_pvl_ok6 : ∀ e ∈ sn_pvl_6, e.2.2.1 < 129 ∧ e.2.2.1 ≠ 88 ∧ sn_oc e.2.2.1 < 10 ∧ (sn_y e.2.2.1).cls = sn_cn (sn_oc e.2.2.1) ∧ (parseMethodDescriptor (sn_y e.2.2.1).desc).map (fun d => d.parameters.length) = some e.2.2.2 ∧ Cond.methodLink (sn_cn e.1) e.2.1 (sn_y e.2.2.1) ∈ wsL_law ∧ Cond.instanceMethod (sn_y e.2.2.1) ∈ wsL_law ∧ Cond.selects (sn_y e.2.2.1).cls (sn_y e.2.2.1) (sn_y e.2.2.1) ∈ wsL_law ∧ Cond.initialized (sn_y e.2.2.1).cls ∈ wsL_law := List.forall_mem_cons.mpr ⟨⟨by decide, by decide, by decide, rfl, by decide +kernel, (sn_n24 _ (List.mem_of_getElem? (i := 16) rfl)), (sn_n24 _ (List.mem_of_getElem? (i := 17) rfl)), (sn_n24 _ (List.mem_of_getElem? (i := 18) rfl)), (sn_n2 _ (List.mem_of_getElem? (i := 20) rfl))⟩, List.forall_mem_cons.mpr ⟨⟨by decide, by decide, by decide, rfl, by decide +kernel, (sn_n25 _ (List.mem_of_getElem? (i := 6) rfl)), (sn_n25 _ (List.mem_of_getElem? (i := 7) rfl)), (sn_n25 _ (List.mem_of_getElem? (i := 8) rfl)), (sn_n2 _ (List.mem_of_getElem? (i := 20) rfl))⟩, List.forall_mem_cons.mpr ⟨⟨by decide, by decide, by decide, rfl, by decide +kernel, (sn_n25 _ (List.mem_of_getElem? (i := 15) rfl)), (sn_n25 _ (List.mem_of_getElem? (i := 16) rfl)), (sn_n25 _ (List.mem_of_getElem? (i := 17) rfl)), (sn_n2 _ (List.mem_of_getElem? (i := 0) rfl))⟩, List.forall_mem_cons.mpr ⟨⟨by decide, by decide, by decide, rfl, by decide +kernel, (sn_n26 _ (List.mem_of_getElem? (i := 4) rfl)), (sn_n26 _ (List.mem_of_getElem? (i := 5) rfl)), (sn_n26 _ (List.mem_of_getElem? (i := 6) rfl)), (sn_n2 _ (List.mem_of_getElem? (i := 20) rfl))⟩, List.forall_mem_cons.mpr ⟨⟨by decide, by decide, by decide, rfl, by decide +kernel, (sn_n26 _ (List.mem_of_getElem? (i := 8) rfl)), (sn_n26 _ (List.mem_of_getElem? (i := 9) rfl)), (sn_n26 _ (List.mem_of_getElem? (i := 10) rfl)), (sn_n2 _ (List.mem_of_getElem? (i := 20) rfl))⟩, List.forall_mem_cons.mpr ⟨⟨by decide, by decide, by decide, rfl, by decide +kernel, (sn_n25 _ (List.mem_of_getElem? (i := 23) rfl)), (sn_n25 _ (List.mem_of_getElem? (i := 11) rfl)), (sn_n25 _ (List.mem_of_getElem? (i := 12) rfl)), (sn_n2 _ (List.mem_of_getElem? (i := 20) rfl))⟩, List.forall_mem_cons.mpr ⟨⟨by decide, by decide, by decide, rfl, by decide +kernel, (sn_n23 _ (List.mem_of_getElem? (i := 13) rfl)), (sn_n23 _ (List.mem_of_getElem? (i := 14) rfl)), (sn_n23 _ (List.mem_of_getElem? (i := 15) rfl)), (sn_n2 _ (List.mem_of_getElem? (i := 16) rfl))⟩, List.forall_mem_cons.mpr ⟨⟨by decide, by decide, by decide, rfl, by decide +kernel, (sn_n27 _ (List.mem_of_getElem? (i := 13) rfl)), (sn_n27 _ (List.mem_of_getElem? (i := 14) rfl)), (sn_n27 _ (List.mem_of_getElem? (i := 15) rfl)), (sn_n1 _ (List.mem_of_getElem? (i := 2) rfl))⟩, List.forall_mem_cons.mpr ⟨⟨by decide, by decide, by decide, rfl, by decide +kernel, (sn_n27 _ (List.mem_of_getElem? (i := 21) rfl)), (sn_n27 _ (List.mem_of_getElem? (i := 22) rfl)), (sn_n27 _ (List.mem_of_getElem? (i := 23) rfl)), (sn_n1 _ (List.mem_of_getElem? (i := 15) rfl))⟩, List.forall_mem_cons.mpr ⟨⟨by decide, by decide, by decide, rfl, by decide +kernel, (sn_n28 _ (List.mem_of_getElem? (i := 1) rfl)), (sn_n28 _ (List.mem_of_getElem? (i := 2) rfl)), (sn_n28 _ (List.mem_of_getElem? (i := 3) rfl)), (sn_n1 _ (List.mem_of_getElem? (i := 18) rfl))⟩, List.forall_mem_cons.mpr ⟨⟨by decide, by decide, by decide, rfl, by decide +kernel, (sn_n28 _ (List.mem_of_getElem? (i := 5) rfl)), (sn_n28 _ (List.mem_of_getElem? (i := 6) rfl)), (sn_n28 _ (List.mem_of_getElem? (i := 7) rfl)), (sn_n1 _ (List.mem_of_getElem? (i := 21) rfl))⟩, List.forall_mem_cons.mpr ⟨⟨by decide, by decide, by decide, rfl, by decide +kernel, (sn_n28 _ (List.mem_of_getElem? (i := 9) rfl)), (sn_n28 _ (List.mem_of_getElem? (i := 10) rfl)), (sn_n28 _ (List.mem_of_getElem? (i := 11) rfl)), (sn_n2 _ (List.mem_of_getElem? (i := 3) rfl))⟩, fun _ h => absurd h List.not_mem_nil⟩⟩⟩⟩⟩⟩⟩⟩⟩⟩⟩⟩
theorem sn_pvl_ok7 : ∀ e ∈ sn_pvl_7, e.2.2.1 < 129 ∧ e.2.2.1 ≠ 88 ∧ sn_oc e.2.2.1 < 10 ∧ (sn_y e.2.2.1).cls = sn_cn (sn_oc e.2.2.1) ∧ (parseMethodDescriptor (sn_y e.2.2.1).desc).map (fun d => d.parameters.length) = some e.2.2.2 ∧ Cond.methodLink (sn_cn e.1) e.2.1 (sn_y e.2.2.1) ∈ wsL_law ∧ Cond.instanceMethod (sn_y e.2.2.1) ∈ wsL_law ∧ Cond.selects (sn_y e.2.2.1).cls (sn_y e.2.2.1) (sn_y e.2.2.1) ∈ wsL_law ∧ Cond.initialized (sn_y e.2.2.1).cls ∈ wsL_law := List.forall_mem_cons.mpr ⟨⟨by decide, by decide, by decide, rfl, by decide +kernel, (sn_n28 _ (List.mem_of_getElem? (i := 13) rfl)), (sn_n28 _ (List.mem_of_getElem? (i := 14) rfl)), (sn_n28 _ (List.mem_of_getElem? (i := 15) rfl)), (sn_n2 _ (List.mem_of_getElem? (i := 20) rfl))⟩, List.forall_mem_cons.mpr ⟨⟨by decide, by decide, by decide, rfl, by decide +kernel, (sn_n22 _ (List.mem_of_getElem? (i := 20) rfl)), (sn_n22 _ (List.mem_of_getElem? (i := 21) rfl)), (sn_n22 _ (List.mem_of_getElem? (i := 22) rfl)), (sn_n1 _ (List.mem_of_getElem? (i := 2) rfl))⟩, List.forall_mem_cons.mpr ⟨⟨by decide, by decide, by decide, rfl, by decide +kernel, (sn_n20 _ (List.mem_of_getElem? (i := 2) rfl)), (sn_n20 _ (List.mem_of_getElem? (i := 3) rfl)), (sn_n20 _ (List.mem_of_getElem? (i := 4) rfl)), (sn_n1 _ (List.mem_of_getElem? (i := 2) rfl))⟩, List.forall_mem_cons.mpr ⟨⟨by decide, by decide, by decide, rfl, by decide +kernel, (sn_n15 _ (List.mem_of_getElem? (i := 23) rfl)), (sn_n16 _ (List.mem_of_getElem? (i := 0) rfl)), (sn_n16 _ (List.mem_of_getElem? (i := 1) rfl)), (sn_n1 _ (List.mem_of_getElem? (i := 2) rfl))⟩, List.forall_mem_cons.mpr ⟨⟨by decide, by decide, by decide, rfl, by decide +kernel, (sn_n23 _ (List.mem_of_getElem? (i := 21) rfl)), (sn_n23 _ (List.mem_of_getElem? (i := 22) rfl)), (sn_n23 _ (List.mem_of_getElem? (i := 23) rfl)), (sn_n2 _ (List.mem_of_getElem? (i := 16) rfl))⟩, List.forall_mem_cons.mpr ⟨⟨by decide, by decide, by decide, rfl, by decide +kernel, (sn_n26 _ (List.mem_of_getElem? (i := 16) rfl)), (sn_n26 _ (List.mem_of_getElem? (i := 17) rfl)), (sn_n26 _ (List.mem_of_getElem? (i := 18) rfl)), (sn_n1 _ (List.mem_of_getElem? (i := 2) rfl))⟩, List.forall_mem_cons.mpr ⟨⟨by decide, by decide, by decide, rfl, by decide +kernel, (sn_n24 _ (List.mem_of_getElem? (i := 12) rfl)), (sn_n24 _ (List.mem_of_getElem? (i := 13) rfl)), (sn_n24 _ (List.mem_of_getElem? (i := 14) rfl)), (sn_n1 _ (List.mem_of_getElem? (i := 2) rfl))⟩, List.forall_mem_cons.mpr ⟨⟨by decide, by decide, by decide, rfl, by decide +kernel, (sn_n29 _ (List.mem_of_getElem? (i := 6) rfl)), (sn_n29 _ (List.mem_of_getElem? (i := 7) rfl)), (sn_n29 _ (List.mem_of_getElem? (i := 8) rfl)), (sn_n2 _ (List.mem_of_getElem? (i := 16) rfl))⟩, List.forall_mem_cons.mpr ⟨⟨by decide, by decide, by decide, rfl, by decide +kernel, (sn_n29 _ (List.mem_of_getElem? (i := 10) rfl)), (sn_n29 _ (List.mem_of_getElem? (i := 11) rfl)), (sn_n29 _ (List.mem_of_getElem? (i := 12) rfl)), (sn_n2 _ (List.mem_of_getElem? (i := 3) rfl))⟩, List.forall_mem_cons.mpr ⟨⟨by decide, by decide, by decide, rfl, by decide +kernel, (sn_n17 _ (List.mem_of_getElem? (i := 7) rfl)), (sn_n17 _ (List.mem_of_getElem? (i := 8) rfl)), (sn_n17 _ (List.mem_of_getElem? (i := 9) rfl)), (sn_n1 _ (List.mem_of_getElem? (i := 18) rfl))⟩, List.forall_mem_cons.mpr ⟨⟨by decide, by decide, by decide, rfl, by decide +kernel, (sn_n29 _ (List.mem_of_getElem? (i := 2) rfl)), (sn_n29 _ (List.mem_of_getElem? (i := 3) rfl)), (sn_n29 _ (List.mem_of_getElem? (i := 4) rfl)), (sn_n1 _ (List.mem_of_getElem? (i := 2) rfl))⟩, List.forall_mem_cons.mpr ⟨⟨by decide, by decide, by decide, rfl, by decide +kernel, (sn_n23 _ (List.mem_of_getElem? (i := 8) rfl)), (sn_n10 _ (List.mem_of_getElem? (i := 22) rfl)), (sn_n10 _ (List.mem_of_getElem? (i := 23) rfl)), (sn_n1 _ (List.mem_of_getElem? (i := 21) rfl))⟩, fun _ h => absurd h List.not_mem_nil⟩⟩⟩⟩⟩⟩⟩⟩⟩⟩⟩⟩
theorem sn_pvl_ok8 : ∀ e ∈ sn_pvl_8, e.2.2.1 < 129 ∧ e.2.2.1 ≠ 88 ∧ sn_oc e.2.2.1 < 10 ∧ (sn_y e.2.2.1).cls = sn_cn (sn_oc e.2.2.1) ∧ (parseMethodDescriptor (sn_y e.2.2.1).desc).map (fun d => d.parameters.length) = some e.2.2.2 ∧ Cond.methodLink (sn_cn e.1) e.2.1 (sn_y e.2.2.1) ∈ wsL_law ∧ Cond.instanceMethod (sn_y e.2.2.1) ∈ wsL_law ∧ Cond.selects (sn_y e.2.2.1).cls (sn_y e.2.2.1) (sn_y e.2.2.1) ∈ wsL_law ∧ Cond.initialized (sn_y e.2.2.1).cls ∈ wsL_law := List.forall_mem_cons.mpr ⟨⟨by decide, by decide, by decide, rfl, by decide +kernel, (sn_n20 _ (List.mem_of_getElem? (i := 13) rfl)), (sn_n15 _ (List.mem_of_getElem? (i := 20) rfl)), (sn_n15 _ (List.mem_of_getElem? (i := 21) rfl)), (sn_n1 _ (List.mem_of_getElem? (i := 18) rfl))⟩, List.forall_mem_cons.mpr ⟨⟨by decide, by decide, by decide, rfl, by decide +kernel, (sn_n20 _ (List.mem_of_getElem? (i := 14) rfl)), (sn_n20 _ (List.mem_of_getElem? (i := 15) rfl)), (sn_n20 _ (List.mem_of_getElem? (i := 16) rfl)), (sn_n2 _ (List.mem_of_getElem? (i := 16) rfl))⟩, List.forall_mem_cons.mpr ⟨⟨by decide, by decide, by decide, rfl, by decide +kernel, (sn_n20 _ (List.mem_of_getElem? (i := 18) rfl)), (sn_n20 _ (List.mem_of_getElem? (i := 19) rfl)), (sn_n20 _ (List.mem_of_getElem? (i := 20) rfl)), (sn_n2 _ (List.mem_of_getElem? (i := 20) rfl))⟩, List.forall_mem_cons.mpr ⟨⟨by decide, by decide, by decide, rfl, by decide +kernel, (sn_n26 _ (List.mem_of_getElem? (i := 20) rfl)), (sn_n26 _ (List.mem_of_getElem? (i := 21) rfl)), (sn_n26 _ (List.mem_of_getElem? (i := 22) rfl)), (sn_n2 _ (List.mem_of_getElem? (i := 20) rfl))⟩, List.forall_mem_cons.mpr ⟨⟨by decide, by decide, by decide, rfl, by decide +kernel, (sn_n24 _ (List.mem_of_getElem? (i := 20) rfl)), (sn_n24 _ (List.mem_of_getElem? (i := 21) rfl)), (sn_n24 _ (List.mem_of_getElem? (i := 22) rfl)), (sn_n2 _ (List.mem_of_getElem? (i := 20) rfl))⟩, List.forall_mem_cons.mpr ⟨⟨by decide, by decide, by decide, rfl, by decide +kernel, (sn_n10 _ (List.mem_of_getElem? (i := 12) rfl)), (sn_n10 _ (List.mem_of_getElem? (i := 13) rfl)), (sn_n10 _ (List.mem_of_getElem? (i := 14) rfl)), (sn_n2 _ (List.mem_of_getElem? (i := 0) rfl))⟩, List.forall_mem_cons.mpr ⟨⟨by decide, by decide, by decide, rfl, by decide +kernel, (sn_n14 _ (List.mem_of_getElem? (i := 4) rfl)), (sn_n14 _ (List.mem_of_getElem? (i := 5) rfl)), (sn_n14 _ (List.mem_of_getElem? (i := 6) rfl)), (sn_n2 _ (List.mem_of_getElem? (i := 3) rfl))⟩, List.forall_mem_cons.mpr ⟨⟨by decide, by decide, by decide, rfl, by decide +kernel, (sn_n14 _ (List.mem_of_getElem? (i := 20) rfl)), (sn_n14 _ (List.mem_of_getElem? (i := 21) rfl)), (sn_n14 _ (List.mem_of_getElem? (i := 22) rfl)), (sn_n2 _ (List.mem_of_getElem? (i := 3) rfl))⟩, List.forall_mem_cons.mpr ⟨⟨by decide, by decide, by decide, rfl, by decide +kernel, (sn_n15 _ (List.mem_of_getElem? (i := 1) rfl)), (sn_n15 _ (List.mem_of_getElem? (i := 2) rfl)), (sn_n15 _ (List.mem_of_getElem? (i := 3) rfl)), (sn_n2 _ (List.mem_of_getElem? (i := 16) rfl))⟩, List.forall_mem_cons.mpr ⟨⟨by decide, by decide, by decide, rfl, by decide +kernel, (sn_n8 _ (List.mem_of_getElem? (i := 0) rfl)), (sn_n8 _ (List.mem_of_getElem? (i := 1) rfl)), (sn_n8 _ (List.mem_of_getElem? (i := 2) rfl)), (sn_n1 _ (List.mem_of_getElem? (i := 2) rfl))⟩, List.forall_mem_cons.mpr ⟨⟨by decide, by decide, by decide, rfl, by decide +kernel, (sn_n8 _ (List.mem_of_getElem? (i := 20) rfl)), (sn_n8 _ (List.mem_of_getElem? (i := 21) rfl)), (sn_n8 _ (List.mem_of_getElem? (i := 22) rfl)), (sn_n1 _ (List.mem_of_getElem? (i := 2) rfl))⟩, List.forall_mem_cons.mpr ⟨⟨by decide, by decide, by decide, rfl, by decide +kernel, (sn_n9 _ (List.mem_of_getElem? (i := 6) rfl)), (sn_n9 _ (List.mem_of_getElem? (i := 7) rfl)), (sn_n9 _ (List.mem_of_getElem? (i := 8) rfl)), (sn_n1 _ (List.mem_of_getElem? (i := 2) rfl))⟩, fun _ h => absurd h List.not_mem_nil⟩⟩⟩⟩⟩⟩⟩⟩⟩⟩⟩⟩
theorem sn_pvl_ok9 : ∀ e ∈ sn_pvl_9, e.2.2.1 < 129 ∧ e.2.2.1 ≠ 88 ∧ sn_oc e.2.2.1 < 10 ∧ (sn_y e.2.2.1).cls = sn_cn (sn_oc e.2.2.1) ∧ (parseMethodDescriptor (sn_y e.2.2.1).desc).map (fun d => d.parameters.length) = some e.2.2.2 ∧ Cond.methodLink (sn_cn e.1) e.2.1 (sn_y e.2.2.1) ∈ wsL_law ∧ Cond.instanceMethod (sn_y e.2.2.1) ∈ wsL_law ∧ Cond.selects (sn_y e.2.2.1).cls (sn_y e.2.2.1) (sn_y e.2.2.1) ∈ wsL_law ∧ Cond.initialized (sn_y e.2.2.1).cls ∈ wsL_law := List.forall_mem_cons.mpr ⟨⟨by decide, by decide, by decide, rfl, by decide +kernel, (sn_n10 _ (List.mem_of_getElem? (i := 3) rfl)), (sn_n10 _ (List.mem_of_getElem? (i := 4) rfl)), (sn_n10 _ (List.mem_of_getElem? (i := 5) rfl)), (sn_n1 _ (List.mem_of_getElem? (i := 2) rfl))⟩, List.forall_mem_cons.mpr ⟨⟨by decide, by decide, by decide, rfl, by decide +kernel, (sn_n16 _ (List.mem_of_getElem? (i := 23) rfl)), (sn_n17 _ (List.mem_of_getElem? (i := 0) rfl)), (sn_n17 _ (List.mem_of_getElem? (i := 1) rfl)), (sn_n1 _ (List.mem_of_getElem? (i := 2) rfl))⟩, List.forall_mem_cons.mpr ⟨⟨by decide, by decide, by decide, rfl, by decide +kernel, (sn_n18 _ (List.mem_of_getElem? (i := 1) rfl)), (sn_n18 _ (List.mem_of_getElem? (i := 2) rfl)), (sn_n18 _ (List.mem_of_getElem? (i := 3) rfl)), (sn_n1 _ (List.mem_of_getElem? (i := 2) rfl))⟩, List.forall_mem_cons.mpr ⟨⟨by decide, by decide, by decide, rfl, by decide +kernel, (sn_n18 _ (List.mem_of_getElem? (i := 10) rfl)), (sn_n18 _ (List.mem_of_getElem? (i := 11) rfl)), (sn_n18 _ (List.mem_of_getElem? (i := 12) rfl)), (sn_n1 _ (List.mem_of_getElem? (i := 2) rfl))⟩, List.forall_mem_cons.mpr ⟨⟨by decide, by decide, by decide, rfl, by decide +kernel, (sn_n18 _ (List.mem_of_getElem? (i := 14) rfl)), (sn_n18 _ (List.mem_of_getElem? (i := 15) rfl)), (sn_n18 _ (List.mem_of_getElem? (i := 16) rfl)), (sn_n1 _ (List.mem_of_getElem? (i := 2) rfl))⟩, List.forall_mem_cons.mpr ⟨⟨by decide, by decide, by decide, rfl, by decide +kernel, (sn_n18 _ (List.mem_of_getElem? (i := 20) rfl)), (sn_n18 _ (List.mem_of_getElem? (i := 21) rfl)), (sn_n18 _ (List.mem_of_getElem? (i := 22) rfl)), (sn_n1 _ (List.mem_of_getElem? (i := 2) rfl))⟩, List.forall_mem_cons.mpr ⟨⟨by decide, by decide, by decide, rfl, by decide +kernel, (sn_n19 _ (List.mem_of_getElem? (i := 18) rfl)), (sn_n19 _ (List.mem_of_getElem? (i := 19) rfl)), (sn_n19 _ (List.mem_of_getElem? (i := 20) rfl)), (sn_n1 _ (List.mem_of_getElem? (i := 2) rfl))⟩, List.forall_mem_cons.mpr ⟨⟨by decide, by decide, by decide, rfl, by decide +kernel, (sn_n20 _ (List.mem_of_getElem? (i := 22) rfl)), (sn_n20 _ (List.mem_of_getElem? (i := 23) rfl)), (sn_n21 _ (List.mem_of_getElem? (i := 0) rfl)), (sn_n1 _ (List.mem_of_getElem? (i := 2) rfl))⟩, List.forall_mem_cons.mpr ⟨⟨by decide, by decide, by decide, rfl, by decide +kernel, (sn_n21 _ (List.mem_of_getElem? (i := 11) rfl)), (sn_n21 _ (List.mem_of_getElem? (i := 12) rfl)), (sn_n21 _ (List.mem_of_getElem? (i := 13) rfl)), (sn_n1 _ (List.mem_of_getElem? (i := 2) rfl))⟩, List.forall_mem_cons.mpr ⟨⟨by decide, by decide, by decide, rfl, by decide +kernel, (sn_n24 _ (List.mem_of_getElem? (i := 1) rfl)), (sn_n24 _ (List.mem_of_getElem? (i := 2) rfl)), (sn_n24 _ (List.mem_of_getElem? (i := 3) rfl)), (sn_n1 _ (List.mem_of_getElem? (i := 2) rfl))⟩, List.forall_mem_cons.mpr ⟨⟨by decide, by decide, by decide, rfl, by decide +kernel, (sn_n28 _ (List.mem_of_getElem? (i := 18) rfl)), (sn_n28 _ (List.mem_of_getElem? (i := 19) rfl)), (sn_n28 _ (List.mem_of_getElem? (i := 20) rfl)), (sn_n1 _ (List.mem_of_getElem? (i := 2) rfl))⟩, List.forall_mem_cons.mpr ⟨⟨by decide, by decide, by decide, rfl, by decide +kernel, (sn_n26 _ (List.mem_of_getElem? (i := 12) rfl)), (sn_n26 _ (List.mem_of_getElem? (i := 13) rfl)), (sn_n26 _ (List.mem_of_getElem? (i := 14) rfl)), (sn_n1 _ (List.mem_of_getElem? (i := 2) rfl))⟩, fun _ h => absurd h List.not_mem_nil⟩⟩⟩⟩⟩⟩⟩⟩⟩⟩⟩⟩
theorem sn_pvl_ok10 : ∀ e ∈ sn_pvl_10, e.2.2.1 < 129 ∧ e.2.2.1 ≠ 88 ∧ sn_oc e.2.2.1 < 10 ∧ (sn_y e.2.2.1).cls = sn_cn (sn_oc e.2.2.1) ∧ (parseMethodDescriptor (sn_y e.2.2.1).desc).map (fun d => d.parameters.length) = some e.2.2.2 ∧ Cond.methodLink (sn_cn e.1) e.2.1 (sn_y e.2.2.1) ∈ wsL_law ∧ Cond.instanceMethod (sn_y e.2.2.1) ∈ wsL_law ∧ Cond.selects (sn_y e.2.2.1).cls (sn_y e.2.2.1) (sn_y e.2.2.1) ∈ wsL_law ∧ Cond.initialized (sn_y e.2.2.1).cls ∈ wsL_law := List.forall_mem_cons.mpr ⟨⟨by decide, by decide, by decide, rfl, by decide +kernel, (sn_n24 _ (List.mem_of_getElem? (i := 8) rfl)), (sn_n24 _ (List.mem_of_getElem? (i := 9) rfl)), (sn_n24 _ (List.mem_of_getElem? (i := 10) rfl)), (sn_n1 _ (List.mem_of_getElem? (i := 2) rfl))⟩, List.forall_mem_cons.mpr ⟨⟨by decide, by decide, by decide, rfl, by decide +kernel, (sn_n29 _ (List.mem_of_getElem? (i := 18) rfl)), (sn_n29 _ (List.mem_of_getElem? (i := 19) rfl)), (sn_n29 _ (List.mem_of_getElem? (i := 20) rfl)), (sn_n1 _ (List.mem_of_getElem? (i := 2) rfl))⟩, List.forall_mem_cons.mpr ⟨⟨by decide, by decide, by decide, rfl, by decide +kernel, (sn_n22 _ (List.mem_of_getElem? (i := 11) rfl)), (sn_n22 _ (List.mem_of_getElem? (i := 12) rfl)), (sn_n22 _ (List.mem_of_getElem? (i := 13) rfl)), (sn_n1 _ (List.mem_of_getElem? (i := 2) rfl))⟩, List.forall_mem_cons.mpr ⟨⟨by decide, by decide, by decide, rfl, by decide +kernel, (sn_n22 _ (List.mem_of_getElem? (i := 16) rfl)), (sn_n22 _ (List.mem_of_getElem? (i := 17) rfl)), (sn_n22 _ (List.mem_of_getElem? (i := 18) rfl)), (sn_n1 _ (List.mem_of_getElem? (i := 2) rfl))⟩, List.forall_mem_cons.mpr ⟨⟨by decide, by decide, by decide, rfl, by decide +kernel, (sn_n23 _ (List.mem_of_getElem? (i := 9) rfl)), (sn_n23 _ (List.mem_of_getElem? (i := 10) rfl)), (sn_n23 _ (List.mem_of_getElem? (i := 11) rfl)), (sn_n1 _ (List.mem_of_getElem? (i := 2) rfl))⟩, List.forall_mem_cons.mpr ⟨⟨by decide, by decide, by decide, rfl, by decide +kernel, (sn_n23 _ (List.mem_of_getElem? (i := 17) rfl)), (sn_n23 _ (List.mem_of_getElem? (i := 18) rfl)), (sn_n23 _ (List.mem_of_getElem? (i := 19) rfl)), (sn_n1 _ (List.mem_of_getElem? (i := 2) rfl))⟩, List.forall_mem_cons.mpr ⟨⟨by decide, by decide, by decide, rfl, by decide +kernel, (sn_n25 _ (List.mem_of_getElem? (i := 2) rfl)), (sn_n25 _ (List.mem_of_getElem? (i := 3) rfl)), (sn_n25 _ (List.mem_of_getElem? (i := 4) rfl)), (sn_n1 _ (List.mem_of_getElem? (i := 2) rfl))⟩, List.forall_mem_cons.mpr ⟨⟨by decide, by decide, by decide, rfl, by decide +kernel, (sn_n25 _ (List.mem_of_getElem? (i := 19) rfl)), (sn_n25 _ (List.mem_of_getElem? (i := 20) rfl)), (sn_n25 _ (List.mem_of_getElem? (i := 21) rfl)), (sn_n1 _ (List.mem_of_getElem? (i := 2) rfl))⟩, List.forall_mem_cons.mpr ⟨⟨by decide, by decide, by decide, rfl, by decide +kernel, (sn_n26 _ (List.mem_of_getElem? (i := 0) rfl)), (sn_n26 _ (List.mem_of_getElem? (i := 1) rfl)), (sn_n26 _ (List.mem_of_getElem? (i := 2) rfl)), (sn_n1 _ (List.mem_of_getElem? (i := 2) rfl))⟩, List.forall_mem_cons.mpr ⟨⟨by decide, by decide, by decide, rfl, by decide +kernel, (sn_n27 _ (List.mem_of_getElem? (i := 9) rfl)), (sn_n27 _ (List.mem_of_getElem? (i := 10) rfl)), (sn_n27 _ (List.mem_of_getElem? (i := 11) rfl)), (sn_n1 _ (List.mem_of_getElem? (i := 2) rfl))⟩, List.forall_mem_cons.mpr ⟨⟨by decide, by decide, by decide, rfl, by decide +kernel, (sn_n27 _ (List.mem_of_getElem? (i := 17) rfl)), (sn_n27 _ (List.mem_of_getElem? (i := 18) rfl)), (sn_n27 _ (List.mem_of_getElem? (i := 19) rfl)), (sn_n1 _ (List.mem_of_getElem? (i := 2) rfl))⟩, fun _ h => absurd h List.not_mem_nil⟩⟩⟩⟩⟩⟩⟩⟩⟩⟩⟩
theorem sn_pvl_ok : ∀ e ∈ sn_pvl, e.2.2.1 < 129 ∧ e.2.2.1 ≠ 88 ∧ sn_oc e.2.2.1 < 10 ∧ (sn_y e.2.2.1).cls = sn_cn (sn_oc e.2.2.1) ∧ (parseMethodDescriptor (sn_y e.2.2.1).desc).map (fun d => d.parameters.length) = some e.2.2.2 ∧ Cond.methodLink (sn_cn e.1) e.2.1 (sn_y e.2.2.1) ∈ wsL_law ∧ Cond.instanceMethod (sn_y e.2.2.1) ∈ wsL_law ∧ Cond.selects (sn_y e.2.2.1).cls (sn_y e.2.2.1) (sn_y e.2.2.1) ∈ wsL_law ∧ Cond.initialized (sn_y e.2.2.1).cls ∈ wsL_law := List.forall_mem_append.mpr ⟨sn_pvl_ok1, List.forall_mem_append.mpr ⟨sn_pvl_ok2, List.forall_mem_append.mpr ⟨sn_pvl_ok3, List.forall_mem_append.mpr ⟨sn_pvl_ok4, List.forall_mem_append.mpr ⟨sn_pvl_ok5, List.forall_mem_append.mpr ⟨sn_pvl_ok6, List.forall_mem_append.mpr ⟨sn_pvl_ok7, List.forall_mem_append.mpr ⟨sn_pvl_ok8, List.forall_mem_append.mpr ⟨sn_pvl_ok9, sn_pvl_ok10⟩⟩⟩⟩⟩⟩⟩⟩⟩
theorem sn_psl_ok1 : ∀ e ∈ sn_psl_1, e.2.2.1 < 129 ∧ sn_oc e.2.2.1 < 11 ∧ (parseMethodDescriptor (sn_y e.2.2.1).desc).map (fun d => d.parameters.length) = some e.2.2.2 ∧ (Cond.methodLink (sn_cn e.1) e.2.1 (sn_y e.2.2.1) ∈ wsL_law ∨ (e.1, e.2.1, e.2.2.1) ∈ sn_nl) ∧ Cond.static (sn_y e.2.2.1) ∈ wsL_law ∧ Cond.initialized (sn_y e.2.2.1).cls ∈ wsL_law := List.forall_mem_cons.mpr ⟨⟨by decide, by decide, by decide +kernel, (Or.inl (sn_n11 _ (List.mem_of_getElem? (i := 1) rfl))), (sn_n11 _ (List.mem_of_getElem? (i := 2) rfl)), (sn_n1 _ (List.mem_of_getElem? (i := 21) rfl))⟩, List.forall_mem_cons.mpr ⟨⟨by decide, by decide, by decide +kernel, (Or.inr (by decide)), (sn_n19 _ (List.mem_of_getElem? (i := 10) rfl)), (sn_n1 _ (List.mem_of_getElem? (i := 2) rfl))⟩, List.forall_mem_cons.mpr ⟨⟨by decide, by decide, by decide +kernel, (Or.inr (by decide)), (sn_n11 _ (List.mem_of_getElem? (i := 21) rfl)), (sn_n1 _ (List.mem_of_getElem? (i := 2) rfl))⟩, List.forall_mem_cons.mpr ⟨⟨by decide, by decide, by decide +kernel, (Or.inl (sn_n11 _ (List.mem_of_getElem? (i := 16) rfl))), (sn_n11 _ (List.mem_of_getElem? (i := 2) rfl)), (sn_n1 _ (List.mem_of_getElem? (i := 21) rfl))⟩, List.forall_mem_cons.mpr ⟨⟨by decide, by decide, by decide +kernel, (Or.inl (sn_n11 _ (List.mem_of_getElem? (i := 8) rfl))), (sn_n11 _ (List.mem_of_getElem? (i := 9) rfl)), (sn_n2 _ (List.mem_of_getElem? (i := 0) rfl))⟩, List.forall_mem_cons.mpr ⟨⟨by decide, by decide, by decide +kernel, (Or.inr (by decide)), (sn_n12 _ (List.mem_of_getElem? (i := 12) rfl)), (sn_n1 _ (List.mem_of_getElem? (i := 2) rfl))⟩, List.forall_mem_cons.mpr ⟨⟨by decide, by decide, by decide +kernel, (Or.inr (by decide)), (sn_n11 _ (List.mem_of_getElem? (i := 21) rfl)), (sn_n1 _ (List.mem_of_getElem? (i := 2) rfl))⟩, List.forall_mem_cons.mpr ⟨⟨by decide, by decide, by decide +kernel, (Or.inl (sn_n14 _ (List.mem_of_getElem? (i := 16) rfl))), (sn_n14 _ (List.mem_of_getElem? (i := 17) rfl)), (sn_n2 _ (List.mem_of_getElem? (i := 3) rfl))⟩, List.forall_mem_cons.mpr ⟨⟨by decide, by decide, by decide +kernel, (Or.inr (by decide)), (sn_n12 _ (List.mem_of_getElem? (i := 12) rfl)), (sn_n1 _ (List.mem_of_getElem? (i := 2) rfl))⟩, List.forall_mem_cons.mpr ⟨⟨by decide, by decide, by decide +kernel, (Or.inr (by decide)), (sn_n11 _ (List.mem_of_getElem? (i := 21) rfl)), (sn_n1 _ (List.mem_of_getElem? (i := 2) rfl))⟩, List.forall_mem_cons.mpr ⟨⟨by decide, by decide, by decide +kernel, (Or.inr (by decide)), (sn_n12 _ (List.mem_of_getElem? (i := 12) rfl)), (sn_n1 _ (List.mem_of_getElem? (i := 2) rfl))⟩, List.forall_mem_cons.mpr ⟨⟨by decide, by decide, by decide +kernel, (Or.inr (by decide)), (sn_n8 _ (List.mem_of_getElem? (i := 10) rfl)), (sn_n1 _ (List.mem_of_getElem? (i := 2) rfl))⟩, fun _ h => absurd h List.not_mem_nil⟩⟩⟩⟩⟩⟩⟩⟩⟩⟩⟩⟩
theorem sn_psl_ok2 : ∀ e ∈ sn_psl_2, e.2.2.1 < 129 ∧ sn_oc e.2.2.1 < 11 ∧ (parseMethodDescriptor (sn_y e.2.2.1).desc).map (fun d => d.parameters.length) = some e.2.2.2 ∧ (Cond.methodLink (sn_cn e.1) e.2.1 (sn_y e.2.2.1) ∈ wsL_law ∨ (e.1, e.2.1, e.2.2.1) ∈ sn_nl) ∧ Cond.static (sn_y e.2.2.1) ∈ wsL_law ∧ Cond.initialized (sn_y e.2.2.1).cls ∈ wsL_law := List.forall_mem_cons.mpr ⟨⟨by decide, by decide, by decide +kernel, (Or.inl (sn_n8 _ (List.mem_of_getElem? (i := 9) rfl))), (sn_n8 _ (List.mem_of_getElem? (i := 10) rfl)), (sn_n1 _ (List.mem_of_getElem? (i := 2) rfl))⟩, List.forall_mem_cons.mpr ⟨⟨by decide, by decide, by decide +kernel, (Or.inl (sn_n19 _ (List.mem_of_getElem? (i := 9) rfl))), (sn_n19 _ (List.mem_of_getElem? (i := 10) rfl)), (sn_n1 _ (List.mem_of_getElem? (i := 2) rfl))⟩, List.forall_mem_cons.mpr ⟨⟨by decide, by decide, by decide +kernel, (Or.inl (sn_n7 _ (List.mem_of_getElem? (i := 15) rfl))), (sn_n7 _ (List.mem_of_getElem? (i := 16) rfl)), (sn_n7 _ (List.mem_of_getElem? (i := 17) rfl))⟩, List.forall_mem_cons.mpr ⟨⟨by decide, by decide, by decide +kernel, (Or.inl (sn_n7 _ (List.mem_of_getElem? (i := 20) rfl))), (sn_n7 _ (List.mem_of_getElem? (i := 21) rfl)), (sn_n7 _ (List.mem_of_getElem? (i := 17) rfl))⟩, List.forall_mem_cons.mpr ⟨⟨by decide, by decide, by decide +kernel, (Or.inl (sn_n22 _ (List.mem_of_getElem? (i := 4) rfl))), (sn_n22 _ (List.mem_of_getElem? (i := 5) rfl)), (sn_n7 _ (List.mem_of_getElem? (i := 17) rfl))⟩, List.forall_mem_cons.mpr ⟨⟨by decide, by decide, by decide +kernel, (Or.inl (sn_n24 _ (List.mem_of_getElem? (i := 5) rfl))), (sn_n24 _ (List.mem_of_getElem? (i := 6) rfl)), (sn_n7 _ (List.mem_of_getElem? (i := 17) rfl))⟩, List.forall_mem_cons.mpr ⟨⟨by decide, by decide, by decide +kernel, (Or.inl (sn_n27 _ (List.mem_of_getElem? (i := 6) rfl))), (sn_n27 _ (List.mem_of_getElem? (i := 7) rfl)), (sn_n7 _ (List.mem_of_getElem? (i := 17) rfl))⟩, List.forall_mem_cons.mpr ⟨⟨by decide, by decide, by decide +kernel, (Or.inl (sn_n22 _ (List.mem_of_getElem? (i := 7) rfl))), (sn_n22 _ (List.mem_of_getElem? (i := 8) rfl)), (sn_n7 _ (List.mem_of_getElem? (i := 17) rfl))⟩, fun _ h => absurd h List.not_mem_nil⟩⟩⟩⟩⟩⟩⟩⟩
theorem sn_psl_ok : ∀ e ∈ sn_psl, e.2.2.1 < 129 ∧ sn_oc e.2.2.1 < 11 ∧ (parseMethodDescriptor (sn_y e.2.2.1).desc).map (fun d => d.parameters.length) = some e.2.2.2 ∧ (Cond.methodLink (sn_cn e.1) e.2.1 (sn_y e.2.2.1) ∈ wsL_law ∨ (e.1, e.2.1, e.2.2.1) ∈ sn_nl) ∧ Cond.static (sn_y e.2.2.1) ∈ wsL_law ∧ Cond.initialized (sn_y e.2.2.1).cls ∈ wsL_law := List.forall_mem_append.mpr ⟨sn_psl_ok1, sn_psl_ok2⟩
theorem sn_pcl_ok1 : ∀ e ∈ sn_pcl_1, (e.2.2.1 = 200 ∧ Cond.methodLink (sn_cn e.1) e.2.1 objectInit ∈ wsL_law) ∨ (e.2.2.1 < 10 ∧ (sn_y e.2.2.1).name = "<init>" ∧ (parseMethodDescriptor (sn_y e.2.2.1).desc).map (fun d => d.parameters.length) = some e.2.2.2 ∧ (Cond.methodLink (sn_cn e.1) e.2.1 (sn_y e.2.2.1) ∈ wsL_law ∨ (e.1, e.2.1, e.2.2.1) ∈ sn_nl) ∧ Cond.instanceMethod (sn_y e.2.2.1) ∈ wsL_law ∧ Cond.initialized (sn_y e.2.2.1).cls ∈ wsL_law) := List.forall_mem_cons.mpr ⟨Or.inl ⟨rfl, (sn_n4 _ (List.mem_of_getElem? (i := 13) rfl))⟩, List.forall_mem_cons.mpr ⟨Or.inl ⟨rfl, (sn_n7 _ (List.mem_of_getElem? (i := 4) rfl))⟩, List.forall_mem_cons.mpr ⟨Or.inl ⟨rfl, (sn_n4 _ (List.mem_of_getElem? (i := 23) rfl))⟩, List.forall_mem_cons.mpr ⟨Or.inl ⟨rfl, (sn_n3 _ (List.mem_of_getElem? (i := 7) rfl))⟩, List.forall_mem_cons.mpr ⟨Or.inl ⟨rfl, (sn_n5 _ (List.mem_of_getElem? (i := 15) rfl))⟩, List.forall_mem_cons.mpr ⟨Or.inl ⟨rfl, (sn_n6 _ (List.mem_of_getElem? (i := 15) rfl))⟩, List.forall_mem_cons.mpr ⟨Or.inl ⟨rfl, (sn_n6 _ (List.mem_of_getElem? (i := 6) rfl))⟩, List.forall_mem_cons.mpr ⟨Or.inl ⟨rfl, (sn_n3 _ (List.mem_of_getElem? (i := 16) rfl))⟩, List.forall_mem_cons.mpr ⟨Or.inl ⟨rfl, (sn_n4 _ (List.mem_of_getElem? (i := 4) rfl))⟩, List.forall_mem_cons.mpr ⟨Or.inl ⟨rfl, (sn_n1 _ (List.mem_of_getElem? (i := 7) rfl))⟩, List.forall_mem_cons.mpr ⟨Or.inr ⟨by decide, rfl, by decide +kernel, (Or.inr (by decide)), (sn_n3 _ (List.mem_of_getElem? (i := 5) rfl)), (sn_n1 _ (List.mem_of_getElem? (i := 12) rfl))⟩, List.forall_mem_cons.mpr ⟨Or.inr ⟨by decide, rfl, by decide +kernel, (Or.inr (by decide)), (sn_n3 _ (List.mem_of_getElem? (i := 14) rfl)), (sn_n1 _ (List.mem_of_getElem? (i := 15) rfl))⟩, fun _ h => absurd h List.not_mem_nil⟩⟩⟩⟩⟩⟩⟩⟩⟩⟩⟩⟩
theorem sn_pcl_ok2 : ∀ e ∈ sn_pcl_2, (e.2.2.1 = 200 ∧ Cond.methodLink (sn_cn e.1) e.2.1 objectInit ∈ wsL_law) ∨ (e.2.2.1 < 10 ∧ (sn_y e.2.2.1).name = "<init>" ∧ (parseMethodDescriptor (sn_y e.2.2.1).desc).map (fun d => d.parameters.length) = some e.2.2.2 ∧ (Cond.methodLink (sn_cn e.1) e.2.1 (sn_y e.2.2.1) ∈ wsL_law ∨ (e.1, e.2.1, e.2.2.1) ∈ sn_nl) ∧ Cond.instanceMethod (sn_y e.2.2.1) ∈ wsL_law ∧ Cond.initialized (sn_y e.2.2.1).cls ∈ wsL_law) := List.forall_mem_cons.mpr ⟨Or.inr ⟨by decide, rfl, by decide +kernel, (Or.inl (sn_n4 _ (List.mem_of_getElem? (i := 1) rfl))), (sn_n4 _ (List.mem_of_getElem? (i := 2) rfl)), (sn_n1 _ (List.mem_of_getElem? (i := 18) rfl))⟩, List.forall_mem_cons.mpr ⟨Or.inr ⟨by decide, rfl, by decide +kernel, (Or.inl (sn_n4 _ (List.mem_of_getElem? (i := 10) rfl))), (sn_n4 _ (List.mem_of_getElem? (i := 11) rfl)), (sn_n1 _ (List.mem_of_getElem? (i := 21) rfl))⟩, List.forall_mem_cons.mpr ⟨Or.inr ⟨by decide, rfl, by decide +kernel, (Or.inl (sn_n4 _ (List.mem_of_getElem? (i := 20) rfl))), (sn_n4 _ (List.mem_of_getElem? (i := 21) rfl)), (sn_n2 _ (List.mem_of_getElem? (i := 0) rfl))⟩, List.forall_mem_cons.mpr ⟨Or.inr ⟨by decide, rfl, by decide +kernel, (Or.inl (sn_n5 _ (List.mem_of_getElem? (i := 12) rfl))), (sn_n5 _ (List.mem_of_getElem? (i := 13) rfl)), (sn_n2 _ (List.mem_of_getElem? (i := 3) rfl))⟩, List.forall_mem_cons.mpr ⟨Or.inr ⟨by decide, rfl, by decide +kernel, (Or.inr (by decide)), (sn_n6 _ (List.mem_of_getElem? (i := 4) rfl)), (sn_n2 _ (List.mem_of_getElem? (i := 6) rfl))⟩, List.forall_mem_cons.mpr ⟨Or.inr ⟨by decide, rfl, by decide +kernel, (Or.inl (sn_n6 _ (List.mem_of_getElem? (i := 12) rfl))), (sn_n6 _ (List.mem_of_getElem? (i := 13) rfl)), (sn_n2 _ (List.mem_of_getElem? (i := 16) rfl))⟩, List.forall_mem_cons.mpr ⟨Or.inr ⟨by decide, rfl, by decide +kernel, (Or.inl (sn_n7 _ (List.mem_of_getElem? (i := 1) rfl))), (sn_n7 _ (List.mem_of_getElem? (i := 2) rfl)), (sn_n2 _ (List.mem_of_getElem? (i := 20) rfl))⟩, List.forall_mem_cons.mpr ⟨Or.inr ⟨by decide, rfl, by decide +kernel, (Or.inl (sn_n1 _ (List.mem_of_getElem? (i := 4) rfl))), (sn_n1 _ (List.mem_of_getElem? (i := 5) rfl)), (sn_n1 _ (List.mem_of_getElem? (i := 2) rfl))⟩, fun _ h => absurd h List.not_mem_nil⟩⟩⟩⟩⟩⟩⟩⟩
theorem sn_pcl_ok : ∀ e ∈ sn_pcl, (e.2.2.1 = 200 ∧ Cond.methodLink (sn_cn e.1) e.2.1 objectInit ∈ wsL_law) ∨ (e.2.2.1 < 10 ∧ (sn_y e.2.2.1).name = "<init>" ∧ (parseMethodDescriptor (sn_y e.2.2.1).desc).map (fun d => d.parameters.length) = some e.2.2.2 ∧ (Cond.methodLink (sn_cn e.1) e.2.1 (sn_y e.2.2.1) ∈ wsL_law ∨ (e.1, e.2.1, e.2.2.1) ∈ sn_nl) ∧ Cond.instanceMethod (sn_y e.2.2.1) ∈ wsL_law ∧ Cond.initialized (sn_y e.2.2.1).cls ∈ wsL_law) := List.forall_mem_append.mpr ⟨sn_pcl_ok1, sn_pcl_ok2⟩
theorem sn_pxl_ok1 : ∀ e ∈ sn_pxl_1, e.2.2 < 3 ∧ Cond.methodLink (sn_cn e.1) e.2.1 (if e.2.2 = 0 then Lib.Math.abs.name else if e.2.2 = 1 then Lib.Math.max.name else Lib.Math.min.name) ∈ wsL_law := List.forall_mem_cons.mpr ⟨⟨by decide, (sn_n12 _ (List.mem_of_getElem? (i := 22) rfl))⟩, List.forall_mem_cons.mpr ⟨⟨by decide, (sn_n25 _ (List.mem_of_getElem? (i := 14) rfl))⟩, List.forall_mem_cons.mpr ⟨⟨by decide, (sn_n27 _ (List.mem_of_getElem? (i := 0) rfl))⟩, List.forall_mem_cons.mpr ⟨⟨by decide, (sn_n21 _ (List.mem_of_getElem? (i := 7) rfl))⟩, List.forall_mem_cons.mpr ⟨⟨by decide, (sn_n21 _ (List.mem_of_getElem? (i := 10) rfl))⟩, List.forall_mem_cons.mpr ⟨⟨by decide, (sn_n16 _ (List.mem_of_getElem? (i := 15) rfl))⟩, fun _ h => absurd h List.not_mem_nil⟩⟩⟩⟩⟩⟩
theorem sn_pxl_ok : ∀ e ∈ sn_pxl, e.2.2 < 3 ∧ Cond.methodLink (sn_cn e.1) e.2.1 (if e.2.2 = 0 then Lib.Math.abs.name else if e.2.2 = 1 then Lib.Math.max.name else Lib.Math.min.name) ∈ wsL_law := sn_pxl_ok1
theorem sn_code_0 : Cond.code (sn_y 0) (sn_bc 0) (sn_ml 0) (sn_rt 0) ∈ wsL_law := (sn_n1 _ (List.mem_of_getElem? (i := 6) rfl))
theorem sn_code_1 : Cond.code (sn_y 1) (sn_bc 1) (sn_ml 1) (sn_rt 1) ∈ wsL_law := (sn_n3 _ (List.mem_of_getElem? (i := 6) rfl))
theorem sn_code_2 : Cond.code (sn_y 2) (sn_bc 2) (sn_ml 2) (sn_rt 2) ∈ wsL_law := (sn_n3 _ (List.mem_of_getElem? (i := 15) rfl))
theorem sn_code_3 : Cond.code (sn_y 3) (sn_bc 3) (sn_ml 3) (sn_rt 3) ∈ wsL_law := (sn_n4 _ (List.mem_of_getElem? (i := 3) rfl))
theorem sn_code_4 : Cond.code (sn_y 4) (sn_bc 4) (sn_ml 4) (sn_rt 4) ∈ wsL_law := (sn_n4 _ (List.mem_of_getElem? (i := 12) rfl))
theorem sn_code_5 : Cond.code (sn_y 5) (sn_bc 5) (sn_ml 5) (sn_rt 5) ∈ wsL_law := (sn_n4 _ (List.mem_of_getElem? (i := 22) rfl))
theorem sn_code_6 : Cond.code (sn_y 6) (sn_bc 6) (sn_ml 6) (sn_rt 6) ∈ wsL_law := (sn_n5 _ (List.mem_of_getElem? (i := 14) rfl))
theorem sn_code_7 : Cond.code (sn_y 7) (sn_bc 7) (sn_ml 7) (sn_rt 7) ∈ wsL_law := (sn_n6 _ (List.mem_of_getElem? (i := 5) rfl))
theorem sn_code_8 : Cond.code (sn_y 8) (sn_bc 8) (sn_ml 8) (sn_rt 8) ∈ wsL_law := (sn_n6 _ (List.mem_of_getElem? (i := 14) rfl))
theorem sn_code_9 : Cond.code (sn_y 9) (sn_bc 9) (sn_ml 9) (sn_rt 9) ∈ wsL_law := (sn_n7 _ (List.mem_of_getElem? (i := 3) rfl))
theorem sn_code_10 : Cond.code (sn_y 10) (sn_bc 10) (sn_ml 10) (sn_rt 10) ∈ wsL_law := (sn_n7 _ (List.mem_of_getElem? (i := 18) rfl))
theorem sn_code_11 : Cond.code (sn_y 11) (sn_bc 11) (sn_ml 11) (sn_rt 11) ∈ wsL_law := (sn_n7 _ (List.mem_of_getElem? (i := 22) rfl))
theorem sn_code_12 : Cond.code (sn_y 12) (sn_bc 12) (sn_ml 12) (sn_rt 12) ∈ wsL_law := (sn_n8 _ (List.mem_of_getElem? (i := 3) rfl))
theorem sn_code_13 : Cond.code (sn_y 13) (sn_bc 13) (sn_ml 13) (sn_rt 13) ∈ wsL_law := (sn_n8 _ (List.mem_of_getElem? (i := 11) rfl))
theorem sn_code_14 : Cond.code (sn_y 14) (sn_bc 14) (sn_ml 14) (sn_rt 14) ∈ wsL_law := (sn_n8 _ (List.mem_of_getElem? (i := 15) rfl))
theorem sn_code_15 : Cond.code (sn_y 15) (sn_bc 15) (sn_ml 15) (sn_rt 15) ∈ wsL_law := (sn_n8 _ (List.mem_of_getElem? (i := 19) rfl))
theorem sn_code_16 : Cond.code (sn_y 16) (sn_bc 16) (sn_ml 16) (sn_rt 16) ∈ wsL_law := (sn_n8 _ (List.mem_of_getElem? (i := 23) rfl))
theorem sn_code_17 : Cond.code (sn_y 17) (sn_bc 17) (sn_ml 17) (sn_rt 17) ∈ wsL_law := (sn_n9 _ (List.mem_of_getElem? (i := 9) rfl))
theorem sn_code_18 : Cond.code (sn_y 18) (sn_bc 18) (sn_ml 18) (sn_rt 18) ∈ wsL_law := (sn_n9 _ (List.mem_of_getElem? (i := 15) rfl))
theorem sn_code_19 : Cond.code (sn_y 19) (sn_bc 19) (sn_ml 19) (sn_rt 19) ∈ wsL_law := (sn_n9 _ (List.mem_of_getElem? (i := 21) rfl))
theorem sn_code_20 : Cond.code (sn_y 20) (sn_bc 20) (sn_ml 20) (sn_rt 20) ∈ wsL_law := (sn_n10 _ (List.mem_of_getElem? (i := 1) rfl))
theorem sn_code_21 : Cond.code (sn_y 21) (sn_bc 21) (sn_ml 21) (sn_rt 21) ∈ wsL_law := (sn_n10 _ (List.mem_of_getElem? (i := 6) rfl))
theorem sn_code_22 : Cond.code (sn_y 22) (sn_bc 22) (sn_ml 22) (sn_rt 22) ∈ wsL_law := (sn_n10 _ (List.mem_of_getElem? (i := 10) rfl))
theorem sn_code_23 : Cond.code (sn_y 23) (sn_bc 23) (sn_ml 23) (sn_rt 23) ∈ wsL_law := (sn_n10 _ (List.mem_of_getElem? (i := 15) rfl))
theorem sn_code_24 : Cond.code (sn_y 24) (sn_bc 24) (sn_ml 24) (sn_rt 24) ∈ wsL_law := (sn_n10 _ (List.mem_of_getElem? (i := 20) rfl))
theorem sn_code_25 : Cond.code (sn_y 25) (sn_bc 25) (sn_ml 25) (sn_rt 25) ∈ wsL_law := (sn_n11 _ (List.mem_of_getElem? (i := 0) rfl))
theorem sn_code_26 : Cond.code (sn_y 26) (sn_bc 26) (sn_ml 26) (sn_rt 26) ∈ wsL_law := (sn_n11 _ (List.mem_of_getElem? (i := 3) rfl))
theorem sn_code_27 : Cond.code (sn_y 27) (sn_bc 27) (sn_ml 27) (sn_rt 27) ∈ wsL_law := (sn_n11 _ (List.mem_of_getElem? (i := 7) rfl))
theorem sn_code_28 : Cond.code (sn_y 28) (sn_bc 28) (sn_ml 28) (sn_rt 28) ∈ wsL_law := (sn_n11 _ (List.mem_of_getElem? (i := 10) rfl))
theorem sn_code_29 : Cond.code (sn_y 29) (sn_bc 29) (sn_ml 29) (sn_rt 29) ∈ wsL_law := (sn_n11 _ (List.mem_of_getElem? (i := 14) rfl))
theorem sn_code_30 : Cond.code (sn_y 30) (sn_bc 30) (sn_ml 30) (sn_rt 30) ∈ wsL_law := (sn_n11 _ (List.mem_of_getElem? (i := 20) rfl))
theorem sn_code_31 : Cond.code (sn_y 31) (sn_bc 31) (sn_ml 31) (sn_rt 31) ∈ wsL_law := (sn_n11 _ (List.mem_of_getElem? (i := 22) rfl))
theorem sn_code_32 : Cond.code (sn_y 32) (sn_bc 32) (sn_ml 32) (sn_rt 32) ∈ wsL_law := (sn_n12 _ (List.mem_of_getElem? (i := 3) rfl))
theorem sn_code_33 : Cond.code (sn_y 33) (sn_bc 33) (sn_ml 33) (sn_rt 33) ∈ wsL_law := (sn_n12 _ (List.mem_of_getElem? (i := 7) rfl))
theorem sn_code_34 : Cond.code (sn_y 34) (sn_bc 34) (sn_ml 34) (sn_rt 34) ∈ wsL_law := (sn_n12 _ (List.mem_of_getElem? (i := 11) rfl))
theorem sn_code_35 : Cond.code (sn_y 35) (sn_bc 35) (sn_ml 35) (sn_rt 35) ∈ wsL_law := (sn_n12 _ (List.mem_of_getElem? (i := 13) rfl))
theorem sn_code_36 : Cond.code (sn_y 36) (sn_bc 36) (sn_ml 36) (sn_rt 36) ∈ wsL_law := (sn_n12 _ (List.mem_of_getElem? (i := 17) rfl))
theorem sn_code_37 : Cond.code (sn_y 37) (sn_bc 37) (sn_ml 37) (sn_rt 37) ∈ wsL_law := (sn_n12 _ (List.mem_of_getElem? (i := 21) rfl))
theorem sn_code_38 : Cond.code (sn_y 38) (sn_bc 38) (sn_ml 38) (sn_rt 38) ∈ wsL_law := (sn_n13 _ (List.mem_of_getElem? (i := 1) rfl))
theorem sn_code_39 : Cond.code (sn_y 39) (sn_bc 39) (sn_ml 39) (sn_rt 39) ∈ wsL_law := (sn_n13 _ (List.mem_of_getElem? (i := 5) rfl))
theorem sn_code_40 : Cond.code (sn_y 40) (sn_bc 40) (sn_ml 40) (sn_rt 40) ∈ wsL_law := (sn_n13 _ (List.mem_of_getElem? (i := 9) rfl))
theorem sn_code_41 : Cond.code (sn_y 41) (sn_bc 41) (sn_ml 41) (sn_rt 41) ∈ wsL_law := (sn_n13 _ (List.mem_of_getElem? (i := 13) rfl))
theorem sn_code_42 : Cond.code (sn_y 42) (sn_bc 42) (sn_ml 42) (sn_rt 42) ∈ wsL_law := (sn_n13 _ (List.mem_of_getElem? (i := 17) rfl))
theorem sn_code_43 : Cond.code (sn_y 43) (sn_bc 43) (sn_ml 43) (sn_rt 43) ∈ wsL_law := (sn_n13 _ (List.mem_of_getElem? (i := 22) rfl))
theorem sn_code_44 : Cond.code (sn_y 44) (sn_bc 44) (sn_ml 44) (sn_rt 44) ∈ wsL_law := (sn_n14 _ (List.mem_of_getElem? (i := 3) rfl))
theorem sn_code_45 : Cond.code (sn_y 45) (sn_bc 45) (sn_ml 45) (sn_rt 45) ∈ wsL_law := (sn_n14 _ (List.mem_of_getElem? (i := 7) rfl))
theorem sn_code_46 : Cond.code (sn_y 46) (sn_bc 46) (sn_ml 46) (sn_rt 46) ∈ wsL_law := (sn_n14 _ (List.mem_of_getElem? (i := 11) rfl))
theorem sn_code_47 : Cond.code (sn_y 47) (sn_bc 47) (sn_ml 47) (sn_rt 47) ∈ wsL_law := (sn_n14 _ (List.mem_of_getElem? (i := 15) rfl))
theorem sn_code_48 : Cond.code (sn_y 48) (sn_bc 48) (sn_ml 48) (sn_rt 48) ∈ wsL_law := (sn_n14 _ (List.mem_of_getElem? (i := 18) rfl))
theorem sn_code_49 : Cond.code (sn_y 49) (sn_bc 49) (sn_ml 49) (sn_rt 49) ∈ wsL_law := (sn_n14 _ (List.mem_of_getElem? (i := 23) rfl))
theorem sn_code_50 : Cond.code (sn_y 50) (sn_bc 50) (sn_ml 50) (sn_rt 50) ∈ wsL_law := (sn_n15 _ (List.mem_of_getElem? (i := 4) rfl))
theorem sn_code_51 : Cond.code (sn_y 51) (sn_bc 51) (sn_ml 51) (sn_rt 51) ∈ wsL_law := (sn_n15 _ (List.mem_of_getElem? (i := 8) rfl))
theorem sn_code_52 : Cond.code (sn_y 52) (sn_bc 52) (sn_ml 52) (sn_rt 52) ∈ wsL_law := (sn_n15 _ (List.mem_of_getElem? (i := 12) rfl))
theorem sn_code_53 : Cond.code (sn_y 53) (sn_bc 53) (sn_ml 53) (sn_rt 53) ∈ wsL_law := (sn_n15 _ (List.mem_of_getElem? (i := 18) rfl))
theorem sn_code_54 : Cond.code (sn_y 54) (sn_bc 54) (sn_ml 54) (sn_rt 54) ∈ wsL_law := (sn_n15 _ (List.mem_of_getElem? (i := 22) rfl))
theorem sn_code_55 : Cond.code (sn_y 55) (sn_bc 55) (sn_ml 55) (sn_rt 55) ∈ wsL_law := (sn_n16 _ (List.mem_of_getElem? (i := 2) rfl))
theorem sn_code_56 : Cond.code (sn_y 56) (sn_bc 56) (sn_ml 56) (sn_rt 56) ∈ wsL_law := (sn_n16 _ (List.mem_of_getElem? (i := 9) rfl))
theorem sn_code_57 : Cond.code (sn_y 57) (sn_bc 57) (sn_ml 57) (sn_rt 57) ∈ wsL_law := (sn_n16 _ (List.mem_of_getElem? (i := 13) rfl))
theorem sn_code_58 : Cond.code (sn_y 58) (sn_bc 58) (sn_ml 58) (sn_rt 58) ∈ wsL_law := (sn_n16 _ (List.mem_of_getElem? (i := 17) rfl))
theorem sn_code_59 : Cond.code (sn_y 59) (sn_bc 59) (sn_ml 59) (sn_rt 59) ∈ wsL_law := (sn_n16 _ (List.mem_of_getElem? (i := 21) rfl))
theorem sn_code_60 : Cond.code (sn_y 60) (sn_bc 60) (sn_ml 60) (sn_rt 60) ∈ wsL_law := (sn_n17 _ (List.mem_of_getElem? (i := 2) rfl))
theorem sn_code_61 : Cond.code (sn_y 61) (sn_bc 61) (sn_ml 61) (sn_rt 61) ∈ wsL_law := (sn_n17 _ (List.mem_of_getElem? (i := 6) rfl))
theorem sn_code_62 : Cond.code (sn_y 62) (sn_bc 62) (sn_ml 62) (sn_rt 62) ∈ wsL_law := (sn_n17 _ (List.mem_of_getElem? (i := 10) rfl))
theorem sn_code_63 : Cond.code (sn_y 63) (sn_bc 63) (sn_ml 63) (sn_rt 63) ∈ wsL_law := (sn_n17 _ (List.mem_of_getElem? (i := 16) rfl))
theorem sn_code_64 : Cond.code (sn_y 64) (sn_bc 64) (sn_ml 64) (sn_rt 64) ∈ wsL_law := (sn_n17 _ (List.mem_of_getElem? (i := 20) rfl))
theorem sn_code_65 : Cond.code (sn_y 65) (sn_bc 65) (sn_ml 65) (sn_rt 65) ∈ wsL_law := (sn_n18 _ (List.mem_of_getElem? (i := 0) rfl))
theorem sn_code_66 : Cond.code (sn_y 66) (sn_bc 66) (sn_ml 66) (sn_rt 66) ∈ wsL_law := (sn_n18 _ (List.mem_of_getElem? (i := 4) rfl))
theorem sn_code_67 : Cond.code (sn_y 67) (sn_bc 67) (sn_ml 67) (sn_rt 67) ∈ wsL_law := (sn_n18 _ (List.mem_of_getElem? (i := 9) rfl))
theorem sn_code_68 : Cond.code (sn_y 68) (sn_bc 68) (sn_ml 68) (sn_rt 68) ∈ wsL_law := (sn_n18 _ (List.mem_of_getElem? (i := 13) rfl))
theorem sn_code_69 : Cond.code (sn_y 69) (sn_bc 69) (sn_ml 69) (sn_rt 69) ∈ wsL_law := (sn_n18 _ (List.mem_of_getElem? (i := 17) rfl))
theorem sn_code_70 : Cond.code (sn_y 70) (sn_bc 70) (sn_ml 70) (sn_rt 70) ∈ wsL_law := (sn_n18 _ (List.mem_of_getElem? (i := 23) rfl))
theorem sn_code_71 : Cond.code (sn_y 71) (sn_bc 71) (sn_ml 71) (sn_rt 71) ∈ wsL_law := (sn_n19 _ (List.mem_of_getElem? (i := 3) rfl))
theorem sn_code_72 : Cond.code (sn_y 72) (sn_bc 72) (sn_ml 72) (sn_rt 72) ∈ wsL_law := (sn_n19 _ (List.mem_of_getElem? (i := 7) rfl))
theorem sn_code_73 : Cond.code (sn_y 73) (sn_bc 73) (sn_ml 73) (sn_rt 73) ∈ wsL_law := (sn_n19 _ (List.mem_of_getElem? (i := 11) rfl))
theorem sn_code_74 : Cond.code (sn_y 74) (sn_bc 74) (sn_ml 74) (sn_rt 74) ∈ wsL_law := (sn_n19 _ (List.mem_of_getElem? (i := 15) rfl))
theorem sn_code_75 : Cond.code (sn_y 75) (sn_bc 75) (sn_ml 75) (sn_rt 75) ∈ wsL_law := (sn_n19 _ (List.mem_of_getElem? (i := 21) rfl))
theorem sn_code_76 : Cond.code (sn_y 76) (sn_bc 76) (sn_ml 76) (sn_rt 76) ∈ wsL_law := (sn_n20 _ (List.mem_of_getElem? (i := 1) rfl))
theorem sn_code_77 : Cond.code (sn_y 77) (sn_bc 77) (sn_ml 77) (sn_rt 77) ∈ wsL_law := (sn_n20 _ (List.mem_of_getElem? (i := 5) rfl))
theorem sn_code_78 : Cond.code (sn_y 78) (sn_bc 78) (sn_ml 78) (sn_rt 78) ∈ wsL_law := (sn_n20 _ (List.mem_of_getElem? (i := 17) rfl))
theorem sn_code_79 : Cond.code (sn_y 79) (sn_bc 79) (sn_ml 79) (sn_rt 79) ∈ wsL_law := (sn_n20 _ (List.mem_of_getElem? (i := 21) rfl))
theorem sn_code_80 : Cond.code (sn_y 80) (sn_bc 80) (sn_ml 80) (sn_rt 80) ∈ wsL_law := (sn_n21 _ (List.mem_of_getElem? (i := 1) rfl))
theorem sn_code_81 : Cond.code (sn_y 81) (sn_bc 81) (sn_ml 81) (sn_rt 81) ∈ wsL_law := (sn_n21 _ (List.mem_of_getElem? (i := 6) rfl))
theorem sn_code_82 : Cond.code (sn_y 82) (sn_bc 82) (sn_ml 82) (sn_rt 82) ∈ wsL_law := (sn_n21 _ (List.mem_of_getElem? (i := 9) rfl))
theorem sn_code_83 : Cond.code (sn_y 83) (sn_bc 83) (sn_ml 83) (sn_rt 83) ∈ wsL_law := (sn_n21 _ (List.mem_of_getElem? (i := 14) rfl))
theorem sn_code_84 : Cond.code (sn_y 84) (sn_bc 84) (sn_ml 84) (sn_rt 84) ∈ wsL_law := (sn_n21 _ (List.mem_of_getElem? (i := 19) rfl))
theorem sn_code_85 : Cond.code (sn_y 85) (sn_bc 85) (sn_ml 85) (sn_rt 85) ∈ wsL_law := (sn_n21 _ (List.mem_of_getElem? (i := 23) rfl))
theorem sn_code_86 : Cond.code (sn_y 86) (sn_bc 86) (sn_ml 86) (sn_rt 86) ∈ wsL_law := (sn_n22 _ (List.mem_of_getElem? (i := 3) rfl))
theorem sn_code_87 : Cond.code (sn_y 87) (sn_bc 87) (sn_ml 87) (sn_rt 87) ∈ wsL_law := (sn_n22 _ (List.mem_of_getElem? (i := 6) rfl))
theorem sn_code_89 : Cond.code (sn_y 89) (sn_bc 89) (sn_ml 89) (sn_rt 89) ∈ wsL_law := (sn_n22 _ (List.mem_of_getElem? (i := 14) rfl))
theorem sn_code_90 : Cond.code (sn_y 90) (sn_bc 90) (sn_ml 90) (sn_rt 90) ∈ wsL_law := (sn_n22 _ (List.mem_of_getElem? (i := 19) rfl))
theorem sn_code_91 : Cond.code (sn_y 91) (sn_bc 91) (sn_ml 91) (sn_rt 91) ∈ wsL_law := (sn_n22 _ (List.mem_of_getElem? (i := 23) rfl))
theorem sn_code_92 : Cond.code (sn_y 92) (sn_bc 92) (sn_ml 92) (sn_rt 92) ∈ wsL_law := (sn_n23 _ (List.mem_of_getElem? (i := 12) rfl))
theorem sn_code_93 : Cond.code (sn_y 93) (sn_bc 93) (sn_ml 93) (sn_rt 93) ∈ wsL_law := (sn_n23 _ (List.mem_of_getElem? (i := 16) rfl))
theorem sn_code_94 : Cond.code (sn_y 94) (sn_bc 94) (sn_ml 94) (sn_rt 94) ∈ wsL_law := (sn_n23 _ (List.mem_of_getElem? (i := 20) rfl))
theorem sn_code_95 : Cond.code (sn_y 95) (sn_bc 95) (sn_ml 95) (sn_rt 95) ∈ wsL_law := (sn_n24 _ (List.mem_of_getElem? (i := 0) rfl))
theorem sn_code_96 : Cond.code (sn_y 96) (sn_bc 96) (sn_ml 96) (sn_rt 96) ∈ wsL_law := (sn_n24 _ (List.mem_of_getElem? (i := 4) rfl))
theorem sn_code_97 : Cond.code (sn_y 97) (sn_bc 97) (sn_ml 97) (sn_rt 97) ∈ wsL_law := (sn_n24 _ (List.mem_of_getElem? (i := 7) rfl))
theorem sn_code_98 : Cond.code (sn_y 98) (sn_bc 98) (sn_ml 98) (sn_rt 98) ∈ wsL_law := (sn_n24 _ (List.mem_of_getElem? (i := 11) rfl))
theorem sn_code_99 : Cond.code (sn_y 99) (sn_bc 99) (sn_ml 99) (sn_rt 99) ∈ wsL_law := (sn_n24 _ (List.mem_of_getElem? (i := 15) rfl))
theorem sn_code_100 : Cond.code (sn_y 100) (sn_bc 100) (sn_ml 100) (sn_rt 100) ∈ wsL_law := (sn_n24 _ (List.mem_of_getElem? (i := 19) rfl))
theorem sn_code_101 : Cond.code (sn_y 101) (sn_bc 101) (sn_ml 101) (sn_rt 101) ∈ wsL_law := (sn_n24 _ (List.mem_of_getElem? (i := 23) rfl))
theorem sn_code_102 : Cond.code (sn_y 102) (sn_bc 102) (sn_ml 102) (sn_rt 102) ∈ wsL_law := (sn_n25 _ (List.mem_of_getElem? (i := 5) rfl))
theorem sn_code_103 : Cond.code (sn_y 103) (sn_bc 103) (sn_ml 103) (sn_rt 103) ∈ wsL_law := (sn_n25 _ (List.mem_of_getElem? (i := 9) rfl))
theorem sn_code_104 : Cond.code (sn_y 104) (sn_bc 104) (sn_ml 104) (sn_rt 104) ∈ wsL_law := (sn_n25 _ (List.mem_of_getElem? (i := 13) rfl))
theorem sn_code_105 : Cond.code (sn_y 105) (sn_bc 105) (sn_ml 105) (sn_rt 105) ∈ wsL_law := (sn_n25 _ (List.mem_of_getElem? (i := 18) rfl))
theorem sn_code_106 : Cond.code (sn_y 106) (sn_bc 106) (sn_ml 106) (sn_rt 106) ∈ wsL_law := (sn_n25 _ (List.mem_of_getElem? (i := 22) rfl))
theorem sn_code_107 : Cond.code (sn_y 107) (sn_bc 107) (sn_ml 107) (sn_rt 107) ∈ wsL_law := (sn_n26 _ (List.mem_of_getElem? (i := 3) rfl))
theorem sn_code_108 : Cond.code (sn_y 108) (sn_bc 108) (sn_ml 108) (sn_rt 108) ∈ wsL_law := (sn_n26 _ (List.mem_of_getElem? (i := 7) rfl))
theorem sn_code_109 : Cond.code (sn_y 109) (sn_bc 109) (sn_ml 109) (sn_rt 109) ∈ wsL_law := (sn_n26 _ (List.mem_of_getElem? (i := 11) rfl))
theorem sn_code_110 : Cond.code (sn_y 110) (sn_bc 110) (sn_ml 110) (sn_rt 110) ∈ wsL_law := (sn_n26 _ (List.mem_of_getElem? (i := 15) rfl))
theorem sn_code_111 : Cond.code (sn_y 111) (sn_bc 111) (sn_ml 111) (sn_rt 111) ∈ wsL_law := (sn_n26 _ (List.mem_of_getElem? (i := 19) rfl))
theorem sn_code_112 : Cond.code (sn_y 112) (sn_bc 112) (sn_ml 112) (sn_rt 112) ∈ wsL_law := (sn_n26 _ (List.mem_of_getElem? (i := 23) rfl))
theorem sn_code_113 : Cond.code (sn_y 113) (sn_bc 113) (sn_ml 113) (sn_rt 113) ∈ wsL_law := (sn_n27 _ (List.mem_of_getElem? (i := 4) rfl))
theorem sn_code_114 : Cond.code (sn_y 114) (sn_bc 114) (sn_ml 114) (sn_rt 114) ∈ wsL_law := (sn_n27 _ (List.mem_of_getElem? (i := 8) rfl))
theorem sn_code_115 : Cond.code (sn_y 115) (sn_bc 115) (sn_ml 115) (sn_rt 115) ∈ wsL_law := (sn_n27 _ (List.mem_of_getElem? (i := 12) rfl))
theorem sn_code_116 : Cond.code (sn_y 116) (sn_bc 116) (sn_ml 116) (sn_rt 116) ∈ wsL_law := (sn_n27 _ (List.mem_of_getElem? (i := 16) rfl))
theorem sn_code_117 : Cond.code (sn_y 117) (sn_bc 117) (sn_ml 117) (sn_rt 117) ∈ wsL_law := (sn_n27 _ (List.mem_of_getElem? (i := 20) rfl))
theorem sn_code_118 : Cond.code (sn_y 118) (sn_bc 118) (sn_ml 118) (sn_rt 118) ∈ wsL_law := (sn_n28 _ (List.mem_of_getElem? (i := 0) rfl))
theorem sn_code_119 : Cond.code (sn_y 119) (sn_bc 119) (sn_ml 119) (sn_rt 119) ∈ wsL_law := (sn_n28 _ (List.mem_of_getElem? (i := 4) rfl))
theorem sn_code_120 : Cond.code (sn_y 120) (sn_bc 120) (sn_ml 120) (sn_rt 120) ∈ wsL_law := (sn_n28 _ (List.mem_of_getElem? (i := 8) rfl))
theorem sn_code_121 : Cond.code (sn_y 121) (sn_bc 121) (sn_ml 121) (sn_rt 121) ∈ wsL_law := (sn_n28 _ (List.mem_of_getElem? (i := 12) rfl))
theorem sn_code_122 : Cond.code (sn_y 122) (sn_bc 122) (sn_ml 122) (sn_rt 122) ∈ wsL_law := (sn_n28 _ (List.mem_of_getElem? (i := 16) rfl))
theorem sn_code_123 : Cond.code (sn_y 123) (sn_bc 123) (sn_ml 123) (sn_rt 123) ∈ wsL_law := (sn_n28 _ (List.mem_of_getElem? (i := 21) rfl))
theorem sn_code_124 : Cond.code (sn_y 124) (sn_bc 124) (sn_ml 124) (sn_rt 124) ∈ wsL_law := (sn_n29 _ (List.mem_of_getElem? (i := 5) rfl))
theorem sn_code_125 : Cond.code (sn_y 125) (sn_bc 125) (sn_ml 125) (sn_rt 125) ∈ wsL_law := (sn_n29 _ (List.mem_of_getElem? (i := 9) rfl))
theorem sn_code_126 : Cond.code (sn_y 126) (sn_bc 126) (sn_ml 126) (sn_rt 126) ∈ wsL_law := (sn_n29 _ (List.mem_of_getElem? (i := 13) rfl))
theorem sn_code_127 : Cond.code (sn_y 127) (sn_bc 127) (sn_ml 127) (sn_rt 127) ∈ wsL_law := (sn_n29 _ (List.mem_of_getElem? (i := 17) rfl))
theorem sn_code_128 : Cond.code (sn_y 128) (sn_bc 128) (sn_ml 128) (sn_rt 128) ∈ wsL_law := (sn_n29 _ (List.mem_of_getElem? (i := 21) rfl))
theorem sn_code_all : ∀ j, j < 129 → j ≠ 88 → Cond.code (sn_y j) (sn_bc j) (sn_ml j) (sn_rt j) ∈ wsL_law := fun j h h88 => match j, h, h88 with
  | 0, _, _ => sn_code_0
  | 1, _, _ => sn_code_1
  | 2, _, _ => sn_code_2
  | 3, _, _ => sn_code_3
  | 4, _, _ => sn_code_4
  | 5, _, _ => sn_code_5
  | 6, _, _ => sn_code_6
  | 7, _, _ => sn_code_7
  | 8, _, _ => sn_code_8
  | 9, _, _ => sn_code_9
  | 10, _, _ => sn_code_10
  | 11, _, _ => sn_code_11
  | 12, _, _ => sn_code_12
  | 13, _, _ => sn_code_13
  | 14, _, _ => sn_code_14
  | 15, _, _ => sn_code_15
  | 16, _, _ => sn_code_16
  | 17, _, _ => sn_code_17
  | 18, _, _ => sn_code_18
  | 19, _, _ => sn_code_19
  | 20, _, _ => sn_code_20
  | 21, _, _ => sn_code_21
  | 22, _, _ => sn_code_22
  | 23, _, _ => sn_code_23
  | 24, _, _ => sn_code_24
  | 25, _, _ => sn_code_25
  | 26, _, _ => sn_code_26
  | 27, _, _ => sn_code_27
  | 28, _, _ => sn_code_28
  | 29, _, _ => sn_code_29
  | 30, _, _ => sn_code_30
  | 31, _, _ => sn_code_31
  | 32, _, _ => sn_code_32
  | 33, _, _ => sn_code_33
  | 34, _, _ => sn_code_34
  | 35, _, _ => sn_code_35
  | 36, _, _ => sn_code_36
  | 37, _, _ => sn_code_37
  | 38, _, _ => sn_code_38
  | 39, _, _ => sn_code_39
  | 40, _, _ => sn_code_40
  | 41, _, _ => sn_code_41
  | 42, _, _ => sn_code_42
  | 43, _, _ => sn_code_43
  | 44, _, _ => sn_code_44
  | 45, _, _ => sn_code_45
  | 46, _, _ => sn_code_46
  | 47, _, _ => sn_code_47
  | 48, _, _ => sn_code_48
  | 49, _, _ => sn_code_49
  | 50, _, _ => sn_code_50
  | 51, _, _ => sn_code_51
  | 52, _, _ => sn_code_52
  | 53, _, _ => sn_code_53
  | 54, _, _ => sn_code_54
  | 55, _, _ => sn_code_55
  | 56, _, _ => sn_code_56
  | 57, _, _ => sn_code_57
  | 58, _, _ => sn_code_58
  | 59, _, _ => sn_code_59
  | 60, _, _ => sn_code_60
  | 61, _, _ => sn_code_61
  | 62, _, _ => sn_code_62
  | 63, _, _ => sn_code_63
  | 64, _, _ => sn_code_64
  | 65, _, _ => sn_code_65
  | 66, _, _ => sn_code_66
  | 67, _, _ => sn_code_67
  | 68, _, _ => sn_code_68
  | 69, _, _ => sn_code_69
  | 70, _, _ => sn_code_70
  | 71, _, _ => sn_code_71
  | 72, _, _ => sn_code_72
  | 73, _, _ => sn_code_73
  | 74, _, _ => sn_code_74
  | 75, _, _ => sn_code_75
  | 76, _, _ => sn_code_76
  | 77, _, _ => sn_code_77
  | 78, _, _ => sn_code_78
  | 79, _, _ => sn_code_79
  | 80, _, _ => sn_code_80
  | 81, _, _ => sn_code_81
  | 82, _, _ => sn_code_82
  | 83, _, _ => sn_code_83
  | 84, _, _ => sn_code_84
  | 85, _, _ => sn_code_85
  | 86, _, _ => sn_code_86
  | 87, _, _ => sn_code_87
  | 89, _, _ => sn_code_89
  | 90, _, _ => sn_code_90
  | 91, _, _ => sn_code_91
  | 92, _, _ => sn_code_92
  | 93, _, _ => sn_code_93
  | 94, _, _ => sn_code_94
  | 95, _, _ => sn_code_95
  | 96, _, _ => sn_code_96
  | 97, _, _ => sn_code_97
  | 98, _, _ => sn_code_98
  | 99, _, _ => sn_code_99
  | 100, _, _ => sn_code_100
  | 101, _, _ => sn_code_101
  | 102, _, _ => sn_code_102
  | 103, _, _ => sn_code_103
  | 104, _, _ => sn_code_104
  | 105, _, _ => sn_code_105
  | 106, _, _ => sn_code_106
  | 107, _, _ => sn_code_107
  | 108, _, _ => sn_code_108
  | 109, _, _ => sn_code_109
  | 110, _, _ => sn_code_110
  | 111, _, _ => sn_code_111
  | 112, _, _ => sn_code_112
  | 113, _, _ => sn_code_113
  | 114, _, _ => sn_code_114
  | 115, _, _ => sn_code_115
  | 116, _, _ => sn_code_116
  | 117, _, _ => sn_code_117
  | 118, _, _ => sn_code_118
  | 119, _, _ => sn_code_119
  | 120, _, _ => sn_code_120
  | 121, _, _ => sn_code_121
  | 122, _, _ => sn_code_122
  | 123, _, _ => sn_code_123
  | 124, _, _ => sn_code_124
  | 125, _, _ => sn_code_125
  | 126, _, _ => sn_code_126
  | 127, _, _ => sn_code_127
  | 128, _, _ => sn_code_128
  | 88, _, h => absurd rfl h
  | n + 129, h, _ => absurd h (by omega)
theorem sn_ycls : ∀ j, j < 129 → (sn_y j).cls = sn_cn (sn_oc j) ∧ sn_oc j < 12 := fun j h => match j, h with
  | 0, _ => ⟨rfl, by decide⟩
  | 1, _ => ⟨rfl, by decide⟩
  | 2, _ => ⟨rfl, by decide⟩
  | 3, _ => ⟨rfl, by decide⟩
  | 4, _ => ⟨rfl, by decide⟩
  | 5, _ => ⟨rfl, by decide⟩
  | 6, _ => ⟨rfl, by decide⟩
  | 7, _ => ⟨rfl, by decide⟩
  | 8, _ => ⟨rfl, by decide⟩
  | 9, _ => ⟨rfl, by decide⟩
  | 10, _ => ⟨rfl, by decide⟩
  | 11, _ => ⟨rfl, by decide⟩
  | 12, _ => ⟨rfl, by decide⟩
  | 13, _ => ⟨rfl, by decide⟩
  | 14, _ => ⟨rfl, by decide⟩
  | 15, _ => ⟨rfl, by decide⟩
  | 16, _ => ⟨rfl, by decide⟩
  | 17, _ => ⟨rfl, by decide⟩
  | 18, _ => ⟨rfl, by decide⟩
  | 19, _ => ⟨rfl, by decide⟩
  | 20, _ => ⟨rfl, by decide⟩
  | 21, _ => ⟨rfl, by decide⟩
  | 22, _ => ⟨rfl, by decide⟩
  | 23, _ => ⟨rfl, by decide⟩
  | 24, _ => ⟨rfl, by decide⟩
  | 25, _ => ⟨rfl, by decide⟩
  | 26, _ => ⟨rfl, by decide⟩
  | 27, _ => ⟨rfl, by decide⟩
  | 28, _ => ⟨rfl, by decide⟩
  | 29, _ => ⟨rfl, by decide⟩
  | 30, _ => ⟨rfl, by decide⟩
  | 31, _ => ⟨rfl, by decide⟩
  | 32, _ => ⟨rfl, by decide⟩
  | 33, _ => ⟨rfl, by decide⟩
  | 34, _ => ⟨rfl, by decide⟩
  | 35, _ => ⟨rfl, by decide⟩
  | 36, _ => ⟨rfl, by decide⟩
  | 37, _ => ⟨rfl, by decide⟩
  | 38, _ => ⟨rfl, by decide⟩
  | 39, _ => ⟨rfl, by decide⟩
  | 40, _ => ⟨rfl, by decide⟩
  | 41, _ => ⟨rfl, by decide⟩
  | 42, _ => ⟨rfl, by decide⟩
  | 43, _ => ⟨rfl, by decide⟩
  | 44, _ => ⟨rfl, by decide⟩
  | 45, _ => ⟨rfl, by decide⟩
  | 46, _ => ⟨rfl, by decide⟩
  | 47, _ => ⟨rfl, by decide⟩
  | 48, _ => ⟨rfl, by decide⟩
  | 49, _ => ⟨rfl, by decide⟩
  | 50, _ => ⟨rfl, by decide⟩
  | 51, _ => ⟨rfl, by decide⟩
  | 52, _ => ⟨rfl, by decide⟩
  | 53, _ => ⟨rfl, by decide⟩
  | 54, _ => ⟨rfl, by decide⟩
  | 55, _ => ⟨rfl, by decide⟩
  | 56, _ => ⟨rfl, by decide⟩
  | 57, _ => ⟨rfl, by decide⟩
  | 58, _ => ⟨rfl, by decide⟩
  | 59, _ => ⟨rfl, by decide⟩
  | 60, _ => ⟨rfl, by decide⟩
  | 61, _ => ⟨rfl, by decide⟩
  | 62, _ => ⟨rfl, by decide⟩
  | 63, _ => ⟨rfl, by decide⟩
  | 64, _ => ⟨rfl, by decide⟩
  | 65, _ => ⟨rfl, by decide⟩
  | 66, _ => ⟨rfl, by decide⟩
  | 67, _ => ⟨rfl, by decide⟩
  | 68, _ => ⟨rfl, by decide⟩
  | 69, _ => ⟨rfl, by decide⟩
  | 70, _ => ⟨rfl, by decide⟩
  | 71, _ => ⟨rfl, by decide⟩
  | 72, _ => ⟨rfl, by decide⟩
  | 73, _ => ⟨rfl, by decide⟩
  | 74, _ => ⟨rfl, by decide⟩
  | 75, _ => ⟨rfl, by decide⟩
  | 76, _ => ⟨rfl, by decide⟩
  | 77, _ => ⟨rfl, by decide⟩
  | 78, _ => ⟨rfl, by decide⟩
  | 79, _ => ⟨rfl, by decide⟩
  | 80, _ => ⟨rfl, by decide⟩
  | 81, _ => ⟨rfl, by decide⟩
  | 82, _ => ⟨rfl, by decide⟩
  | 83, _ => ⟨rfl, by decide⟩
  | 84, _ => ⟨rfl, by decide⟩
  | 85, _ => ⟨rfl, by decide⟩
  | 86, _ => ⟨rfl, by decide⟩
  | 87, _ => ⟨rfl, by decide⟩
  | 88, _ => ⟨rfl, by decide⟩
  | 89, _ => ⟨rfl, by decide⟩
  | 90, _ => ⟨rfl, by decide⟩
  | 91, _ => ⟨rfl, by decide⟩
  | 92, _ => ⟨rfl, by decide⟩
  | 93, _ => ⟨rfl, by decide⟩
  | 94, _ => ⟨rfl, by decide⟩
  | 95, _ => ⟨rfl, by decide⟩
  | 96, _ => ⟨rfl, by decide⟩
  | 97, _ => ⟨rfl, by decide⟩
  | 98, _ => ⟨rfl, by decide⟩
  | 99, _ => ⟨rfl, by decide⟩
  | 100, _ => ⟨rfl, by decide⟩
  | 101, _ => ⟨rfl, by decide⟩
  | 102, _ => ⟨rfl, by decide⟩
  | 103, _ => ⟨rfl, by decide⟩
  | 104, _ => ⟨rfl, by decide⟩
  | 105, _ => ⟨rfl, by decide⟩
  | 106, _ => ⟨rfl, by decide⟩
  | 107, _ => ⟨rfl, by decide⟩
  | 108, _ => ⟨rfl, by decide⟩
  | 109, _ => ⟨rfl, by decide⟩
  | 110, _ => ⟨rfl, by decide⟩
  | 111, _ => ⟨rfl, by decide⟩
  | 112, _ => ⟨rfl, by decide⟩
  | 113, _ => ⟨rfl, by decide⟩
  | 114, _ => ⟨rfl, by decide⟩
  | 115, _ => ⟨rfl, by decide⟩
  | 116, _ => ⟨rfl, by decide⟩
  | 117, _ => ⟨rfl, by decide⟩
  | 118, _ => ⟨rfl, by decide⟩
  | 119, _ => ⟨rfl, by decide⟩
  | 120, _ => ⟨rfl, by decide⟩
  | 121, _ => ⟨rfl, by decide⟩
  | 122, _ => ⟨rfl, by decide⟩
  | 123, _ => ⟨rfl, by decide⟩
  | 124, _ => ⟨rfl, by decide⟩
  | 125, _ => ⟨rfl, by decide⟩
  | 126, _ => ⟨rfl, by decide⟩
  | 127, _ => ⟨rfl, by decide⟩
  | 128, _ => ⟨rfl, by decide⟩
  | n + 129, h => absurd h (by omega)
theorem sn_plain (j : Nat) (h : j < 129) : (sn_y j).cls ≠ "java/lang/invoke/MethodHandle" ∧ (sn_y j).cls ≠ "java/lang/invoke/VarHandle" := by
  rw [(sn_ycls j h).1]
  exact sn_cn_plain _ (sn_ycls j h).2
theorem sn_in_name : ∀ j, sn_in j = true → (sn_y j).name = "<init>" := fun j h => by
  have h1 := of_decide_eq_true h
  simp only [List.mem_cons, List.not_mem_nil, or_false] at h1
  rcases h1 with rfl | rfl | rfl | rfl | rfl | rfl | rfl | rfl | rfl | rfl <;> rfl
theorem sn_code_88 : Cond.codeWith (sn_y 88) (sn_bc 88) (sn_ml 88) (sn_rt 88) [(0, 14, 15, 110)] ∈ wsL_law := (sn_n22 _ (List.mem_of_getElem? (i := 9) rfl))
theorem sn_ws_static : Cond.fieldLink RX9 458 "Songnations" "WEIGHTS" "[I" ∈ wsL_law := (sn_n11 _ (List.mem_of_getElem? (i := 23) rfl))
theorem sn_ws_arr : Cond.arrayClass .int ∈ wsL_law ∧ Cond.arrayClass .boolean ∈ wsL_law := ⟨(sn_n1 _ (List.mem_of_getElem? (i := 3) rfl)), (sn_n3 _ (List.mem_of_getElem? (i := 19) rfl))⟩
theorem sn_ws_mna : ∀ o ∈ [0, 1, 2, 4], Cond.classLink (sn_cn o) 9 "[[I" ∈ wsL_law := List.forall_mem_cons.mpr ⟨(sn_n4 _ (List.mem_of_getElem? (i := 14) rfl)), List.forall_mem_cons.mpr ⟨(sn_n7 _ (List.mem_of_getElem? (i := 5) rfl)), List.forall_mem_cons.mpr ⟨(sn_n5 _ (List.mem_of_getElem? (i := 0) rfl)), List.forall_mem_cons.mpr ⟨(sn_n5 _ (List.mem_of_getElem? (i := 16) rfl)), fun _ h => absurd h List.not_mem_nil⟩⟩⟩⟩
theorem sn_ws_obj : Cond.instanceMethod objectInit ∈ wsL_law ∧ Cond.code objectInit ⟨#[0xb1]⟩ 1 none ∈ wsL_law := ⟨(sn_n1 _ (List.mem_of_getElem? (i := 8) rfl)), (sn_n1 _ (List.mem_of_getElem? (i := 9) rfl))⟩
theorem sn_ws_math : (Cond.static Lib.Math.abs.name ∈ wsL_law ∧ Cond.static Lib.Math.max.name ∈ wsL_law ∧ Cond.static Lib.Math.min.name ∈ wsL_law) ∧ Cond.initialized "java/lang/Math" ∈ wsL_law ∧ Cond.code Lib.Math.abs.name Lib.Math.abs.code 1 (some .int) ∈ wsL_law ∧ Cond.code Lib.Math.max.name Lib.Math.max.code 2 (some .int) ∈ wsL_law ∧ Cond.code Lib.Math.min.name Lib.Math.min.code 2 (some .int) ∈ wsL_law := ⟨⟨(sn_n12 _ (List.mem_of_getElem? (i := 23) rfl)), (sn_n16 _ (List.mem_of_getElem? (i := 16) rfl)), (sn_n21 _ (List.mem_of_getElem? (i := 8) rfl))⟩, (sn_n13 _ (List.mem_of_getElem? (i := 0) rfl)), (sn_n13 _ (List.mem_of_getElem? (i := 1) rfl)), (sn_n16 _ (List.mem_of_getElem? (i := 17) rfl)), (sn_n21 _ (List.mem_of_getElem? (i := 9) rfl))⟩

theorem sn_find {α : Type} {t : List (Nat × Nat × α)} {o i : Nat} {x : α} (h : (t.find? (fun q => q.1 == o && q.2.1 == i)).map (fun q => q.2.2) = some x) : (o, i, x) ∈ t := by
  obtain ⟨⟨a, b, y⟩, h1, h2⟩ := Option.map_eq_some_iff.mp h
  have h3 := List.find?_some h1
  have h4 := List.mem_of_find?_eq_some h1
  simp only [Bool.and_eq_true, beq_iff_eq] at h3
  obtain ⟨rfl, rfl⟩ := h3
  dsimp only at h2
  rw [← h2]
  exact h4
theorem sn_pf_ok {o i ci k : Nat} (h : sn_pf o i = some (ci, k)) : ci < 10 ∧ k < sn_nf ci ∧ (sn_T ci k).1 = sn_cn ci ∧ (sn_T ci k).2.2.2 = sn_ff ci k ∧ Cond.fieldLink (sn_cn o) i (sn_cn ci) (sn_T ci k).2.1 (sn_T ci k).2.2.1 ∈ wsL_law := sn_pfl_ok (o, i, ci, k) (sn_find h)

theorem sn_code_ok : ∀ j, j < 129 → j ≠ 88 → Cond.code (sn_y j) (sn_bc j) (sn_ml j) (sn_rt j) ∈ wsL_law ∧ (sn_y j).cls ≠ "java/lang/invoke/MethodHandle" ∧ (sn_y j).cls ≠ "java/lang/invoke/VarHandle" := fun j h h88 => ⟨sn_code_all j h h88, sn_plain j h⟩
end
section
/-! ===== instructions that touch the heap ===== -/
section SNH
variable {G : sn_P} {p : Program} {l : Launch} {e : Env} {R : Room} {s : State} {m : MethodId} {args : Array Value} {below : List Frame} {meth : Method} {c : Code} {H : Heap} {locs : List Loc} {cells slots : Nat} {Q : State → Prop} {M pc : Nat} {ls : Array Slot} {lv r : List sn_V} {h : sn_H}
theorem sn_Rp.ge {h : sn_H} {H : Heap} (S : sn_Rp G h H) {q : Nat} (h2 : 2 ≤ q) (h1 : q < h.1) : sn_at G h q H := S.2.2.1 q h2 h1
theorem sn_at.kept {h h' : sn_H} {H H' : Heap} {q : Nat} (S : sn_at G h q H) (hT : h'.2.2.1 q = h.2.2.1 q) (hC : h'.2.2.2 q = h.2.2.2 q) (hq : H'[sn_ad G q]? = H[sn_ad G q]?) : sn_at G h' q H' := by
  unfold sn_at at S ⊢
  rw [hT, hC, hq]
  split
  · rename_i h1
    rw [if_pos h1] at S
    exact ⟨S.1, S.2.kept hq⟩
  · rename_i h1
    rw [if_neg h1] at S
    exact S
theorem sn_at.obj {h : sn_H} {H : Heap} {q ci : Nat} (S : sn_at G h q H) (hc : ci < 10) (ht : (h.2.2.1 q).1 = ci) : (h.2.2.1 q).2 = sn_nf ci ∧ t_OB (sn_ad G q) ((sn_D G).1 ci) (sn_nf ci) ((sn_D G).2 ci) H (fun k => sn_tr G (h.2.2.2 q k)) := by
  unfold sn_at at S
  rw [ht, if_pos hc] at S
  exact S
theorem sn_at.arr {h : sn_H} {H : Heap} {q : Nat} (S : sn_at G h q H) (ht : (h.2.2.1 q).1 = 100) : H[sn_ad G q]? = some (arrV (sn_cI G) (h.2.2.1 q).2 (fun k => sn_tr G (h.2.2.2 q k))) := by
  unfold sn_at at S
  rw [ht, if_neg (by decide), if_pos rfl] at S
  exact S
theorem sn_at.arrZ {h : sn_H} {H : Heap} {q : Nat} (S : sn_at G h q H) (ht : (h.2.2.1 q).1 = 101) : H[sn_ad G q]? = some (arrV (sn_cZ G) (h.2.2.1 q).2 (fun k => sn_tr G (h.2.2.2 q k))) := by
  unfold sn_at at S
  rw [ht, if_neg (by decide), if_neg (by decide), if_pos rfl] at S
  exact S
theorem sn_at.arrQ {h : sn_H} {H : Heap} {q : Nat} (S : sn_at G h q H) (ht : (h.2.2.1 q).1 = 102) : H[sn_ad G q]? = some (arrV (sn_cQ G) (h.2.2.1 q).2 (fun k => sn_tr G (h.2.2.2 q k))) := by
  unfold sn_at at S
  rw [ht, if_neg (by decide), if_neg (by decide), if_neg (by decide), if_pos rfl] at S
  exact S
theorem sn_ad_ne (G : sn_P) {q q' : Nat} (h1 : 2 ≤ q) (h2 : 2 ≤ q') (hn : q' ≠ q) : sn_ad G q' ≠ sn_ad G q := by
  rw [sn_ad2 G h1, sn_ad2 G h2]
  omega
/-- one place written -/
theorem sn_Rp.put {h : sn_H} {H H' : Heap} {q k : Nat} {v : sn_V} (S : sn_Rp G h H) (h2 : 2 ≤ q) (hv : sn_wf v) (hz : H'.size = H.size) (ho : ∀ a : Nat, a ≠ sn_ad G q → H'[a]? = H[a]?)
    (hq : sn_at G (h.1, h.2.1, h.2.2.1, sn_w h.2.2.2 q k v) q H') : sn_Rp G (h.1, h.2.1, h.2.2.1, sn_w h.2.2.2 q k v) H' := by
  obtain ⟨a1, a2, a3, a4, a5, a6, a7, a8, a9⟩ := S
  refine ⟨a1, hz.trans a2, fun q' g2 g1 => ?_, fun q' i => ?_, a5, a6, fun j hj => ?_, a8, fun j hj => ?_⟩
  · by_cases e : q' = q
    · rw [e]; exact hq
    · refine (a3 q' g2 g1).kept rfl ?_ (ho _ (sn_ad_ne G h2 g2 e))
      funext i
      show sn_w h.2.2.2 q k v q' i = h.2.2.2 q' i
      unfold sn_w
      rw [if_neg (fun z => e z.1)]
  · show sn_wf (sn_w h.2.2.2 q k v q' i)
    unfold sn_w
    split
    · exact hv
    · exact a4 q' i
  · show sn_w h.2.2.2 q k v 0 j = _
    unfold sn_w
    rw [if_neg (fun z => by omega)]
    exact a7 j hj
  · show sn_w h.2.2.2 q k v 1 j = _
    unfold sn_w
    rw [if_neg (fun z => by omega)]
    exact a9 j hj
theorem sn_K.put {q k : Nat} {v : sn_V} {pc' : Nat} {lv' st' : List sn_V} {H' : Heap} {locs' : List Loc} (kk : sn_K G M p l e R s m args below meth c cells slots Q h (pc', lv', st', (h.1, h.2.1, h.2.2.1, sn_w h.2.2.2 q k v))) (h1 : sn_Rp G (h.1, h.2.1, h.2.2.1, sn_w h.2.2.2 q k v) H') (h2 : va_S (sn_A G) s.heap H' locs') (h3 : sn_Ls G ls M lv') (h4 : ∀ v ∈ st', sn_wf v) :
    W p l e R s m args below meth c H' locs' cells slots Q (F0 m pc' ls (st'.map (sn_tr G))) := by
  have k := kk H' locs' ls ⟨h1, h2, h3, h4⟩
  dsimp only at k
  rw [Nat.sub_self, Nat.sub_self, Nat.add_zero, Nat.add_zero] at k
  exact k
theorem sn_upd_w {C : Nat → Nat → sn_V} {q k : Nat} {v : sn_V} : updV (fun j => sn_tr G (C q j)) k (sn_tr G v) = fun j => sn_tr G (sn_w C q k v q j) := by
  funext j
  show (if j = k then sn_tr G v else sn_tr G (C q j)) = sn_tr G (if q = q ∧ j = k then v else C q j)
  by_cases ej : j = k
  · rw [if_pos ej, if_pos ⟨rfl, ej⟩]
  · rw [if_neg ej, if_neg (fun z => ej z.2)]
theorem sn_k_getf {i q ci k : Nat} (X : sn_Cx G M p R s m args meth c) (hd : decode (sn_bc M) pc = .ok (.getfield i, 3)) (S : sn_Sr G M s H locs ls lv (sn_r q :: r) h) (hf : sn_pf (sn_oc M) i = some (ci, k)) (h2 : 2 ≤ q) (h1 : q < h.1) (ht : (h.2.2.1 q).1 = ci) (kk : sn_K G M p l e R s m args below meth c cells slots Q h (pc + 3, lv, h.2.2.2 q k :: r, h)) :
    W p l e R s m args below meth c H locs cells slots Q (F0 m pc ls ((sn_r q :: r).map (sn_tr G))) := by
  obtain ⟨x1, x2, x3, x4, x5, x6, x7, x8, x9, x10, x11, x12, x13⟩ := X
  obtain ⟨f1, f2, f3, f4, f5⟩ := sn_pf_ok hf
  obtain ⟨-, cell, q1, q2, q3, q4⟩ := (S.1.ge h2 h1).obj f1 ht
  obtain ⟨hS', hfc, kC, hkC, hkind⟩ := x9.1 ci _ (sn_cls_at f1)
  obtain ⟨cf, kf, fi, f, hi, hsl⟩ := hS' k f2
  have hst := (u_facts hfc hkC (u_lays x8 (sn_inl f1) f2) hi).1
  dsimp only at hi
  rw [f3] at hi
  have hlink := x8 _ f5
  refine W.getf x1 x2 x6 hlink hi hst q1 (by rw [q3]; exact fun h => by cases h) (v := sn_tr G (h.2.2.2 q k)) (by rw [hsl]; exact q4 k f2) rfl rfl hd ?_
  exact kk.go S.1 S.2.1 S.2.2.1 (sn_wf1 (S.1.2.2.2.1 q k) (sn_wfT S.2.2.2))
theorem sn_ref_fit {ty : FieldType} (h : ty.isReference = true) (z : Option Nat) : narrow ty (sn_tr G (.inr (.inl z))) = sn_tr G (.inr (.inl z)) ∧ fits ty (sn_tr G (.inr (.inl z))) = true := by
  cases ty <;> first | (cases h; done) | (cases z <;> exact ⟨rfl, rfl⟩)
theorem sn_fit {t : Nat} {v : sn_V} {ty : FieldType} (h : sn_fits t v = true) (ht : (t = 0 ∧ ty = .int) ∨ (t = 1 ∧ ty = .boolean) ∨ (t = 2 ∧ ty.isReference = true)) : narrow ty (sn_tr G v) = sn_tr G v ∧ fits ty (sn_tr G v) = true := by
  rcases ht with ⟨rfl, rfl⟩ | ⟨rfl, rfl⟩ | ⟨rfl, ht⟩
  · match v, h with
    | .inl z, _ => exact ⟨rfl, rfl⟩
  · match v, h with
    | .inl z, h =>
      have h0 : z = 0 ∨ z = 1 := by simpa [sn_fits] using h
      rcases h0 with rfl | rfl <;> exact ⟨rfl, rfl⟩
  · match v, h with
    | .inr (.inl z), _ => exact sn_ref_fit ht z
theorem sn_k_putf {i q ci k : Nat} {v : sn_V} (X : sn_Cx G M p R s m args meth c) (hd : decode (sn_bc M) pc = .ok (.putfield i, 3)) (S : sn_Sr G M s H locs ls lv (v :: sn_r q :: r) h) (hf : sn_pf (sn_oc M) i = some (ci, k)) (h2 : 2 ≤ q) (h1 : q < h.1) (ht : (h.2.2.1 q).1 = ci) (hfit : sn_fits (sn_ft ci k) v = true) (hfin : sn_ff ci k = false ∨ (sn_in M = true ∧ sn_oc M = ci)) (kk : sn_K G M p l e R s m args below meth c cells slots Q h (pc + 3, lv, r, (h.1, h.2.1, h.2.2.1, sn_w h.2.2.2 q k v))) :
    W p l e R s m args below meth c H locs cells slots Q (F0 m pc ls ((v :: sn_r q :: r).map (sn_tr G))) := by
  obtain ⟨x1, x2, x3, x4, x5, x6, x7, x8, x9, x10, x11, x12, x13⟩ := X
  obtain ⟨f1, f2, f3, f4, f5⟩ := sn_pf_ok hf
  obtain ⟨g0, cell, q1, q2, q3, q4⟩ := (S.1.ge h2 h1).obj f1 ht
  have hap := va_apart (own := sn_cn (sn_oc M)) x8 (sn_inl f1) (sn_tc ci) (sn_tc_ok f1) (sn_nm_ok f1) x9 (sn_cls_at f1)
  obtain ⟨hS', hfc, kC, hkC, hkind⟩ := x9.1 ci _ (sn_cls_at f1)
  obtain ⟨cf, kf, fi, f, hi, hsl⟩ := hS' k f2
  have hst := (u_facts hfc hkC (u_lays x8 (sn_inl f1) f2) hi).1
  have hlink := x8 _ f5
  have hff := sn_fit (G := G) hfit (sn_ft_ok ci f1 k f2)
  have hlay := x8 _ (sn_inl f1 _ (u_in_lay f2))
  have fin : ∀ H' : Heap, H'[sn_ad G q]? = some (cell.setSlot ((sn_D G).2 ci k) (sn_tr G v)) → H'.size = H.size → (∀ a : Nat, a ≠ sn_ad G q → H'[a]? = H[a]?) → W p l e R s m args below meth c H' (locs ++ [⟨sn_ad G q, (sn_D G).2 ci k⟩]) cells slots Q (F0 m (pc + 3) ls (r.map (sn_tr G))) := by
    intro H' e1 e2 e3
    refine kk.put (S.1.put h2 (sn_wfH S.2.2.2) e2 e3 ?_) (S.2.1.put e2 e3 (sn_adA G h2)) S.2.2.1 (sn_wfT (sn_wfT S.2.2.2))
    unfold sn_at
    dsimp only
    rw [ht, if_pos f1]
    refine ⟨by rw [← ht] at g0 ⊢; exact g0, _, e1, q2, q3, fun j hj => ?_⟩
    have := t_set q4 hap f2 (sn_tr G v) j hj
    rw [this]
    exact congrArg some (congrFun sn_upd_w j)
  unfold u_lay at hlay
  by_cases hF : (sn_T ci k).2.2.2 = true
  · rw [if_pos hF] at hlay
    rw [f4] at hF
    have hM : sn_in M = true ∧ sn_oc M = ci := by
      rcases hfin with h | h
      · rw [h] at hF; cases hF
      · exact h
    have hcf : m.cls = cf := by
      obtain ⟨_, _, c', _, _, _, -, -, hf', -, -, -, hown2, -⟩ := Cond.laysFinal_spec hlay
      have e1 : c' = cf := by have := hi.symm.trans hf'; simp at this; exact this.1.symm
      rw [f3, ← hM.2] at hown2
      rw [← e1]; exact Option.some.inj (x6.symm.trans hown2)
    have h6 := u_fits hfc hkC hkind (Or.inr hlay) hi (sn_tc_ok f1 k f2) hff.1 hff.2
    dsimp only at hi
    rw [f3] at hi
    refine W.putFinK x1 x2 x6 hlink hi hst hcf (x7 hM.1) (by rw [q2]; exact h6) q1 q3 (by rw [hsl]; exact k2_hasslot (q4 k f2)) rfl rfl hd fun H' e1 e2 e3 => ?_
    rw [hsl] at e1 ⊢
    exact fin H' e1 e2 e3
  · rw [if_neg hF] at hlay
    have h6 := u_store hfc hkC hkind hlay hi (sn_tc_ok f1 k f2) hff.1 hff.2
    dsimp only at hi
    rw [f3] at hi
    refine W.putK x1 x2 (f := f) ⟨x6, hlink, ⟨_, _, _, hi⟩, hst⟩ (by rw [q2]; exact h6) q1 q3 (by rw [hsl]; exact k2_hasslot (q4 k f2)) rfl rfl hd fun H' e1 e2 e3 => ?_
    rw [hsl] at e1 ⊢
    exact fin H' e1 e2 e3
theorem sn_k_gets (X : sn_Cx G M p R s m args meth c) (hd : decode (sn_bc M) pc = .ok (.getstatic 458, 3)) (hM : sn_oc M = 9) (S : sn_Sr G M s H locs ls lv r h) (kk : sn_K G M p l e R s m args below meth c cells slots Q h (pc + 3, lv, sn_r 1 :: r, h)) :
    W p l e R s m args below meth c H locs cells slots Q (F0 m pc ls (r.map (sn_tr G))) := by
  obtain ⟨x1, x2, x3, x4, x5, x6, x7, x8, x9, x10, x11, x12, x13⟩ := X
  rw [hM] at x6
  refine va_gets x1 x2 x10.2.1 S.2.1 x6 (x8 _ sn_ws_static) (fun _ h => h) hd ?_
  exact kk.go (st' := sn_r 1 :: r) S.1 S.2.1 S.2.2.1 (sn_wf1 (v := sn_r 1) trivial S.2.2.2)
theorem sn_idx_iff {q tag : Nat} {i : Int} (hi : sn_idx h q i tag = true) : q < h.1 ∧ (h.2.2.1 q).1 = tag ∧ 0 ≤ i ∧ i < ((h.2.2.1 q).2 : Int) := by
  unfold sn_idx at hi
  simp only [Bool.and_eq_true, decide_eq_true_eq] at hi
  exact ⟨hi.1.1.1, hi.1.1.2, hi.1.2, hi.2⟩
theorem sn_clamp {i : Int} (h1 : 0 ≤ i) (h2 : i ≤ 2147483647) : (Int32.ofInt i).toNatClampNeg = i.toNat := Int32.toNatClampNeg_ofInt_of_le (by omega) (by omega)
theorem sn_inn {i : Int} {n : Nat} (h1 : 0 ≤ i) (h2 : i ≤ 2147483647) (h3 : i < (n : Int)) : ¬ (Int32.ofInt i < 0 ∨ n ≤ (Int32.ofInt i).toNatClampNeg) := by
  rw [sn_clamp h1 h2]
  rintro (h | h)
  · rw [Int32.lt_iff_toInt_lt, sn_to ⟨by omega, h2⟩, Int32.toInt_zero] at h
    omega
  · omega
theorem sn_k_iald {q : Nat} {i : Int} (X : sn_Cx G M p R s m args meth c) (hd : decode (sn_bc M) pc = .ok (.iaload, 1)) (S : sn_Sr G M s H locs ls lv (sn_i i :: sn_r q :: r) h) (hi : sn_idx h q i 100 = true) (kk : sn_K G M p l e R s m args below meth c cells slots Q h (pc + 1, lv, h.2.2.2 q i.toNat :: r, h)) :
    W p l e R s m args below meth c H locs cells slots Q (F0 m pc ls ((sn_i i :: sn_r q :: r).map (sn_tr G))) := by
  obtain ⟨x1, x2, x3, x4, x5, x6, x7, x8, x9, x10, x11, x12, x13⟩ := X
  obtain ⟨i1, i2, i3, i4⟩ := sn_idx_iff hi
  have hw : -2147483648 ≤ i ∧ i ≤ 2147483647 := sn_wfH S.2.2.2
  have hgo := kk.go (locs := locs) S.1 S.2.1 S.2.2.1 (sn_wf1 (S.1.2.2.2.1 q i.toNat) (sn_wfT (sn_wfT S.2.2.2)))
  obtain ⟨a1, a2, a3, a4, a5, a6, a7, a8, a9⟩ := S.1
  by_cases h0 : q = 0
  · subst h0
    rw [a6] at i4
    have i4' : i < (sn_L G : Int) := i4
    refine va_ti (i := Int32.ofInt i) x1 x2 x10.1 S.2.1 (sn_inn i3 hw.2 i4') (v := sn_tr G (h.2.2.2 0 i.toNat)) ?_ hd hgo
    rw [sn_clamp i3 hw.2, a7 i.toNat (by omega)]
    show Value.int _ = Value.int (Int32.ofInt _)
    rw [Int32.ofInt_toInt]
  · by_cases h1 : q = 1
    · subst h1
      rw [a8] at i4
      have i4' : i < ((7 : Nat) : Int) := i4
      refine va_ti (i := Int32.ofInt i) x1 x2 x10.2.2.1 S.2.1 (sn_inn i3 hw.2 i4') (v := sn_tr G (h.2.2.2 1 i.toNat)) ?_ hd hgo
      rw [sn_clamp i3 hw.2, a9 i.toNat (by omega)]
      rfl
    · have hq := (a3 q (by omega) i1).arr i2
      refine W.iald (j := Int32.ofInt i) (v := sn_tr G (h.2.2.2 q i.toNat)) x1 x2 hq ((x9.2 0 _ rfl).1 _ _) (fun z => by cases z) (by rw [arrV_size]; exact sn_inn i3 hw.2 i4) (by rw [sn_clamp i3 hw.2, arrV_read _ _ (by omega)]) rfl rfl hd hgo
theorem sn_k_bald {q : Nat} {i : Int} (X : sn_Cx G M p R s m args meth c) (hd : decode (sn_bc M) pc = .ok (.baload, 1)) (S : sn_Sr G M s H locs ls lv (sn_i i :: sn_r q :: r) h) (hi : sn_idx h q i 101 = true) (kk : sn_K G M p l e R s m args below meth c cells slots Q h (pc + 1, lv, h.2.2.2 q i.toNat :: r, h)) :
    W p l e R s m args below meth c H locs cells slots Q (F0 m pc ls ((sn_i i :: sn_r q :: r).map (sn_tr G))) := by
  obtain ⟨x1, x2, x3, x4, x5, x6, x7, x8, x9, x10, x11, x12, x13⟩ := X
  obtain ⟨i1, i2, i3, i4⟩ := sn_idx_iff hi
  have hw : -2147483648 ≤ i ∧ i ≤ 2147483647 := sn_wfH S.2.2.2
  have hgo := kk.go (locs := locs) S.1 S.2.1 S.2.2.1 (sn_wf1 (S.1.2.2.2.1 q i.toNat) (sn_wfT (sn_wfT S.2.2.2)))
  obtain ⟨a1, a2, a3, a4, a5, a6, a7, a8, a9⟩ := S.1
  have h0 : 2 ≤ q := by
    rcases (show q = 0 ∨ q = 1 ∨ 2 ≤ q by omega) with rfl | rfl | h
    · rw [a6] at i2; cases i2
    · rw [a8] at i2; cases i2
    · exact h
  have hq := (a3 q h0 i1).arrZ i2
  exact W.zald (j := Int32.ofInt i) (v := sn_tr G (h.2.2.2 q i.toNat)) x1 x2 hq ((x9.2 1 _ rfl).1 _ _) (fun z => by cases z) (by rw [arrV_size]; exact sn_inn i3 hw.2 i4) (by rw [sn_clamp i3 hw.2, arrV_read _ _ (by omega)]) rfl rfl hd hgo
theorem sn_k_aald {q : Nat} {i : Int} (X : sn_Cx G M p R s m args meth c) (hd : decode (sn_bc M) pc = .ok (.aaload, 1)) (S : sn_Sr G M s H locs ls lv (sn_i i :: sn_r q :: r) h) (hi : sn_idx h q i 102 = true) (kk : sn_K G M p l e R s m args below meth c cells slots Q h (pc + 1, lv, h.2.2.2 q i.toNat :: r, h)) :
    W p l e R s m args below meth c H locs cells slots Q (F0 m pc ls ((sn_i i :: sn_r q :: r).map (sn_tr G))) := by
  obtain ⟨x1, x2, x3, x4, x5, x6, x7, x8, x9, x10, x11, x12, x13⟩ := X
  obtain ⟨i1, i2, i3, i4⟩ := sn_idx_iff hi
  have hw : -2147483648 ≤ i ∧ i ≤ 2147483647 := sn_wfH S.2.2.2
  have hgo := kk.go (locs := locs) S.1 S.2.1 S.2.2.1 (sn_wf1 (S.1.2.2.2.1 q i.toNat) (sn_wfT (sn_wfT S.2.2.2)))
  obtain ⟨a1, a2, a3, a4, a5, a6, a7, a8, a9⟩ := S.1
  have h0 : 2 ≤ q := by
    rcases (show q = 0 ∨ q = 1 ∨ 2 ≤ q by omega) with rfl | rfl | h
    · rw [a6] at i2; cases i2
    · rw [a8] at i2; cases i2
    · exact h
  have hq := (a3 q h0 i1).arrQ i2
  exact W.aald (j := Int32.ofInt i) (v := sn_tr G (h.2.2.2 q i.toNat)) (ty := .array .int) x1 x2 hq ((x9.2 2 _ rfl).1 _ _) rfl (fun z => by cases z) (by rw [arrV_size]; exact sn_inn i3 hw.2 i4) (by rw [sn_clamp i3 hw.2, arrV_read _ _ (by omega)]) rfl rfl hd hgo
theorem sn_k_alen {q : Nat} (X : sn_Cx G M p R s m args meth c) (hd : decode (sn_bc M) pc = .ok (.arraylength, 1)) (S : sn_Sr G M s H locs ls lv (sn_r q :: r) h) (h1 : q < h.1) (ht : (h.2.2.1 q).1 = 100 ∨ (h.2.2.1 q).1 = 101) (kk : sn_K G M p l e R s m args below meth c cells slots Q h (pc + 1, lv, sn_i ((h.2.2.1 q).2 : Int) :: r, h)) :
    W p l e R s m args below meth c H locs cells slots Q (F0 m pc ls ((sn_r q :: r).map (sn_tr G))) := by
  obtain ⟨x1, x2, x3, x4, x5, x6, x7, x8, x9, x10, x11, x12, x13⟩ := X
  have hgo := kk.go (locs := locs) S.1 S.2.1 S.2.2.1 (sn_wf1 (v := sn_i _) (show -2147483648 ≤ ((h.2.2.1 q).2 : Int) ∧ ((h.2.2.1 q).2 : Int) ≤ 2147483647 from ⟨by omega, S.1.2.2.2.2.1 q⟩) (sn_wfT S.2.2.2))
  obtain ⟨a1, a2, a3, a4, a5, a6, a7, a8, a9⟩ := S.1
  have ev : sn_tr G (sn_i ((h.2.2.1 q).2 : Int)) = .int (Int32.ofNat (h.2.2.1 q).2) := by
    show Value.int (Int32.ofInt _) = _
    rw [Int32.ofInt_eq_ofNat]
  rw [List.map_cons, ev] at hgo
  by_cases h0 : q = 0
  · subst h0
    rw [a6] at hgo
    exact va_tlen (v := Int32.ofNat (sn_L G)) x1 x2 x10.1 S.2.1 rfl hd hgo
  · by_cases h11 : q = 1
    · subst h11
      rw [a8] at hgo
      exact va_tlen (v := Int32.ofNat 7) x1 x2 x10.2.2.1 S.2.1 rfl hd hgo
    · rcases ht with ht | ht
      · exact W.alen (n := Int32.ofNat (h.2.2.1 q).2) x1 x2 ((a3 q (by omega) h1).arr ht) ((x9.2 0 _ rfl).1 _ _) (by rw [arrV_size]) rfl rfl hd hgo
      · exact W.alen (n := Int32.ofNat (h.2.2.1 q).2) x1 x2 ((a3 q (by omega) h1).arrZ ht) ((x9.2 1 _ rfl).1 _ _) (by rw [arrV_size]) rfl rfl hd hgo
theorem sn_k_iast {q : Nat} {i z : Int} (X : sn_Cx G M p R s m args meth c) (hd : decode (sn_bc M) pc = .ok (.iastore, 1)) (S : sn_Sr G M s H locs ls lv (sn_i z :: sn_i i :: sn_r q :: r) h) (hi : sn_idx h q i 100 = true) (h2 : 2 ≤ q) (kk : sn_K G M p l e R s m args below meth c cells slots Q h (pc + 1, lv, r, (h.1, h.2.1, h.2.2.1, sn_w h.2.2.2 q i.toNat (sn_i z)))) :
    W p l e R s m args below meth c H locs cells slots Q (F0 m pc ls ((sn_i z :: sn_i i :: sn_r q :: r).map (sn_tr G))) := by
  obtain ⟨x1, x2, x3, x4, x5, x6, x7, x8, x9, x10, x11, x12, x13⟩ := X
  obtain ⟨i1, i2, i3, i4⟩ := sn_idx_iff hi
  have hw : -2147483648 ≤ i ∧ i ≤ 2147483647 := sn_wfH (sn_wfT S.2.2.2)
  have hq := (S.1.ge h2 i1).arr i2
  refine W.iast (j := Int32.ofInt i) (x := Int32.ofInt z) x1 x2 hq ((x9.2 0 _ rfl).1 _ _) (fun z => by cases z) (by rw [arrV_size]; exact sn_inn i3 hw.2 i4) rfl rfl hd fun H' e1 e2 e3 => ?_
  refine kk.put (S.1.put h2 (sn_wfH S.2.2.2) e2 e3 ?_) (S.2.1.put e2 e3 (sn_adA G h2)) S.2.2.1 (sn_wfT (sn_wfT (sn_wfT S.2.2.2)))
  unfold sn_at
  dsimp only
  rw [i2, if_neg (by decide), if_pos rfl, e1, arrV_store, sn_clamp i3 hw.2, ← sn_upd_w]
  rfl
theorem sn_k_bast {q : Nat} {i z : Int} (X : sn_Cx G M p R s m args meth c) (hd : decode (sn_bc M) pc = .ok (.bastore, 1)) (S : sn_Sr G M s H locs ls lv (sn_i z :: sn_i i :: sn_r q :: r) h) (hi : sn_idx h q i 101 = true) (h2 : 2 ≤ q) (hz : z = 0 ∨ z = 1) (kk : sn_K G M p l e R s m args below meth c cells slots Q h (pc + 1, lv, r, (h.1, h.2.1, h.2.2.1, sn_w h.2.2.2 q i.toNat (sn_i z)))) :
    W p l e R s m args below meth c H locs cells slots Q (F0 m pc ls ((sn_i z :: sn_i i :: sn_r q :: r).map (sn_tr G))) := by
  obtain ⟨x1, x2, x3, x4, x5, x6, x7, x8, x9, x10, x11, x12, x13⟩ := X
  obtain ⟨i1, i2, i3, i4⟩ := sn_idx_iff hi
  have hw : -2147483648 ≤ i ∧ i ≤ 2147483647 := sn_wfH (sn_wfT S.2.2.2)
  have hq := (S.1.ge h2 i1).arrZ i2
  refine W.zast (j := Int32.ofInt i) (x := Int32.ofInt z) x1 x2 hq ((x9.2 1 _ rfl).1 _ _) (fun z => by cases z) (by rw [arrV_size]; exact sn_inn i3 hw.2 i4) rfl rfl hd fun H' e1 e2 e3 => ?_
  have hn : narrow .boolean (.int (Int32.ofInt z)) = sn_tr G (sn_i z) := by rcases hz with rfl | rfl <;> rfl
  refine kk.put (S.1.put h2 (sn_wfH S.2.2.2) e2 e3 ?_) (S.2.1.put e2 e3 (sn_adA G h2)) S.2.2.1 (sn_wfT (sn_wfT (sn_wfT S.2.2.2)))
  unfold sn_at
  dsimp only
  rw [i2, if_neg (by decide), if_neg (by decide), if_pos rfl, e1, hn, arrV_store, sn_clamp i3 hw.2, ← sn_upd_w]
end SNH
end
section
/-! ===== making objects and arrays ===== -/
section SNM
variable {G : sn_P} {p : Program} {l : Launch} {e : Env} {R : Room} {s : State} {m : MethodId} {args : Array Value} {below : List Frame} {meth : Method} {c : Code} {H : Heap} {locs : List Loc} {cells slots : Nat} {Q : State → Prop} {M pc : Nat} {ls : Array Slot} {lv r : List sn_V} {h : sn_H}
theorem sn_Rp.adn {h : sn_H} {H : Heap} (S : sn_Rp G h H) : sn_ad G h.1 = H.size := by
  rw [sn_ad2 G S.1, S.2.1]
theorem sn_Rp.adlt {h : sn_H} {H : Heap} (S : sn_Rp G h H) {q : Nat} (h2 : 2 ≤ q) (h1 : q < h.1) : sn_ad G q < H.size := by
  rw [sn_ad2 G h2, S.2.1]
  omega
/-- one place more -/
theorem sn_Rp.push {h : sn_H} {H H' : Heap} {tag len : Nat} {f : Nat → sn_V} (S : sn_Rp G h H) (hz : H'.size = H.size + 1) (ho : ∀ a : Nat, a < H.size → H'[a]? = H[a]?) (hlen : (len : Int) ≤ 2147483647) (hf : ∀ i, sn_wf (f i))
    (hq : sn_at G (sn_pu h tag len f) h.1 H') : sn_Rp G (sn_pu h tag len f) H' := by
  have hlt : ∀ q, 2 ≤ q → q < h.1 → sn_ad G q < H.size := fun q h2 h1 => S.adlt h2 h1
  obtain ⟨a1, a2, a3, a4, a5, a6, a7, a8, a9⟩ := S
  refine ⟨Nat.le_trans a1 (Nat.le_succ _), ?_, fun q g2 g1 => ?_, fun q i => ?_, fun q => ?_, ?_, fun j hj => ?_, ?_, fun j hj => ?_⟩
  · rw [hz, a2]
    show _ = _ + (h.1 + 1 - 2)
    omega
  · by_cases e : q = h.1
    · rw [e]; exact hq
    · have g1' : q < h.1 + 1 := g1
      refine (a3 q g2 (by omega)).kept ?_ ?_ (ho _ (hlt q g2 (by omega)))
      · exact if_neg e
      · funext i
        exact if_neg e
  · show sn_wf (if q = h.1 then f i else h.2.2.2 q i)
    split
    · exact hf i
    · exact a4 q i
  · show (((if q = h.1 then (tag, len) else h.2.2.1 q) : Nat × Nat).2 : Int) ≤ _
    split
    · exact hlen
    · exact a5 q
  · show (if 0 = h.1 then (tag, len) else h.2.2.1 0) = _
    rw [if_neg (by omega)]; exact a6
  · show (if 0 = h.1 then f j else h.2.2.2 0 j) = _
    rw [if_neg (by omega)]; exact a7 j hj
  · show (if 1 = h.1 then (tag, len) else h.2.2.1 1) = _
    rw [if_neg (by omega)]; exact a8
  · show (if 1 = h.1 then f j else h.2.2.2 1 j) = _
    rw [if_neg (by omega)]; exact a9 j hj
theorem sn_S.push {H H' : Heap} (hS : va_S (sn_A G) s.heap H locs) (hz : H.size ≤ H'.size) (ho : ∀ a : Nat, a < H.size → H'[a]? = H[a]?) : va_S (sn_A G) s.heap H' locs :=
  ⟨Nat.le_trans hS.1 hz, fun x h1 h2 => (ho x (Nat.lt_of_lt_of_le h1 hS.1)).trans (hS.2.1 x h1 h2), hS.2.2⟩
theorem sn_K.push {tag len : Nat} {f : Nat → sn_V} {pc' : Nat} {lv' st' : List sn_V} {H' : Heap} (kk : sn_K G M p l e R s m args below meth c cells slots Q h (pc', lv', st', sn_pu h tag len f)) (h1 : sn_Rp G (sn_pu h tag len f) H') (h2 : va_S (sn_A G) s.heap H' locs) (h3 : sn_Ls G ls M lv') (h4 : ∀ v ∈ st', sn_wf v) :
    W p l e R s m args below meth c H' locs (cells + 1) (slots + len) Q (F0 m pc' ls (st'.map (sn_tr G))) := by
  have k := kk H' locs ls ⟨h1, h2, h3, h4⟩
  have e1 : (sn_pu h tag len f).1 - h.1 = 1 := by show h.1 + 1 - h.1 = 1; omega
  have e2 : (sn_pu h tag len f).2.1 - h.2.1 = len := by show h.2.1 + len - h.2.1 = len; omega
  dsimp only at k
  rw [e1, e2] at k
  exact k
theorem sn_k_new {i ci : Nat} (X : sn_Cx G M p R s m args meth c) (hd : decode (sn_bc M) pc = .ok (.new i, 3)) (S : sn_Sr G M s H locs ls lv r h) (hf : sn_pn (sn_oc M) i = some ci) (hc : cells + 1 ≤ R.cells) (hs : slots + sn_nf ci ≤ R.slots) (kk : sn_K G M p l e R s m args below meth c cells slots Q h (pc + 3, lv, sn_r h.1 :: r, sn_pu h ci (sn_nf ci) (fun k => if sn_ft ci k = 2 then sn_n else sn_i 0))) :
    W p l e R s m args below meth c H locs cells slots Q (F0 m pc ls (r.map (sn_tr G))) := by
  obtain ⟨x1, x2, x3, x4, x5, x6, x7, x8, x9, x10, x11, x12, x13⟩ := X
  obtain ⟨f1, f2, f3, f4⟩ := sn_pnl_ok _ (sn_find (o := sn_oc M) (i := i) (x := ci) hf)
  dsimp only at f1 f2 f3 f4
  have hKn := x9.1 ci _ (sn_cls_at f1)
  have hnl : ((sn_nf ci : Nat) : Int) ≤ 2147483647 := by
    rcases sn_lt10 f1 with rfl | rfl | rfl | rfl | rfl | rfl | rfl | rfl | rfl | rfl <;> decide
  refine W.newcK x1 x2 x6 (x8 _ f2) (x8 _ f3) (x8 _ f4) rfl hd hc hs hKn.2.1 (h := H.size) rfl fun H' kC hkC e1 z1 o1 => ?_
  have hb := u_born (o := H.size) (H := H') (sn_tc ci) x8 (sn_inl f1) hKn hkC e1 (sn_tc_ok f1)
  have hR := S.1.push (tag := ci) (len := sn_nf ci) (f := fun k => if sn_ft ci k = 2 then sn_n else sn_i 0) z1 o1 hnl (fun k => by split <;> first | trivial | (show (-2147483648 : Int) ≤ 0 ∧ (0 : Int) ≤ 2147483647; decide)) (by
    unfold sn_at
    rw [show (sn_pu h ci (sn_nf ci) (fun k => if sn_ft ci k = 2 then sn_n else sn_i 0)).2.2.1 h.1 = (ci, sn_nf ci) from if_pos rfl]
    dsimp only
    rw [if_pos f1]
    refine ⟨rfl, ?_⟩
    rw [S.1.adn]
    refine hb.to (fun k hk => ?_)
    show _ = sn_tr G (if h.1 = h.1 then (if sn_ft ci k = 2 then sn_n else sn_i 0) else h.2.2.2 h.1 k)
    rw [if_pos rfl]
    rcases sn_ft_ok ci f1 k hk with ⟨t1, t2⟩ | ⟨t1, t2⟩ | ⟨t1, t2⟩
    · rw [t1, t2, if_neg (by decide)]; rfl
    · rw [t1, t2, if_neg (by decide)]; rfl
    · rw [t1, if_pos rfl]
      generalize sn_tc ci k = ty at t2
      cases ty <;> first | (cases t2; done) | rfl)
  have k := kk.push (locs := locs) hR (sn_S.push S.2.1 (by omega) o1) S.2.2.1 (sn_wf1 (v := sn_r h.1) trivial S.2.2.2)
  have e : (sn_r h.1 :: r).map (sn_tr G) = .ref H.size :: r.map (sn_tr G) := by
    show Value.ref (sn_ad G h.1) :: _ = _
    rw [S.1.adn]
  rw [e] at k
  exact k
theorem sn_k_newaI {z : Int} (X : sn_Cx G M p R s m args meth c) (hd : decode (sn_bc M) pc = .ok (.newarray .int, 2)) (S : sn_Sr G M s H locs ls lv (sn_i z :: r) h) (h0 : 0 ≤ z) (h9 : z ≤ 100000) (hc : cells + 1 ≤ R.cells) (hs : slots + z.toNat ≤ R.slots) (kk : sn_K G M p l e R s m args below meth c cells slots Q h (pc + 2, lv, sn_r h.1 :: r, sn_pu h 100 z.toNat (fun _ => sn_i 0))) :
    W p l e R s m args below meth c H locs cells slots Q (F0 m pc ls ((sn_i z :: r).map (sn_tr G))) := by
  obtain ⟨x1, x2, x3, x4, x5, x6, x7, x8, x9, x10, x11, x12, x13⟩ := X
  refine va_newaK (atype := .int) (n := Int32.ofInt z) (N := z.toNat) x1 x2 (x8 _ sn_ws_arr.1) rfl hd rfl ?_ (sn_clamp h0 (by omega)) (by show z.toNat * 4 ≤ _; omega) hc hs (h := H.size) rfl fun H' cA e1 z1 o1 hAr hNm => ?_
  · intro hlt
    rw [Int32.lt_iff_toInt_lt, sn_to ⟨by omega, by omega⟩, Int32.toInt_zero] at hlt
    omega
  have hcA : cA = sn_cI G := Option.some.inj (hNm.symm.trans (x9.2 0 _ rfl).2)
  subst hcA
  have hR := S.1.push (tag := 100) (len := z.toNat) (f := fun _ => sn_i 0) z1 o1 (by omega) (fun k => by show (-2147483648 : Int) ≤ 0 ∧ (0 : Int) ≤ 2147483647; decide) (by
    unfold sn_at
    rw [show (sn_pu h 100 z.toNat (fun _ => sn_i 0)).2.2.1 h.1 = (100, z.toNat) from if_pos rfl]
    dsimp only
    rw [if_neg (by decide), if_pos rfl, S.1.adn, e1]
    refine congrArg (fun f => some (arrV (sn_cI G) z.toNat f)) (funext fun k => ?_)
    show _ = sn_tr G (if h.1 = h.1 then sn_i 0 else h.2.2.2 h.1 k)
    rw [if_pos rfl]
    rfl)
  have k := kk.push (locs := locs) hR (sn_S.push S.2.1 (by omega) o1) S.2.2.1 (sn_wf1 (v := sn_r h.1) trivial (sn_wfT S.2.2.2))
  have e : (sn_r h.1 :: r).map (sn_tr G) = .ref H.size :: r.map (sn_tr G) := by
    show Value.ref (sn_ad G h.1) :: _ = _
    rw [S.1.adn]
  rw [e] at k
  exact k
theorem sn_k_newaZ {z : Int} (X : sn_Cx G M p R s m args meth c) (hd : decode (sn_bc M) pc = .ok (.newarray .boolean, 2)) (S : sn_Sr G M s H locs ls lv (sn_i z :: r) h) (h0 : 0 ≤ z) (h9 : z ≤ 100000) (hc : cells + 1 ≤ R.cells) (hs : slots + z.toNat ≤ R.slots) (kk : sn_K G M p l e R s m args below meth c cells slots Q h (pc + 2, lv, sn_r h.1 :: r, sn_pu h 101 z.toNat (fun _ => sn_i 0))) :
    W p l e R s m args below meth c H locs cells slots Q (F0 m pc ls ((sn_i z :: r).map (sn_tr G))) := by
  obtain ⟨x1, x2, x3, x4, x5, x6, x7, x8, x9, x10, x11, x12, x13⟩ := X
  refine va_newaK (atype := .boolean) (n := Int32.ofInt z) (N := z.toNat) x1 x2 (x8 _ sn_ws_arr.2) rfl hd rfl ?_ (sn_clamp h0 (by omega)) (by show z.toNat * 1 ≤ _; omega) hc hs (h := H.size) rfl fun H' cA e1 z1 o1 hAr hNm => ?_
  · intro hlt
    rw [Int32.lt_iff_toInt_lt, sn_to ⟨by omega, by omega⟩, Int32.toInt_zero] at hlt
    omega
  have hcA : cA = sn_cZ G := Option.some.inj (hNm.symm.trans (x9.2 1 _ rfl).2)
  subst hcA
  have hR := S.1.push (tag := 101) (len := z.toNat) (f := fun _ => sn_i 0) z1 o1 (by omega) (fun k => by show (-2147483648 : Int) ≤ 0 ∧ (0 : Int) ≤ 2147483647; decide) (by
    unfold sn_at
    rw [show (sn_pu h 101 z.toNat (fun _ => sn_i 0)).2.2.1 h.1 = (101, z.toNat) from if_pos rfl]
    dsimp only
    rw [if_neg (by decide), if_neg (by decide), if_pos rfl, S.1.adn, e1]
    refine congrArg (fun f => some (arrV (sn_cZ G) z.toNat f)) (funext fun k => ?_)
    show _ = sn_tr G (if h.1 = h.1 then sn_i 0 else h.2.2.2 h.1 k)
    rw [if_pos rfl]
    rfl)
  have k := kk.push (locs := locs) hR (sn_S.push S.2.1 (by omega) o1) S.2.2.1 (sn_wf1 (v := sn_r h.1) trivial (sn_wfT S.2.2.2))
  have e : (sn_r h.1 :: r).map (sn_tr G) = .ref H.size :: r.map (sn_tr G) := by
    show Value.ref (sn_ad G h.1) :: _ = _
    rw [S.1.adn]
  rw [e] at k
  exact k
theorem sn_outer (c : ClassId) (N h0 : Nat) : ∀ i : Nat, Jvm.Free.Multi.outerC c N h0 i = arrV c N (fun j => if j < i then .ref (h0 + 1 + j) else .null)
  | 0 => by
    show ({ cls := c, slots := Array.replicate N .null, vm := .none } : Cell) = _
    rw [arrV_new]
    refine congrArg (arrV c N) (funext fun j => ?_)
    rw [if_neg (Nat.not_lt_zero j)]
  | i + 1 => by
    show (Jvm.Free.Multi.outerC c N h0 i).setSlot i (.ref (h0 + 1 + i)) = _
    rw [sn_outer c N h0 i, arrV_store]
    refine congrArg (arrV c N) (funext fun j => ?_)
    show (if j = i then _ else (if j < i then _ else _)) = _
    by_cases e : j = i
    · subst e
      rw [if_pos rfl, if_pos (Nat.lt_succ_self _)]
    · rw [if_neg e]
      by_cases h : j < i
      · rw [if_pos h, if_pos (Nat.lt_succ_of_lt h)]
      · rw [if_neg h, if_neg (by omega)]
theorem sn_k_mna {za zb : Int} (X : sn_Cx G M p R s m args meth c) (hd : decode (sn_bc M) pc = .ok (.multianewarray 9 2, 4)) (hM : sn_oc M ∈ [0, 1, 2, 4]) (S : sn_Sr G M s H locs ls lv (sn_i zb :: sn_i za :: r) h) (ha0 : 0 ≤ za) (ha9 : za ≤ 1000) (hb0 : 0 ≤ zb) (hb9 : zb ≤ 1000) (hc : cells + (1 + za.toNat) ≤ R.cells) (hs : slots + (za.toNat + za.toNat * zb.toNat) ≤ R.slots) (kk : sn_K G M p l e R s m args below meth c cells slots Q h (pc + 4, lv, sn_r h.1 :: r, sn_pm h za.toNat zb.toNat)) :
    W p l e R s m args below meth c H locs cells slots Q (F0 m pc ls ((sn_i zb :: sn_i za :: r).map (sn_tr G))) := by
  obtain ⟨x1, x2, x3, x4, x5, x6, x7, x8, x9, x10, x11, x12, x13⟩ := X
  intro T hT Xs
  have ea := sn_clamp ha0 (show za ≤ 2147483647 by omega)
  have eb := sn_clamp hb0 (show zb ≤ 2147483647 by omega)
  have hneg : ∀ z : Int, 0 ≤ z → z ≤ 1000 → ¬ Int32.ofInt z < 0 := fun z z0 z9 hlt => by
    rw [Int32.lt_iff_toInt_lt, sn_to ⟨by omega, by omega⟩, Int32.toInt_zero] at hlt
    omega
  obtain ⟨vm₁, cA, comp, -, fA, fC, hO, -, X', step⟩ := Xs.multianewarray2F x1 (n := Int32.ofInt za) (k := Int32.ofInt zb) (rest := r.map (sn_tr G)) x6 (x8 _ (sn_ws_mna _ hM)) x10.2.2.2.2.2.1 (x8 _ sn_ws_arr.1) (g := F0 m pc ls ((sn_i zb :: sn_i za :: r).map (sn_tr G))) rfl (by rw [x2]; exact hd) rfl (hneg za ha0 ha9) (hneg zb hb0 hb9) (by rw [ea]; omega) (by rw [eb]; show zb.toNat * 4 ≤ _; omega) (by rw [eb]; omega) rfl rfl (by rw [ea]; exact hc) (by rw [ea, eb]; exact hs)
  rw [ea, eb] at X' step
  have e1 : comp = sn_cI G := Option.some.inj (fC.symm.trans (x9.2 0 _ rfl).2)
  have e2 : cA = sn_cQ G := Option.some.inj (fA.symm.trans (x9.2 2 _ rfl).2)
  subst e1; subst e2
  generalize hF : Jvm.Free.Multi.fill (T.setVm vm₁) (sn_cQ G) (sn_cI G) za.toNat zb.toNat (defaultValue .int) za.toNat = F at X' step
  have hTh : (T.setVm vm₁).heap = H := hT
  obtain ⟨f1, f2, -, -⟩ := Jvm.Free.Multi.fill_facts (T.setVm vm₁) (sn_cQ G) (sn_cI G) za.toNat zb.toNat (defaultValue .int) za.toNat
  rw [hF, hTh] at f1 f2
  have hold : ∀ x : Nat, x < H.size → F.heap[x]? = H[x]? := fun x hx => by
    have := Jvm.Free.Multi.fill_old (T.setVm vm₁) (sn_cQ G) (sn_cI G) za.toNat zb.toNat (defaultValue .int) (a := x) (by rw [hTh]; exact hx) za.toNat
    rw [hF, hTh] at this
    exact this
  have hrow : ∀ j : Nat, j < za.toNat → F.heap[H.size + 1 + j]? = some (Jvm.Free.Multi.innerC (sn_cI G) zb.toNat (defaultValue .int)) := fun j hj => by
    have := Jvm.Free.Multi.fill_inner (T.setVm vm₁) (sn_cQ G) (sn_cI G) za.toNat zb.toNat (defaultValue .int) za.toNat j hj
    rw [hF, hTh] at this
    exact this
  rw [sn_outer] at f2
  have hin : Jvm.Free.Multi.innerC (sn_cI G) zb.toNat (defaultValue .int) = arrV (sn_cI G) zb.toNat (fun _ => .int 0) := arrV_new (sn_cI G) zb.toNat (.int 0)
  rw [hin] at hrow
  have hR : sn_Rp G (sn_pm h za.toNat zb.toNat) F.heap := by
    have hlt : ∀ q, 2 ≤ q → q < h.1 → sn_ad G q < H.size := fun q h2 h1 => S.1.adlt h2 h1
    have hadn := S.1.adn
    obtain ⟨a1, a2, a3, a4, a5, a6, a7, a8, a9⟩ := S.1
    refine ⟨by show 2 ≤ h.1 + 1 + za.toNat; omega, ?_, fun q g2 g1 => ?_, fun q i => ?_, fun q => ?_, ?_, fun j hj => ?_, ?_, fun j hj => ?_⟩
    · show F.heap.size = _ + (h.1 + 1 + za.toNat - 2)
      rw [f1, a2]
      omega
    · have g1' : q < h.1 + 1 + za.toNat := g1
      by_cases eq : q = h.1
      · subst eq
        unfold sn_at
        rw [show (sn_pm h za.toNat zb.toNat).2.2.1 h.1 = (102, za.toNat) from if_pos rfl]
        dsimp only
        rw [if_neg (by decide), if_neg (by decide), if_neg (by decide), if_pos rfl, hadn, f2]
        refine congrArg (fun f => some (arrV (sn_cQ G) za.toNat f)) (funext fun k => ?_)
        show _ = sn_tr G (if h.1 = h.1 then (if k < za.toNat then sn_r (h.1 + 1 + k) else sn_n) else _)
        rw [if_pos rfl]
        by_cases hk : k < za.toNat
        · rw [if_pos hk, if_pos hk]
          show Value.ref _ = Value.ref (sn_ad G _)
          have e9 : sn_ad G (h.1 + 1 + k) = H.size + 1 + k := by
            rw [sn_ad2 G (by omega), a2]
            omega
          rw [e9]
        · rw [if_neg hk, if_neg hk]
          rfl
      · by_cases hq : h.1 < q
        · unfold sn_at
          rw [show (sn_pm h za.toNat zb.toNat).2.2.1 q = (100, zb.toNat) from (if_neg eq).trans (if_pos ⟨hq, g1'⟩)]
          dsimp only
          rw [if_neg (by decide), if_pos rfl]
          have := hrow (q - h.1 - 1) (by omega)
          rw [show sn_ad G q = H.size + 1 + (q - h.1 - 1) by rw [sn_ad2 G g2, a2]; omega, this]
          refine congrArg (fun f => some (arrV (sn_cI G) zb.toNat f)) (funext fun k => ?_)
          show _ = sn_tr G (if q = h.1 then _ else (if h.1 < q ∧ q < h.1 + 1 + za.toNat then sn_i 0 else _))
          rw [if_neg eq, if_pos ⟨hq, g1'⟩]
          rfl
        · refine (a3 q g2 (by omega)).kept ?_ ?_ (hold _ (hlt q g2 (by omega)))
          · exact (if_neg eq).trans (if_neg (fun z => hq z.1))
          · funext i
            exact (if_neg eq).trans (if_neg (fun z => hq z.1))
    · show sn_wf (if q = h.1 then (if i < za.toNat then sn_r (h.1 + 1 + i) else sn_n) else (if h.1 < q ∧ q < h.1 + 1 + za.toNat then sn_i 0 else h.2.2.2 q i))
      split
      · split <;> trivial
      · split
        · show (-2147483648 : Int) ≤ 0 ∧ (0 : Int) ≤ 2147483647
          decide
        · exact a4 q i
    · show (((if q = h.1 then (102, za.toNat) else (if h.1 < q ∧ q < h.1 + 1 + za.toNat then (100, zb.toNat) else h.2.2.1 q)) : Nat × Nat).2 : Int) ≤ _
      split
      · show (za.toNat : Int) ≤ _
        omega
      · split
        · show (zb.toNat : Int) ≤ _
          omega
        · exact a5 q
    · exact ((if_neg (by omega)).trans (if_neg (by omega))).trans a6
    · exact ((if_neg (by omega)).trans (if_neg (by omega))).trans (a7 j hj)
    · exact ((if_neg (by omega)).trans (if_neg (by omega))).trans a8
    · exact ((if_neg (by omega)).trans (if_neg (by omega))).trans (a9 j hj)
  have k := kk F.heap locs ls ⟨hR, sn_S.push S.2.1 (by rw [f1]; omega) hold, S.2.2.1, sn_wf1 (v := sn_r h.1) trivial (sn_wfT (sn_wfT S.2.2.2))⟩
  have e3 : (sn_pm h za.toNat zb.toNat).1 - h.1 = 1 + za.toNat := by show h.1 + 1 + za.toNat - h.1 = _; omega
  have e4 : (sn_pm h za.toNat zb.toNat).2.1 - h.2.1 = za.toNat + za.toNat * zb.toNat := by show h.2.1 + za.toNat + za.toNat * zb.toNat - h.2.1 = _; omega
  dsimp only at k
  rw [e3, e4, ← Nat.add_assoc, ← Nat.add_assoc] at k
  have e5 : (sn_r h.1 :: r).map (sn_tr G) = .ref T.heap.size :: r.map (sn_tr G) := by
    show Value.ref (sn_ad G h.1) :: _ = _
    rw [S.1.adn, hT]
  rw [e5] at k
  obtain ⟨t, b1, b2⟩ := k F rfl X'
  exact ⟨t, step t b1, b2⟩
end SNM
end
section
/-! ===== what is left of the steps that go on: constants of the pool, switches, Math, Object.<init> ===== -/
section SNR
variable {G : sn_P} {p : Program} {l : Launch} {e : Env} {R : Room} {s : State} {m : MethodId} {args : Array Value} {below : List Frame} {meth : Method} {c : Code} {H : Heap} {locs : List Loc} {cells slots : Nat} {Q : State → Prop} {M pc : Nat} {ls : Array Slot} {lv r st : List sn_V} {h : sn_H}
theorem sn_ld_eq {k : Nat} {ok : sn_V → Bool} {d : Nat × List sn_V × List sn_V × sn_H} (hg : sn_ld pc lv st h k ok = some (.inl d)) : ∃ v, lv[k]? = some v ∧ ok v = true ∧ d = (pc, lv, v :: st, h) := by
  unfold sn_ld at hg
  cases hv : lv[k]? with
  | none => rw [hv] at hg; cases hg
  | some v =>
    rw [hv] at hg
    dsimp only at hg
    by_cases ho : ok v = true
    · rw [if_pos ho] at hg
      cases hg
      exact ⟨v, rfl, ho, rfl⟩
    · rw [if_neg ho] at hg
      cases hg
theorem sn_so_eq {k : Nat} {v : sn_V} {d : Nat × List sn_V × List sn_V × sn_H} (hg : sn_so M pc lv st h k v = some (.inl d)) : k < lv.length ∧ (sn_hl M && decide (0 < k) && sn_two (lv.getD (k - 1) sn_u)) = false ∧ d = (pc, lv.set k v, st, h) := by
  unfold sn_so at hg
  by_cases h1 : k < lv.length
  · rw [if_pos h1] at hg
    by_cases h2 : (sn_hl M && decide (0 < k) && sn_two (lv.getD (k - 1) sn_u)) = true
    · rw [if_pos h2] at hg
      cases hg
    · rw [if_neg h2] at hg
      cases hg
      exact ⟨h1, by simpa using h2, rfl⟩
  · rw [if_neg h1] at hg
    cases hg
theorem sn_so2_eq {k : Nat} {v : sn_V} {d : Nat × List sn_V × List sn_V × sn_H} (hg : sn_so2 M pc lv st h k v = some (.inl d)) : sn_hl M = true ∧ k + 1 < lv.length ∧ (decide (0 < k) && sn_two (lv.getD (k - 1) sn_u)) = false ∧ d = (pc, (lv.set k v).set (k + 1) sn_u, st, h) := by
  unfold sn_so2 at hg
  by_cases h1 : (sn_hl M && decide (k + 1 < lv.length)) = true
  · rw [if_pos h1] at hg
    by_cases h2 : (decide (0 < k) && sn_two (lv.getD (k - 1) sn_u)) = true
    · rw [if_pos h2] at hg
      cases hg
    · rw [if_neg h2] at hg
      cases hg
      rw [Bool.and_eq_true, decide_eq_true_eq] at h1
      exact ⟨h1.1, h1.2, by simpa using h2, rfl⟩
  · rw [if_neg h1] at hg
    cases hg
theorem sn_k_ldc {i : Nat} {z : Int} (X : sn_Cx G M p R s m args meth c) (hd : decode (sn_bc M) pc = .ok (.ldc i, 2)) (S : sn_Sr G M s H locs ls lv r h) (hp : sn_pi (sn_oc M) i = some z) (hn : sn_inR z = true) (kk : sn_K G M p l e R s m args below meth c cells slots Q h (pc + 2, lv, sn_i z :: r, h)) :
    W p l e R s m args below meth c H locs cells slots Q (F0 m pc ls (r.map (sn_tr G))) := by
  obtain ⟨x1, x2, x3, x4, x5, x6, x7, x8, x9, x10, x11, x12, x13⟩ := X
  have h1 := sn_pil_ok _ (sn_find (o := sn_oc M) (i := i) (x := z) hp)
  refine lv_ldc (v := Int32.ofInt z) x1 x2 x6 (x8 _ h1) hd ?_
  exact kk.go S.1 S.2.1 S.2.2.1 (sn_wf1 (sn_inR_iff hn) S.2.2.2)
theorem sn_k_ldc2 {i : Nat} {z : Int} (X : sn_Cx G M p R s m args meth c) (hd : decode (sn_bc M) pc = .ok (.ldc2_w i, 3)) (S : sn_Sr G M s H locs ls lv r h) (hp : sn_pl (sn_oc M) i = some z) (hn : sn_wl z = z) (kk : sn_K G M p l e R s m args below meth c cells slots Q h (pc + 3, lv, sn_l z :: r, h)) :
    W p l e R s m args below meth c H locs cells slots Q (F0 m pc ls (r.map (sn_tr G))) := by
  obtain ⟨x1, x2, x3, x4, x5, x6, x7, x8, x9, x10, x11, x12, x13⟩ := X
  have h1 := sn_pll_ok _ (sn_find (o := sn_oc M) (i := i) (x := z) hp)
  refine lv_ldc2 (v := Int64.ofInt z) x1 x2 x6 (x8 _ h1) hd ?_
  exact kk.go S.1 S.2.1 S.2.2.1 (sn_wf1 (v := sn_l z) hn S.2.2.2)
theorem sn_k_swO {dflt lo hi x : Int} {offs : Array Int} {len : Nat} (X : sn_Cx G M p R s m args meth c) (hd : decode (sn_bc M) pc = .ok (.tableswitch dflt lo hi offs, len)) (S : sn_Sr G M s H locs ls lv (sn_i x :: r) h) (hx : x < lo ∨ hi < x) (ht : (pc : Int) + dflt = ((((pc : Int) + dflt).toNat : Nat) : Int)) (kk : sn_K G M p l e R s m args below meth c cells slots Q h (((pc : Int) + dflt).toNat, lv, r, h)) :
    W p l e R s m args below meth c H locs cells slots Q (F0 m pc ls ((sn_i x :: r).map (sn_tr G))) := by
  have e : (Int32.ofInt x).toInt = x := sn_to (sn_wfH S.2.2.2)
  refine lv_tableOut (x := Int32.ofInt x) X.1 X.2.1 hd (by rw [e]; exact hx) ht ?_
  exact kk.go S.1 S.2.1 S.2.2.1 (sn_wfT S.2.2.2)
theorem sn_k_swI {dflt lo hi x off : Int} {offs : Array Int} {len : Nat} (X : sn_Cx G M p R s m args meth c) (hd : decode (sn_bc M) pc = .ok (.tableswitch dflt lo hi offs, len)) (S : sn_Sr G M s H locs ls lv (sn_i x :: r) h) (h1 : ¬ x < lo) (h2 : ¬ hi < x) (ho : offs[(x - lo).toNat]? = some off) (ht : (pc : Int) + off = ((((pc : Int) + off).toNat : Nat) : Int)) (kk : sn_K G M p l e R s m args below meth c cells slots Q h (((pc : Int) + off).toNat, lv, r, h)) :
    W p l e R s m args below meth c H locs cells slots Q (F0 m pc ls ((sn_i x :: r).map (sn_tr G))) := by
  have e : (Int32.ofInt x).toInt = x := sn_to (sn_wfH S.2.2.2)
  refine lv_tableIn (x := Int32.ofInt x) X.1 X.2.1 hd (by rw [e]; exact h1) (by rw [e]; exact h2) (by rw [e]; exact ho) ht ?_
  exact kk.go S.1 S.2.1 S.2.2.1 (sn_wfT S.2.2.2)
theorem sn_catsum (r : List sn_V) : ((r.map (sn_tr G)).map fun v => v.category).sum ≤ 2 * r.length := by
  induction r with
  | nil => exact Nat.le_refl _
  | cons v r ih =>
    rw [List.map_cons, List.map_cons, List.sum_cons, List.length_cons, sn_cat]
    split <;> omega
theorem sn_call_no {j a pc' : Nat} {d : Nat × List sn_V × List sn_V × sn_H} (hg : sn_call M j a pc' lv st h = some (.inl d)) : False := by
  unfold sn_call at hg
  split at hg <;> cases hg
theorem sn_not_next_v {i : Nat} {d : Nat × List sn_V × List sn_V × sn_H} (hg : sn_do M pc (.invokevirtual i) lv st h = some (.inl d)) : False := by
  have hg : (match sn_pv (sn_oc M) i with | some (j, a) => (match st.drop a with | .inr (.inl (some p)) :: _ => if decide (2 ≤ p) && decide (p < h.1) && decide ((h.2.2.1 p).1 = sn_oc j) then sn_call M j (a + 1) (pc + 3) lv st h else none | _ => none) | none => none : Option sn_O) = some (.inl d) := hg
  cases hp : sn_pv (sn_oc M) i with
  | none => rw [hp] at hg; cases hg
  | some z =>
    rw [hp] at hg
    obtain ⟨j, a⟩ := z
    dsimp only at hg
    split at hg
    · split at hg
      · exact sn_call_no hg
      · cases hg
    · cases hg
theorem sn_next_s {i len : Nat} {d : Nat × List sn_V × List sn_V × sn_H} (hl : len = 3) (hd : decode (sn_bc M) pc = .ok (.invokestatic i, len)) (hg : sn_do M pc (.invokestatic i) lv st h = some (.inl d)) :
    (h.1 ≤ d.2.2.2.1 ∧ h.2.1 ≤ d.2.2.2.2.1) ∧ ∀ {p : Program} {l : Launch} {e : Env} {R : Room} {s : State} {m : MethodId} {args : Array Value} {below : List Frame} {meth : Method} {c : Code} {H : Heap} {locs : List Loc} {cells slots : Nat} {Q : State → Prop} {ls : Array Slot} (X : sn_Cx G M p R s m args meth c) (S : sn_Sr G M s H locs ls lv st h) (hc : cells + (d.2.2.2.1 - h.1) ≤ R.cells) (hs : slots + (d.2.2.2.2.1 - h.2.1) ≤ R.slots) (kk : sn_K G M p l e R s m args below meth c cells slots Q h d), W p l e R s m args below meth c H locs cells slots Q (F0 m pc ls (st.map (sn_tr G))) := by
  subst hl
  unfold sn_do at hg
  dsimp only at hg
  have Z : ∀ x : sn_O, (none : Option sn_O) = some x → False := fun _ h => nomatch h
  cases hp : sn_px (sn_oc M) i with
  | none =>
    rw [hp] at hg
    dsimp only at hg
    cases hq : sn_ps (sn_oc M) i with
    | none => rw [hq] at hg; cases hg
    | some z => rw [hq] at hg; exact (sn_call_no hg).elim
  | some k =>
    rw [hp] at hg
    obtain ⟨k3, hw⟩ := sn_pxl_ok _ (sn_find (o := sn_oc M) (i := i) (x := k) hp)
    dsimp only at k3 hw
    obtain ⟨⟨w1, w2, w3⟩, w4, w5, w6, w7⟩ := sn_ws_math
    rcases (show k = 0 ∨ k = 1 ∨ k = 2 by omega) with rfl | rfl | rfl
    · rcases st with _ | ⟨x | x, r⟩ <;> first | (exact (Z _ hg).elim) | skip
      by_cases hv : (decide (1 ≤ sn_fr M) && decide (21 ≤ sn_lo M) && decide (r.length ≤ 4)) = true
      · replace hg := (if_pos hv).symm.trans hg
        cases hg
        simp only [Bool.and_eq_true, decide_eq_true_eq] at hv
        refine ⟨⟨Nat.le_refl _, Nat.le_refl _⟩, fun X S hc hs kk => ?_⟩
        obtain ⟨x1, x2, x3, x4, x5, x6, x7, x8, x9, x10, x11, x12, x13⟩ := X
        have hx : -2147483648 ≤ x ∧ x ≤ 2147483647 := sn_wfH S.2.2.2
        have hsum := sn_catsum (G := G) r
        refine va_mabs (x := Int32.ofInt x) x1 x2 (by rw [S.2.2.1.1.1]; exact x3) x6 (x8 _ hw) (x8 _ w1) (x8 _ w4) (x8 _ w5) (by omega) (by omega) (by simpa using hc) (by simpa using hs) hd ?_
        have k := kk.go (locs := _) S.1 S.2.1 S.2.2.1 (sn_wf1 (v := sn_i _) (sn_wr_in _) (sn_wfT S.2.2.2))
        have e : (if 0 ≤ Int32.ofInt x then Int32.ofInt x else 0 - Int32.ofInt x) = Int32.ofInt (sn_wr (if 0 ≤ x then x else 0 - x)) := by
          rw [sn_wr_eq]
          have h0 : (0 ≤ Int32.ofInt x) ↔ 0 ≤ x := sn_le_iff (x := 0) (by decide) hx
          by_cases h9 : 0 ≤ x
          · rw [if_pos h9, if_pos (h0.mpr h9)]
          · rw [if_neg h9, if_neg (fun z => h9 (h0.mp z)), Int32.ofInt_sub]
            rfl
        rw [e]
        exact k
      · replace hg := (if_neg hv).symm.trans hg; exact (Z _ hg).elim
    · rcases st with _ | ⟨y | y, _ | ⟨x | x, r⟩⟩ <;> first | (exact (Z _ hg).elim) | skip
      by_cases hv : (decide (1 ≤ sn_fr M) && decide (21 ≤ sn_lo M) && decide (r.length ≤ 4)) = true
      · replace hg := (if_pos hv).symm.trans hg
        cases hg
        simp only [Bool.and_eq_true, decide_eq_true_eq] at hv
        refine ⟨⟨Nat.le_refl _, Nat.le_refl _⟩, fun X S hc hs kk => ?_⟩
        obtain ⟨x1, x2, x3, x4, x5, x6, x7, x8, x9, x10, x11, x12, x13⟩ := X
        have hy : -2147483648 ≤ y ∧ y ≤ 2147483647 := sn_wfH S.2.2.2
        have hx : -2147483648 ≤ x ∧ x ≤ 2147483647 := sn_wfH (sn_wfT S.2.2.2)
        have hsum := sn_catsum (G := G) r
        refine va_mmax (x := Int32.ofInt x) (y := Int32.ofInt y) x1 x2 (by rw [S.2.2.1.1.1]; exact x3) x6 (x8 _ hw) (x8 _ w2) (x8 _ w4) (x8 _ w6) (by omega) (by omega) (by simpa using hc) (by simpa using hs) hd ?_
        have k := kk.go (locs := _) S.1 S.2.1 S.2.2.1 (sn_wf1 (v := sn_i (if x < y then y else x)) (by show _ ∧ _; split <;> omega) (sn_wfT (sn_wfT S.2.2.2)))
        have e : (if Int32.ofInt x < Int32.ofInt y then Int32.ofInt y else Int32.ofInt x) = Int32.ofInt (if x < y then y else x) := by
          by_cases h9 : x < y
          · rw [if_pos h9, if_pos ((sn_lt_iff hx hy).mpr h9)]
          · rw [if_neg h9, if_neg (fun z => h9 ((sn_lt_iff hx hy).mp z))]
        rw [e]
        exact k
      · replace hg := (if_neg hv).symm.trans hg; exact (Z _ hg).elim
    · rcases st with _ | ⟨y | y, _ | ⟨x | x, r⟩⟩ <;> first | (exact (Z _ hg).elim) | skip
      by_cases hv : (decide (1 ≤ sn_fr M) && decide (21 ≤ sn_lo M) && decide (r.length ≤ 4)) = true
      · replace hg := (if_pos hv).symm.trans hg
        cases hg
        simp only [Bool.and_eq_true, decide_eq_true_eq] at hv
        refine ⟨⟨Nat.le_refl _, Nat.le_refl _⟩, fun X S hc hs kk => ?_⟩
        obtain ⟨x1, x2, x3, x4, x5, x6, x7, x8, x9, x10, x11, x12, x13⟩ := X
        have hy : -2147483648 ≤ y ∧ y ≤ 2147483647 := sn_wfH S.2.2.2
        have hx : -2147483648 ≤ x ∧ x ≤ 2147483647 := sn_wfH (sn_wfT S.2.2.2)
        have hsum := sn_catsum (G := G) r
        refine va_mmin (x := Int32.ofInt x) (y := Int32.ofInt y) x1 x2 (by rw [S.2.2.1.1.1]; exact x3) x6 (x8 _ hw) (x8 _ w3) (x8 _ w4) (x8 _ w7) (by omega) (by omega) (by simpa using hc) (by simpa using hs) hd ?_
        have k := kk.go (locs := _) S.1 S.2.1 S.2.2.1 (sn_wf1 (v := sn_i (if y < x then y else x)) (by show _ ∧ _; split <;> omega) (sn_wfT (sn_wfT S.2.2.2)))
        have e : (if Int32.ofInt y < Int32.ofInt x then Int32.ofInt y else Int32.ofInt x) = Int32.ofInt (if y < x then y else x) := by
          by_cases h9 : y < x
          · rw [if_pos h9, if_pos ((sn_lt_iff hy hx).mpr h9)]
          · rw [if_neg h9, if_neg (fun z => h9 ((sn_lt_iff hy hx).mp z))]
        rw [e]
        exact k
      · replace hg := (if_neg hv).symm.trans hg; exact (Z _ hg).elim
theorem sn_next_c {i len : Nat} {d : Nat × List sn_V × List sn_V × sn_H} (hl : len = 3) (hd : decode (sn_bc M) pc = .ok (.invokespecial i, len)) (hg : sn_do M pc (.invokespecial i) lv st h = some (.inl d)) :
    (h.1 ≤ d.2.2.2.1 ∧ h.2.1 ≤ d.2.2.2.2.1) ∧ ∀ {p : Program} {l : Launch} {e : Env} {R : Room} {s : State} {m : MethodId} {args : Array Value} {below : List Frame} {meth : Method} {c : Code} {H : Heap} {locs : List Loc} {cells slots : Nat} {Q : State → Prop} {ls : Array Slot} (X : sn_Cx G M p R s m args meth c) (S : sn_Sr G M s H locs ls lv st h) (hc : cells + (d.2.2.2.1 - h.1) ≤ R.cells) (hs : slots + (d.2.2.2.2.1 - h.2.1) ≤ R.slots) (kk : sn_K G M p l e R s m args below meth c cells slots Q h d), W p l e R s m args below meth c H locs cells slots Q (F0 m pc ls (st.map (sn_tr G))) := by
  subst hl
  have Z : ∀ x : sn_O, (none : Option sn_O) = some x → False := fun _ h => nomatch h
  cases hp : sn_pc (sn_oc M) i with
  | none =>
    unfold sn_do at hg
    dsimp only at hg
    rw [hp] at hg
    cases hg
  | some z =>
    obtain ⟨j, a⟩ := z
    by_cases hj : j = 200
    · subst hj
      unfold sn_do at hg
      dsimp only at hg
      rw [hp] at hg
      rcases st with _ | ⟨y | (_ | q) | y, r⟩ <;> first | (exact (Z _ hg).elim) | skip
      by_cases hv : (decide (2 ≤ q) && decide (q < h.1) && decide (1 ≤ sn_fr M) && decide (20 ≤ sn_lo M) && decide (r.length ≤ 4)) = true
      · replace hg := (if_pos hv).symm.trans hg
        cases hg
        simp only [Bool.and_eq_true, decide_eq_true_eq] at hv
        refine ⟨⟨Nat.le_refl _, Nat.le_refl _⟩, fun X S hc hs kk => ?_⟩
        obtain ⟨x1, x2, x3, x4, x5, x6, x7, x8, x9, x10, x11, x12, x13⟩ := X
        have hsum := sn_catsum (G := G) r
        have hw : Cond.methodLink (sn_cn (sn_oc M)) i objectInit ∈ wsL_law := by
          rcases sn_pcl_ok _ (sn_find (o := sn_oc M) (i := i) (x := (200, a)) hp) with h1 | h1
          · exact h1.2
          · exact absurd h1.1 (by dsimp only; decide)
        refine W.objInit x1 x2 x6 (x8 _ hw) (x8 _ sn_ws_obj.1) (x8 _ sn_ws_obj.2) rfl (by exact S.2.2.1.1.1.trans x3.symm) rfl hd (by omega) (by show 2 * 0 + _ + 12 ≤ _; omega) ?_
        exact kk.go S.1 S.2.1 S.2.2.1 (sn_wfT S.2.2.2)
      · replace hg := (if_neg hv).symm.trans hg; exact (Z _ hg).elim
    · exfalso
      unfold sn_do at hg
      dsimp only at hg
      rw [hp] at hg
      split at hg
      · rename_i e1
        cases e1
        exact hj rfl
      · rename_i e1 e2
        split at hg
        · split at hg
          · exact sn_call_no hg
          · cases hg
        · cases hg
      · cases hg
end SNR
end
section
/-! ===== every instruction that goes on to a next one (by program, wip/p32/dispatch.py) ===== -/
set_option maxHeartbeats 4000000 in
theorem sn_next {G : sn_P} {M pc len : Nat} {ins : Instr} {lv st : List sn_V} {h : sn_H} {d : Nat × List sn_V × List sn_V × sn_H} (hd : decode (sn_bc M) pc = .ok (ins, len)) (hlen : len = sn_len ins ∨ sn_len ins = 0) (hg : sn_do M pc ins lv st h = some (.inl d)) :
    (h.1 ≤ d.2.2.2.1 ∧ h.2.1 ≤ d.2.2.2.2.1) ∧ ∀ {p : Program} {l : Launch} {e : Env} {R : Room} {s : State} {m : MethodId} {args : Array Value} {below : List Frame} {meth : Method} {c : Code} {H : Heap} {locs : List Loc} {cells slots : Nat} {Q : State → Prop} {ls : Array Slot} (X : sn_Cx G M p R s m args meth c) (S : sn_Sr G M s H locs ls lv st h) (hc : cells + (d.2.2.2.1 - h.1) ≤ R.cells) (hs : slots + (d.2.2.2.2.1 - h.2.1) ≤ R.slots) (kk : sn_K G M p l e R s m args below meth c cells slots Q h d), W p l e R s m args below meth c H locs cells slots Q (F0 m pc ls (st.map (sn_tr G))) := by
  have L : ∀ {k : Nat}, sn_len ins = k → k ≠ 0 → len = k := fun h1 h2 => hlen.elim (fun h => h.trans h1) (fun h => absurd (h1.symm.trans h) h2)
  have Z : ∀ x : sn_O, (none : Option sn_O) = some x → False := fun _ h => nomatch h
  cases ins
  case iadd =>
    obtain rfl := L (k := 1) rfl (by decide)
    rcases st with _ | ⟨y | y, _ | ⟨x | x, r⟩⟩ <;> first | (exact (Z _ hg).elim) | skip
    cases hg
    exact ⟨⟨Nat.le_refl _, Nat.le_refl _⟩, fun X S hc hs kk => sn_k_iadd X hd S kk⟩
  case isub =>
    obtain rfl := L (k := 1) rfl (by decide)
    rcases st with _ | ⟨y | y, _ | ⟨x | x, r⟩⟩ <;> first | (exact (Z _ hg).elim) | skip
    cases hg
    exact ⟨⟨Nat.le_refl _, Nat.le_refl _⟩, fun X S hc hs kk => sn_k_isub X hd S kk⟩
  case imul =>
    obtain rfl := L (k := 1) rfl (by decide)
    rcases st with _ | ⟨y | y, _ | ⟨x | x, r⟩⟩ <;> first | (exact (Z _ hg).elim) | skip
    cases hg
    exact ⟨⟨Nat.le_refl _, Nat.le_refl _⟩, fun X S hc hs kk => sn_k_imul X hd S kk⟩
  case iand =>
    obtain rfl := L (k := 1) rfl (by decide)
    rcases st with _ | ⟨y | y, _ | ⟨x | x, r⟩⟩ <;> first | (exact (Z _ hg).elim) | skip
    cases hg
    exact ⟨⟨Nat.le_refl _, Nat.le_refl _⟩, fun X S hc hs kk => sn_k_iand X hd S kk⟩
  case ishr =>
    obtain rfl := L (k := 1) rfl (by decide)
    rcases st with _ | ⟨y | y, _ | ⟨x | x, r⟩⟩ <;> first | (exact (Z _ hg).elim) | skip
    cases hg
    exact ⟨⟨Nat.le_refl _, Nat.le_refl _⟩, fun X S hc hs kk => sn_k_ishr X hd S kk⟩
  case idiv =>
    obtain rfl := L (k := 1) rfl (by decide)
    rcases st with _ | ⟨y | y, _ | ⟨x | x, r⟩⟩ <;> first | (exact (Z _ hg).elim) | skip
    by_cases hy : y = 0
    · replace hg := (if_pos hy).symm.trans hg; exact (Z _ hg).elim
    · replace hg := (if_neg hy).symm.trans hg; cases hg; exact ⟨⟨Nat.le_refl _, Nat.le_refl _⟩, fun X S hc hs kk => sn_k_idiv X hd S hy kk⟩
  case irem =>
    obtain rfl := L (k := 1) rfl (by decide)
    rcases st with _ | ⟨y | y, _ | ⟨x | x, r⟩⟩ <;> first | (exact (Z _ hg).elim) | skip
    by_cases hy : y = 0
    · replace hg := (if_pos hy).symm.trans hg; exact (Z _ hg).elim
    · replace hg := (if_neg hy).symm.trans hg; cases hg; exact ⟨⟨Nat.le_refl _, Nat.le_refl _⟩, fun X S hc hs kk => sn_k_irem X hd S hy kk⟩
  case ladd =>
    obtain rfl := L (k := 1) rfl (by decide)
    rcases st with _ | ⟨y | y | y | y, _ | ⟨x | x | x | x, r⟩⟩ <;> first | (exact (Z _ hg).elim) | skip
    cases hg
    exact ⟨⟨Nat.le_refl _, Nat.le_refl _⟩, fun X S hc hs kk => sn_k_ladd X hd S kk⟩
  case lmul =>
    obtain rfl := L (k := 1) rfl (by decide)
    rcases st with _ | ⟨y | y | y | y, _ | ⟨x | x | x | x, r⟩⟩ <;> first | (exact (Z _ hg).elim) | skip
    cases hg
    exact ⟨⟨Nat.le_refl _, Nat.le_refl _⟩, fun X S hc hs kk => sn_k_lmul X hd S kk⟩
  case lcmp =>
    obtain rfl := L (k := 1) rfl (by decide)
    rcases st with _ | ⟨y | y | y | y, _ | ⟨x | x | x | x, r⟩⟩ <;> first | (exact (Z _ hg).elim) | skip
    cases hg
    exact ⟨⟨Nat.le_refl _, Nat.le_refl _⟩, fun X S hc hs kk => sn_k_lcmp X hd S kk⟩
  case ddiv =>
    obtain rfl := L (k := 1) rfl (by decide)
    rcases st with _ | ⟨y | y | y | y | y, _ | ⟨x | x | x | x | x, r⟩⟩ <;> first | (exact (Z _ hg).elim) | skip
    by_cases hy : FP.ddiv x y &&& 0x7fffffffffffffff ≤ 0x7ff0000000000000
    · replace hg := (if_pos (decide_eq_true hy)).symm.trans hg; cases hg; exact ⟨⟨Nat.le_refl _, Nat.le_refl _⟩, fun X S hc hs kk => sn_k_ddiv X hd S hy kk⟩
    · replace hg := (if_neg (fun z => hy (of_decide_eq_true z))).symm.trans hg; exact (Z _ hg).elim
  case dcmp op =>
    obtain rfl := L (k := 1) rfl (by decide)
    rcases st with _ | ⟨y | y | y | y | y, _ | ⟨x | x | x | x | x, r⟩⟩ <;> first | (exact (Z _ hg).elim) | skip
    cases hg
    exact ⟨⟨Nat.le_refl _, Nat.le_refl _⟩, fun X S hc hs kk => sn_k_dcmp X hd S kk⟩
  case i2l =>
    obtain rfl := L (k := 1) rfl (by decide)
    rcases st with _ | ⟨y | y, r⟩ <;> first | (exact (Z _ hg).elim) | skip
    cases hg
    exact ⟨⟨Nat.le_refl _, Nat.le_refl _⟩, fun X S hc hs kk => sn_k_i2l X hd S kk⟩
  case i2d =>
    obtain rfl := L (k := 1) rfl (by decide)
    rcases st with _ | ⟨y | y, r⟩ <;> first | (exact (Z _ hg).elim) | skip
    cases hg
    exact ⟨⟨Nat.le_refl _, Nat.le_refl _⟩, fun X S hc hs kk => sn_k_i2d X hd S kk⟩
  case iconst n =>
    obtain rfl := L (k := 1) rfl (by decide)
    by_cases hn : sn_inR n = true
    · replace hg := (if_pos hn).symm.trans hg; cases hg; exact ⟨⟨Nat.le_refl _, Nat.le_refl _⟩, fun X S hc hs kk => sn_k_iconst X hd S hn kk⟩
    · replace hg := (if_neg hn).symm.trans hg; exact (Z _ hg).elim
  case bipush n =>
    obtain rfl := L (k := 2) rfl (by decide)
    by_cases hn : (decide (-128 ≤ n) && decide (n ≤ 127)) = true
    · replace hg := (if_pos hn).symm.trans hg
      cases hg
      simp only [Bool.and_eq_true, decide_eq_true_eq] at hn
      exact ⟨⟨Nat.le_refl _, Nat.le_refl _⟩, fun X S hc hs kk => sn_k_bipush X hd S hn.1 hn.2 kk⟩
    · replace hg := (if_neg hn).symm.trans hg; exact (Z _ hg).elim
  case sipush n =>
    obtain rfl := L (k := 3) rfl (by decide)
    by_cases hn : (decide (-32768 ≤ n) && decide (n ≤ 32767)) = true
    · replace hg := (if_pos hn).symm.trans hg
      cases hg
      simp only [Bool.and_eq_true, decide_eq_true_eq] at hn
      exact ⟨⟨Nat.le_refl _, Nat.le_refl _⟩, fun X S hc hs kk => sn_k_sipush X hd S hn.1 hn.2 kk⟩
    · replace hg := (if_neg hn).symm.trans hg; exact (Z _ hg).elim
  case dconst n =>
    obtain rfl := L (k := 1) rfl (by decide)
    by_cases hn : n = 0
    · replace hg := (if_pos hn).symm.trans hg
      cases hg
      subst hn
      exact ⟨⟨Nat.le_refl _, Nat.le_refl _⟩, fun X S hc hs kk => sn_k_dconst X hd S kk⟩
    · replace hg := (if_neg hn).symm.trans hg; exact (Z _ hg).elim
  case ldc i =>
    obtain rfl := L (k := 2) rfl (by decide)
    have hg : (match sn_pi (sn_oc M) i with | some z => if sn_inR z then some (Sum.inl (pc + 2, lv, sn_i z :: st, h)) else none | none => none : Option sn_O) = some (.inl d) := hg
    cases hp : sn_pi (sn_oc M) i with
    | none => rw [hp] at hg; exact (Z _ hg).elim
    | some z =>
      rw [hp] at hg
      by_cases hn : sn_inR z = true
      · replace hg := (if_pos hn).symm.trans hg
        cases hg
        exact ⟨⟨Nat.le_refl _, Nat.le_refl _⟩, fun X S hc hs kk => sn_k_ldc X hd S hp hn kk⟩
      · replace hg := (if_neg hn).symm.trans hg; exact (Z _ hg).elim
  case ldc2_w i =>
    obtain rfl := L (k := 3) rfl (by decide)
    have hg : (match sn_pl (sn_oc M) i with | some z => if decide (sn_wl z = z) then some (Sum.inl (pc + 3, lv, sn_l z :: st, h)) else none | none => none : Option sn_O) = some (.inl d) := hg
    cases hp : sn_pl (sn_oc M) i with
    | none => rw [hp] at hg; exact (Z _ hg).elim
    | some z =>
      rw [hp] at hg
      by_cases hn : decide (sn_wl z = z) = true
      · replace hg := (if_pos hn).symm.trans hg
        cases hg
        exact ⟨⟨Nat.le_refl _, Nat.le_refl _⟩, fun X S hc hs kk => sn_k_ldc2 X hd S hp (of_decide_eq_true hn) kk⟩
      · replace hg := (if_neg hn).symm.trans hg; exact (Z _ hg).elim
  case iload_n k =>
    obtain rfl := L (k := 1) rfl (by decide)
    have hg : sn_ld (pc + 1) lv st h k.val sn_isI = some (.inl d) := hg
    obtain ⟨v, hv, hok, rfl⟩ := sn_ld_eq hg
    rcases v with v | v <;> first | (exact absurd (show false = true from hok) (by decide)) | skip
    exact ⟨⟨Nat.le_refl _, Nat.le_refl _⟩, fun X S hc hs kk => sn_k_ld_in X hd S hv kk⟩
  case iload k =>
    obtain rfl := L (k := 2) rfl (by decide)
    have hg : sn_ld (pc + 2) lv st h k sn_isI = some (.inl d) := hg
    obtain ⟨v, hv, hok, rfl⟩ := sn_ld_eq hg
    rcases v with v | v <;> first | (exact absurd (show false = true from hok) (by decide)) | skip
    exact ⟨⟨Nat.le_refl _, Nat.le_refl _⟩, fun X S hc hs kk => sn_k_ld_i X hd S hv kk⟩
  case aload_n k =>
    obtain rfl := L (k := 1) rfl (by decide)
    have hg : sn_ld (pc + 1) lv st h k.val sn_isA = some (.inl d) := hg
    obtain ⟨v, hv, hok, rfl⟩ := sn_ld_eq hg
    rcases v with v | v | v <;> first | (exact absurd (show false = true from hok) (by decide)) | skip
    exact ⟨⟨Nat.le_refl _, Nat.le_refl _⟩, fun X S hc hs kk => sn_k_ld_an X hd S hv kk⟩
  case aload k =>
    obtain rfl := L (k := 2) rfl (by decide)
    have hg : sn_ld (pc + 2) lv st h k sn_isA = some (.inl d) := hg
    obtain ⟨v, hv, hok, rfl⟩ := sn_ld_eq hg
    rcases v with v | v | v <;> first | (exact absurd (show false = true from hok) (by decide)) | skip
    exact ⟨⟨Nat.le_refl _, Nat.le_refl _⟩, fun X S hc hs kk => sn_k_ld_a X hd S hv kk⟩
  case lload_n k =>
    obtain rfl := L (k := 1) rfl (by decide)
    have hg : sn_ld (pc + 1) lv st h k.val sn_isL = some (.inl d) := hg
    obtain ⟨v, hv, hok, rfl⟩ := sn_ld_eq hg
    rcases v with v | v | v | v <;> first | (exact absurd (show false = true from hok) (by decide)) | skip
    exact ⟨⟨Nat.le_refl _, Nat.le_refl _⟩, fun X S hc hs kk => sn_k_ld_ln X hd S hv kk⟩
  case lload k =>
    obtain rfl := L (k := 2) rfl (by decide)
    have hg : sn_ld (pc + 2) lv st h k sn_isL = some (.inl d) := hg
    obtain ⟨v, hv, hok, rfl⟩ := sn_ld_eq hg
    rcases v with v | v | v | v <;> first | (exact absurd (show false = true from hok) (by decide)) | skip
    exact ⟨⟨Nat.le_refl _, Nat.le_refl _⟩, fun X S hc hs kk => sn_k_ld_l X hd S hv kk⟩
  case istore_n k =>
    obtain rfl := L (k := 1) rfl (by decide)
    rcases st with _ | ⟨y | y, r⟩ <;> first | (exact (Z _ hg).elim) | skip
    have hg : sn_so M (pc + 1) lv r h k.val (sn_i y) = some (.inl d) := hg
    obtain ⟨h1, h2, rfl⟩ := sn_so_eq hg
    exact ⟨⟨Nat.le_refl _, Nat.le_refl _⟩, fun X S hc hs kk => sn_k_st_in X hd S h1 h2 kk⟩
  case istore k =>
    obtain rfl := L (k := 2) rfl (by decide)
    rcases st with _ | ⟨y | y, r⟩ <;> first | (exact (Z _ hg).elim) | skip
    have hg : sn_so M (pc + 2) lv r h k (sn_i y) = some (.inl d) := hg
    obtain ⟨h1, h2, rfl⟩ := sn_so_eq hg
    exact ⟨⟨Nat.le_refl _, Nat.le_refl _⟩, fun X S hc hs kk => sn_k_st_i X hd S h1 h2 kk⟩
  case astore_n k =>
    obtain rfl := L (k := 1) rfl (by decide)
    rcases st with _ | ⟨y | (_ | y) | y, r⟩ <;> first | (exact (Z _ hg).elim) | skip
    have hg : sn_so M (pc + 1) lv r h k.val (sn_r y) = some (.inl d) := hg
    obtain ⟨h1, h2, rfl⟩ := sn_so_eq hg
    exact ⟨⟨Nat.le_refl _, Nat.le_refl _⟩, fun X S hc hs kk => sn_k_st_an X hd S h1 h2 kk⟩
  case astore k =>
    obtain rfl := L (k := 2) rfl (by decide)
    rcases st with _ | ⟨y | (_ | y) | y, r⟩ <;> first | (exact (Z _ hg).elim) | skip
    have hg : sn_so M (pc + 2) lv r h k (sn_r y) = some (.inl d) := hg
    obtain ⟨h1, h2, rfl⟩ := sn_so_eq hg
    exact ⟨⟨Nat.le_refl _, Nat.le_refl _⟩, fun X S hc hs kk => sn_k_st_a X hd S h1 h2 kk⟩
  case lstore_n k =>
    obtain rfl := L (k := 1) rfl (by decide)
    rcases st with _ | ⟨y | y | y | y, r⟩ <;> first | (exact (Z _ hg).elim) | skip
    have hg : sn_so2 M (pc + 1) lv r h k.val (sn_l y) = some (.inl d) := hg
    obtain ⟨h0, h1, h2, rfl⟩ := sn_so2_eq hg
    exact ⟨⟨Nat.le_refl _, Nat.le_refl _⟩, fun X S hc hs kk => sn_k_st_ln X hd S h0 h1 h2 kk⟩
  case lstore k =>
    obtain rfl := L (k := 2) rfl (by decide)
    rcases st with _ | ⟨y | y | y | y, r⟩ <;> first | (exact (Z _ hg).elim) | skip
    have hg : sn_so2 M (pc + 2) lv r h k (sn_l y) = some (.inl d) := hg
    obtain ⟨h0, h1, h2, rfl⟩ := sn_so2_eq hg
    exact ⟨⟨Nat.le_refl _, Nat.le_refl _⟩, fun X S hc hs kk => sn_k_st_l X hd S h0 h1 h2 kk⟩
  case iinc k n =>
    obtain rfl := L (k := 3) rfl (by decide)
    have hg : (match lv[k]? with | some (Sum.inl z) => sn_so M (pc + 3) lv st h k (sn_i (sn_wr (z + n))) | _ => none : Option sn_O) = some (.inl d) := hg
    cases hv : lv[k]? with
    | none => rw [hv] at hg; exact (Z _ hg).elim
    | some v =>
      rw [hv] at hg
      rcases v with z | z
      · obtain ⟨h1, h2, rfl⟩ := sn_so_eq hg
        exact ⟨⟨Nat.le_refl _, Nat.le_refl _⟩, fun X S hc hs kk => sn_k_iinc X hd S hv h1 h2 kk⟩
      · exact (Z _ hg).elim
  case dup =>
    obtain rfl := L (k := 1) rfl (by decide)
    rcases st with _ | ⟨v, r⟩
    · exact (Z _ hg).elim
    · by_cases hv : sn_isN v = true
      · replace hg := (if_pos hv).symm.trans hg
        cases hg
        exact ⟨⟨Nat.le_refl _, Nat.le_refl _⟩, fun X S hc hs kk => sn_k_dup X hd S hv kk⟩
      · replace hg := (if_neg hv).symm.trans hg; exact (Z _ hg).elim
  case pop =>
    obtain rfl := L (k := 1) rfl (by decide)
    rcases st with _ | ⟨v, r⟩
    · exact (Z _ hg).elim
    · by_cases hv : sn_isN v = true
      · replace hg := (if_pos hv).symm.trans hg
        cases hg
        exact ⟨⟨Nat.le_refl _, Nat.le_refl _⟩, fun X S hc hs kk => sn_k_pop X hd S hv kk⟩
      · replace hg := (if_neg hv).symm.trans hg; exact (Z _ hg).elim
  case dup2 =>
    obtain rfl := L (k := 1) rfl (by decide)
    rcases st with _ | ⟨v, _ | ⟨w, r⟩⟩
    · exact (Z _ hg).elim
    · exact (Z _ hg).elim
    · by_cases hv : (sn_isN v && sn_isN w) = true
      · replace hg := (if_pos hv).symm.trans hg
        cases hg
        rw [Bool.and_eq_true] at hv
        exact ⟨⟨Nat.le_refl _, Nat.le_refl _⟩, fun X S hc hs kk => sn_k_dup2 X hd S hv.1 hv.2 kk⟩
      · replace hg := (if_neg hv).symm.trans hg; exact (Z _ hg).elim
  case goto off =>
    obtain rfl := L (k := 3) rfl (by decide)
    have hg : sn_goto pc off lv st h = some (.inl d) := hg
    obtain ⟨-, e⟩ := sn_goto_eq hg
    exact ⟨by rw [e]; exact ⟨Nat.le_refl _, Nat.le_refl _⟩, fun X S hc hs kk => sn_k_goto X hd S hg kk⟩
  case ifCond cnd off =>
    obtain rfl := L (k := 3) rfl (by decide)
    rcases st with _ | ⟨x | x, r⟩ <;> first | (exact (Z _ hg).elim) | skip
    by_cases h0 : 0 ≤ (pc : Int) + off
    · replace hg := (if_pos h0).symm.trans hg
      cases hg
      refine ⟨?_, fun X S hc hs kk => ?_⟩
      · split <;> exact ⟨Nat.le_refl _, Nat.le_refl _⟩
      · cases cnd
        · exact sn_k_if_eq X hd S h0 kk
        · exact sn_k_if_ne X hd S h0 kk
        · exact sn_k_if_lt X hd S h0 kk
        · exact sn_k_if_ge X hd S h0 kk
        · exact sn_k_if_gt X hd S h0 kk
        · exact sn_k_if_le X hd S h0 kk
    · replace hg := (if_neg h0).symm.trans hg; exact (Z _ hg).elim
  case if_icmp cnd off =>
    obtain rfl := L (k := 3) rfl (by decide)
    rcases st with _ | ⟨y | y, _ | ⟨x | x, r⟩⟩ <;> first | (exact (Z _ hg).elim) | skip
    by_cases h0 : 0 ≤ (pc : Int) + off
    · replace hg := (if_pos h0).symm.trans hg
      cases hg
      refine ⟨?_, fun X S hc hs kk => ?_⟩
      · split <;> exact ⟨Nat.le_refl _, Nat.le_refl _⟩
      · cases cnd
        · exact sn_k_icmp_eq X hd S h0 kk
        · exact sn_k_icmp_ne X hd S h0 kk
        · exact sn_k_icmp_lt X hd S h0 kk
        · exact sn_k_icmp_ge X hd S h0 kk
        · exact sn_k_icmp_gt X hd S h0 kk
        · exact sn_k_icmp_le X hd S h0 kk
    · replace hg := (if_neg h0).symm.trans hg; exact (Z _ hg).elim
  case tableswitch dflt lo hi offs =>
    rcases st with _ | ⟨x | x, r⟩ <;> first | (exact (Z _ hg).elim) | skip
    have hg : (if x < lo ∨ hi < x then sn_goto pc dflt lv r h else match offs[(x - lo).toNat]? with | some off => sn_goto pc off lv r h | none => none : Option sn_O) = some (.inl d) := hg
    by_cases hx : x < lo ∨ hi < x
    · rw [if_pos hx] at hg
      obtain ⟨h1, rfl⟩ := sn_goto_eq hg
      exact ⟨⟨Nat.le_refl _, Nat.le_refl _⟩, fun X S hc hs kk => sn_k_swO X hd S hx h1 kk⟩
    · rw [if_neg hx] at hg
      cases ho : offs[(x - lo).toNat]? with
      | none => rw [ho] at hg; exact (Z _ hg).elim
      | some off =>
        rw [ho] at hg
        have hg : sn_goto pc off lv r h = some (.inl d) := hg
        obtain ⟨h1, rfl⟩ := sn_goto_eq hg
        exact ⟨⟨Nat.le_refl _, Nat.le_refl _⟩, fun X S hc hs kk => sn_k_swI X hd S (fun z => hx (Or.inl z)) (fun z => hx (Or.inr z)) ho h1 kk⟩
  case getfield i =>
    obtain rfl := L (k := 3) rfl (by decide)
    rcases st with _ | ⟨y | (_ | q) | y, r⟩ <;> first | (exact (Z _ hg).elim) | skip
    unfold sn_do at hg
    dsimp only at hg
    cases hp : sn_pf (sn_oc M) i with
    | none => rw [hp] at hg; exact (Z _ hg).elim
    | some z =>
      obtain ⟨ci, k⟩ := z
      rw [hp] at hg
      by_cases hv : (decide (2 ≤ q) && decide (q < h.1) && decide ((h.2.2.1 q).1 = ci)) = true
      · replace hg := (if_pos hv).symm.trans hg
        cases hg
        simp only [Bool.and_eq_true, decide_eq_true_eq] at hv
        exact ⟨⟨Nat.le_refl _, Nat.le_refl _⟩, fun X S hc hs kk => sn_k_getf X hd S hp hv.1.1 hv.1.2 hv.2 kk⟩
      · replace hg := (if_neg hv).symm.trans hg; exact (Z _ hg).elim
  case putfield i =>
    obtain rfl := L (k := 3) rfl (by decide)
    rcases st with _ | ⟨v, _ | ⟨y | (_ | q) | y, r⟩⟩ <;> first | (exact (Z _ hg).elim) | skip
    unfold sn_do at hg
    dsimp only at hg
    cases hp : sn_pf (sn_oc M) i with
    | none => rw [hp] at hg; exact (Z _ hg).elim
    | some z =>
      obtain ⟨ci, k⟩ := z
      rw [hp] at hg
      by_cases hv : (decide (2 ≤ q) && decide (q < h.1) && decide ((h.2.2.1 q).1 = ci) && sn_fits (sn_ft ci k) v && (!sn_ff ci k || (sn_in M && decide (sn_oc M = ci)))) = true
      · replace hg := (if_pos hv).symm.trans hg
        cases hg
        simp only [Bool.and_eq_true, Bool.or_eq_true, Bool.not_eq_true', decide_eq_true_eq] at hv
        exact ⟨⟨Nat.le_refl _, Nat.le_refl _⟩, fun X S hc hs kk => sn_k_putf X hd S hp hv.1.1.1.1 hv.1.1.1.2 hv.1.1.2 hv.1.2 hv.2 kk⟩
      · replace hg := (if_neg hv).symm.trans hg; exact (Z _ hg).elim
  case getstatic i =>
    obtain rfl := L (k := 3) rfl (by decide)
    by_cases hv : (decide (sn_oc M = 9) && decide (i = 458)) = true
    · replace hg := (if_pos hv).symm.trans hg
      cases hg
      simp only [Bool.and_eq_true, decide_eq_true_eq] at hv
      obtain ⟨hv1, rfl⟩ := hv
      exact ⟨⟨Nat.le_refl _, Nat.le_refl _⟩, fun X S hc hs kk => sn_k_gets X hd hv1 S kk⟩
    · replace hg := (if_neg hv).symm.trans hg; exact (Z _ hg).elim
  case iaload =>
    obtain rfl := L (k := 1) rfl (by decide)
    rcases st with _ | ⟨i | i, _ | ⟨y | (_ | q) | y, r⟩⟩ <;> first | (exact (Z _ hg).elim) | skip
    by_cases hv : sn_idx h q i 100 = true
    · replace hg := (if_pos hv).symm.trans hg
      cases hg
      exact ⟨⟨Nat.le_refl _, Nat.le_refl _⟩, fun X S hc hs kk => sn_k_iald X hd S hv kk⟩
    · replace hg := (if_neg hv).symm.trans hg; exact (Z _ hg).elim
  case baload =>
    obtain rfl := L (k := 1) rfl (by decide)
    rcases st with _ | ⟨i | i, _ | ⟨y | (_ | q) | y, r⟩⟩ <;> first | (exact (Z _ hg).elim) | skip
    by_cases hv : sn_idx h q i 101 = true
    · replace hg := (if_pos hv).symm.trans hg
      cases hg
      exact ⟨⟨Nat.le_refl _, Nat.le_refl _⟩, fun X S hc hs kk => sn_k_bald X hd S hv kk⟩
    · replace hg := (if_neg hv).symm.trans hg; exact (Z _ hg).elim
  case aaload =>
    obtain rfl := L (k := 1) rfl (by decide)
    rcases st with _ | ⟨i | i, _ | ⟨y | (_ | q) | y, r⟩⟩ <;> first | (exact (Z _ hg).elim) | skip
    by_cases hv : sn_idx h q i 102 = true
    · replace hg := (if_pos hv).symm.trans hg
      cases hg
      exact ⟨⟨Nat.le_refl _, Nat.le_refl _⟩, fun X S hc hs kk => sn_k_aald X hd S hv kk⟩
    · replace hg := (if_neg hv).symm.trans hg; exact (Z _ hg).elim
  case iastore =>
    obtain rfl := L (k := 1) rfl (by decide)
    rcases st with _ | ⟨z | z, _ | ⟨i | i, _ | ⟨y | (_ | q) | y, r⟩⟩⟩ <;> first | (exact (Z _ hg).elim) | skip
    by_cases hv : (sn_idx h q i 100 && decide (2 ≤ q)) = true
    · replace hg := (if_pos hv).symm.trans hg
      cases hg
      simp only [Bool.and_eq_true, decide_eq_true_eq] at hv
      exact ⟨⟨Nat.le_refl _, Nat.le_refl _⟩, fun X S hc hs kk => sn_k_iast X hd S hv.1 hv.2 kk⟩
    · replace hg := (if_neg hv).symm.trans hg; exact (Z _ hg).elim
  case bastore =>
    obtain rfl := L (k := 1) rfl (by decide)
    rcases st with _ | ⟨z | z, _ | ⟨i | i, _ | ⟨y | (_ | q) | y, r⟩⟩⟩ <;> first | (exact (Z _ hg).elim) | skip
    by_cases hv : (sn_idx h q i 101 && decide (2 ≤ q) && (decide (z = 0) || decide (z = 1))) = true
    · replace hg := (if_pos hv).symm.trans hg
      cases hg
      simp only [Bool.and_eq_true, Bool.or_eq_true, decide_eq_true_eq] at hv
      exact ⟨⟨Nat.le_refl _, Nat.le_refl _⟩, fun X S hc hs kk => sn_k_bast X hd S hv.1.1 hv.1.2 hv.2 kk⟩
    · replace hg := (if_neg hv).symm.trans hg; exact (Z _ hg).elim
  case arraylength =>
    obtain rfl := L (k := 1) rfl (by decide)
    rcases st with _ | ⟨y | (_ | q) | y, r⟩ <;> first | (exact (Z _ hg).elim) | skip
    by_cases hv : (decide (q < h.1) && (decide ((h.2.2.1 q).1 = 100) || decide ((h.2.2.1 q).1 = 101))) = true
    · replace hg := (if_pos hv).symm.trans hg
      cases hg
      simp only [Bool.and_eq_true, Bool.or_eq_true, decide_eq_true_eq] at hv
      exact ⟨⟨Nat.le_refl _, Nat.le_refl _⟩, fun X S hc hs kk => sn_k_alen X hd S hv.1 hv.2 kk⟩
    · replace hg := (if_neg hv).symm.trans hg; exact (Z _ hg).elim
  case newarray ty =>
    obtain rfl := L (k := 2) rfl (by decide)
    rcases st with _ | ⟨z | z, r⟩ <;> first | (exact (Z _ hg).elim) | skip
    by_cases hv : (decide (0 ≤ z) && decide (z ≤ 100000)) = true
    · replace hg := (if_pos hv).symm.trans hg
      simp only [Bool.and_eq_true, decide_eq_true_eq] at hv
      have e1 : h.1 + 1 - h.1 = 1 := by omega
      have e2 : h.2.1 + z.toNat - h.2.1 = z.toNat := by omega
      cases ty <;> first | (exact (Z _ hg).elim) | skip
      · cases hg
        refine ⟨⟨Nat.le_succ _, Nat.le_add_right _ _⟩, fun X S hc hs kk => sn_k_newaZ X hd S hv.1 hv.2 ?_ ?_ kk⟩
        · exact (congrArg (fun n => _ + n) e1) ▸ hc
        · exact (congrArg (fun n => _ + n) e2) ▸ hs
      · cases hg
        refine ⟨⟨Nat.le_succ _, Nat.le_add_right _ _⟩, fun X S hc hs kk => sn_k_newaI X hd S hv.1 hv.2 ?_ ?_ kk⟩
        · exact (congrArg (fun n => _ + n) e1) ▸ hc
        · exact (congrArg (fun n => _ + n) e2) ▸ hs
    · replace hg := (if_neg hv).symm.trans hg; exact (Z _ hg).elim
  case new i =>
    obtain rfl := L (k := 3) rfl (by decide)
    have hg : (match sn_pn (sn_oc M) i with | some ci => some (Sum.inl (pc + 3, lv, sn_r h.1 :: st, sn_pu h ci (sn_nf ci) (fun k => if sn_ft ci k = 2 then sn_n else sn_i 0))) | none => none : Option sn_O) = some (.inl d) := hg
    cases hp : sn_pn (sn_oc M) i with
    | none => rw [hp] at hg; exact (Z _ hg).elim
    | some ci =>
      rw [hp] at hg
      have e1 : h.1 + 1 - h.1 = 1 := by omega
      have e2 : h.2.1 + sn_nf ci - h.2.1 = sn_nf ci := by omega
      cases hg
      refine ⟨⟨Nat.le_succ _, Nat.le_add_right _ _⟩, fun X S hc hs kk => sn_k_new X hd S hp ?_ ?_ kk⟩
      · exact (congrArg (fun n => _ + n) e1) ▸ hc
      · exact (congrArg (fun n => _ + n) e2) ▸ hs
  case multianewarray i n =>
    obtain rfl := L (k := 4) rfl (by decide)
    rcases st with _ | ⟨zb | zb, _ | ⟨za | za, r⟩⟩ <;> first | (exact (Z _ hg).elim) | skip
    by_cases hv : (decide (n = 2) && decide (i = 9) && decide (sn_oc M ∈ [0, 1, 2, 4]) && decide (0 ≤ za) && decide (za ≤ 1000) && decide (0 ≤ zb) && decide (zb ≤ 1000)) = true
    · replace hg := (if_pos hv).symm.trans hg
      simp only [Bool.and_eq_true, decide_eq_true_eq] at hv
      obtain ⟨⟨⟨⟨⟨⟨rfl, rfl⟩, v1⟩, v2⟩, v3⟩, v4⟩, v5⟩ := hv
      have e1 : h.1 + 1 + za.toNat - h.1 = 1 + za.toNat := by omega
      have e2 : h.2.1 + za.toNat + za.toNat * zb.toNat - h.2.1 = za.toNat + za.toNat * zb.toNat := by omega
      cases hg
      refine ⟨⟨by show h.1 ≤ h.1 + 1 + za.toNat; omega, by show h.2.1 ≤ h.2.1 + za.toNat + za.toNat * zb.toNat; omega⟩, fun X S hc hs kk => sn_k_mna X hd v1 S v2 v3 v4 v5 ?_ ?_ kk⟩
      · exact (congrArg (fun n => _ + n) e1) ▸ hc
      · exact (congrArg (fun n => _ + n) e2) ▸ hs
    · replace hg := (if_neg hv).symm.trans hg; exact (Z _ hg).elim
  case invokevirtual i => exact (sn_not_next_v hg).elim
  case invokestatic i => exact sn_next_s (L (k := 3) rfl (by decide)) hd hg
  case invokespecial i => exact sn_next_c (L (k := 3) rfl (by decide)) hd hg
  case ireturn =>
    rcases st with _ | ⟨v, _ | ⟨w, r⟩⟩
    · exact (Z _ hg).elim
    · by_cases hv : sn_rets (sn_rk M) v = true
      · replace hg := (if_pos hv).symm.trans hg; cases hg
      · replace hg := (if_neg hv).symm.trans hg; cases hg
    · exact (Z _ hg).elim
  case lreturn =>
    rcases st with _ | ⟨v | v | v | v, _ | ⟨w, r⟩⟩ <;> first | (exact (Z _ hg).elim) | skip
    by_cases hv : sn_rk M = 2
    · replace hg := (if_pos hv).symm.trans hg; cases hg
    · replace hg := (if_neg hv).symm.trans hg; cases hg
  case dreturn =>
    rcases st with _ | ⟨v | v | v | v | v, _ | ⟨w, r⟩⟩ <;> first | (exact (Z _ hg).elim) | skip
    by_cases hv : sn_rk M = 3
    · replace hg := (if_pos hv).symm.trans hg; cases hg
    · replace hg := (if_neg hv).symm.trans hg; cases hg
  case return_ =>
    rcases st with _ | ⟨v, r⟩
    · by_cases hv : sn_rk M = 4
      · replace hg := (if_pos hv).symm.trans hg; cases hg
      · replace hg := (if_neg hv).symm.trans hg; cases hg
    · exact (Z _ hg).elim
  all_goals exact (Z _ hg).elim
end
section
/-! ===== ends and calls ===== -/
theorem sn_kinds {M pc : Nat} {ins : Instr} {lv st : List sn_V} {h : sn_H} {x : sn_O} (hg : sn_do M pc ins lv st h = some x) : (∃ d, x = .inl d) ∨ ins = .ireturn ∨ ins = .lreturn ∨ ins = .dreturn ∨ ins = .return_ ∨ (∃ i, ins = .invokevirtual i) ∨ (∃ i, ins = .invokestatic i) ∨ (∃ i, ins = .invokespecial i) := by
  cases ins
  case ireturn => exact Or.inr (Or.inl rfl)
  case lreturn => exact Or.inr (Or.inr (Or.inl rfl))
  case dreturn => exact Or.inr (Or.inr (Or.inr (Or.inl rfl)))
  case return_ => exact Or.inr (Or.inr (Or.inr (Or.inr (Or.inl rfl))))
  case invokevirtual i => exact Or.inr (Or.inr (Or.inr (Or.inr (Or.inr (Or.inl ⟨i, rfl⟩)))))
  case invokestatic i => exact Or.inr (Or.inr (Or.inr (Or.inr (Or.inr (Or.inr (Or.inl ⟨i, rfl⟩))))))
  case invokespecial i => exact Or.inr (Or.inr (Or.inr (Or.inr (Or.inr (Or.inr (Or.inr ⟨i, rfl⟩))))))
  all_goals left
  all_goals (unfold sn_do at hg; dsimp only [sn_ld, sn_so, sn_so2, sn_goto] at hg; (repeat' (split at hg)) <;> (cases hg) <;> exact ⟨_, rfl⟩)
def sn_Q (G : sn_P) (r : Option sn_V) (h' : sn_H) : Array Value → State → Outcome → State → Prop := fun _ st o t => o = .returned (r.map (sn_tr G)) ∧ sn_Rp G h' t.heap ∧ va_F (sn_A G) st t ∧ ∀ v, r = some v → sn_wf v
def sn_PcU (G : sn_P) (h : sn_H) : State → Prop := fun U => sn_Rp G h U.heap ∧ va_K (sn_D G) sn_cls (sn_ty G) U ∧ sn_Wd G U U.heap ∧ sn_s0 G ≤ U.heap.size
abbrev sn_room (j mc ms : Nat) : Room := { frames := sn_fr j, cells := mc, slots := ms, locals := sn_lo j }
def sn_cw (j : Nat) : Cond := if j = 88 then Cond.codeWith (sn_y j) (sn_bc j) (sn_ml j) (sn_rt j) [(0, 14, 15, 110)] else Cond.code (sn_y j) (sn_bc j) (sn_ml j) (sn_rt j)
abbrev sn_wj (j : Nat) : List Cond := sn_cw j :: wsL_law
/-- method j's contract on these arguments and this heap -/
def sn_MetJ (G : sn_P) (l : Launch) (j : Nat) (as : List sn_V) (h : sn_H) (r : Option sn_V) (h' : sn_H) : Prop :=
  Met l (sn_y j) (sn_wj j) (sn_room j (h'.1 - h.1) (h'.2.1 - h.2.1)) (va_Pc (as.map (sn_tr G)) (sn_PcU G h)) (sn_Q G r h') (h'.1 - h.1) (h'.2.1 - h.2.1) (sn_A G)
theorem sn_Wd.same {G : sn_P} {u U : State} (hv : U.vm = u.vm) (hh : U.heap = u.heap) (h : sn_Wd G u u.heap) : sn_Wd G U U.heap := by
  have ha : u.vm.Alike U.vm := by rw [hv]; exact Vm.Alike.refl u.vm
  obtain ⟨h1, h2, h3, h4, h5, h7, h8, sa, h6⟩ := h
  rw [hh]
  exact ⟨h1.moved ha, h2.moved ha, h3.moved ha, h4.moved ha, h5.moved ha, arrayOver_alikeB ha h7, fun e he => (h8 e he).same rfl hv.symm, sa, h6.same hv⟩
theorem sn_blind (G : sn_P) (h : sn_H) (av : List Value) : FrameBlind (va_Pc av (sn_PcU G h)) := fun a U g mk q => by
  obtain ⟨q1, qR, qK, qW, qs⟩ := q
  exact ⟨q1, qR, va_K.moved (u := U) (U := U.calling g mk a) (Vm.Alike.refl U.vm) qK, sn_Wd.same (u := U) (U := U.calling g mk a) rfl rfl qW, qs⟩
section SNC
variable {G : sn_P} {p : Program} {l : Launch} {e : Env} {R : Room} {s : State} {m : MethodId} {args : Array Value} {below : List Frame} {meth : Method} {c : Code} {H : Heap} {locs : List Loc} {cells slots : Nat} {Q : State → Prop} {M pc : Nat} {ls : Array Slot} {lv st : List sn_V} {h : sn_H}
theorem sn_retW {ins : Instr} {len : Nat} {o : Option sn_V × sn_H} (hd : decode (sn_bc M) pc = .ok (ins, len)) (hlen : len = sn_len ins ∨ sn_len ins = 0) (hg : sn_do M pc ins lv st h = some (.inr (.inl o))) (X : sn_Cx G M p R s m args meth c) (S : sn_Sr G M s H locs ls lv st h) :
    o.2 = h ∧ W p l e R s m args below meth c H locs cells slots (MQ below (sn_Q G o.1 h) args s cells slots (sn_A G)) (F0 m pc ls (st.map (sn_tr G))) := by
  obtain ⟨x1, x2, x3, x4, x5, x6, x7, x8, x9, x10, x11, x12, x13⟩ := X
  have hQ : ∀ (r : Option sn_V) (v : Option Value), r.map (sn_tr G) = v → (∀ w, r = some w → w ∈ st) → ∀ t : State, t.heap = H → s.WarmedH t.vm → sn_Q G r h args s (.returned v) t := fun r v hv hw t ht hW => by
    exact ⟨by rw [hv], by rw [ht]; exact S.1, S.2.1.F ht, fun w e => S.2.2.2 w (hw w e)⟩
  have hm : ∀ v w : sn_V, some v = some w → w ∈ [v] := fun v w e => by cases e; exact List.mem_cons_self
  have Z : ∀ x : sn_O, (none : Option sn_O) = some x → False := fun _ h => nomatch h
  have L : ∀ {k : Nat}, sn_len ins = k → k ≠ 0 → len = k := fun h1 h2 => hlen.elim (fun h => h.trans h1) (fun h => absurd (h1.symm.trans h) h2)
  have C : ∀ {j a pc' : Nat}, sn_call M j a pc' lv st h = some (.inr (.inl o)) → False := fun hc => by
    unfold sn_call at hc
    split at hc <;> cases hc
  rcases sn_kinds hg with ⟨d, hx⟩ | rfl | rfl | rfl | rfl | ⟨i, rfl⟩ | ⟨i, rfl⟩ | ⟨i, rfl⟩
  · cases hx
  · obtain rfl := L (k := 1) rfl (by decide)
    rcases st with _ | ⟨v, _ | ⟨w, r⟩⟩
    · exact (Z _ hg).elim
    · by_cases hv : sn_rets (sn_rk M) v = true
      · replace hg := (if_pos hv).symm.trans hg
        cases hg
        refine ⟨rfl, ?_⟩
        have hk : (∃ z, v = .inl z ∧ sn_rk M = 0) ∨ (∃ z, v = .inl z ∧ (z = 0 ∨ z = 1) ∧ sn_rk M = 1) := by
          generalize sn_rk M = t at hv
          match t, v, hv with
          | 0, .inl z, _ => exact Or.inl ⟨z, rfl, rfl⟩
          | 1, .inl z, hv => exact Or.inr ⟨z, rfl, by simpa [sn_rets] using hv, rfl⟩
        rcases hk with ⟨z, rfl, hk⟩ | ⟨z, rfl, hz, hk⟩
        · have hr : meth.sig.returnType = some .int := by rw [x4]; unfold sn_rt; rw [hk]; rfl
          exact W.iret x1 x2 hr (hQ _ _ rfl (hm _)) S.2.1.2.2 hd x5
        · have hr : meth.sig.returnType = some .boolean := by rw [x4]; unfold sn_rt; rw [hk]; rfl
          exact W.zret x1 x2 hr (by rcases hz with rfl | rfl <;> rfl) (hQ _ _ rfl (hm _)) S.2.1.2.2 hd x5
      · replace hg := (if_neg hv).symm.trans hg; cases hg
    · exact (Z _ hg).elim
  · obtain rfl := L (k := 1) rfl (by decide)
    rcases st with _ | ⟨v | v | v | v, _ | ⟨w, r⟩⟩ <;> first | (exact (Z _ hg).elim) | skip
    by_cases hk : sn_rk M = 2
    · replace hg := (if_pos hk).symm.trans hg
      cases hg
      have hr : meth.sig.returnType = some .long := by rw [x4]; unfold sn_rt; rw [hk]; rfl
      exact ⟨rfl, W.lret x1 x2 hr (hQ _ _ rfl (hm _)) S.2.1.2.2 hd x5⟩
    · replace hg := (if_neg hk).symm.trans hg; cases hg
  · obtain rfl := L (k := 1) rfl (by decide)
    rcases st with _ | ⟨v | v | v | v | v, _ | ⟨w, r⟩⟩ <;> first | (exact (Z _ hg).elim) | skip
    by_cases hk : sn_rk M = 3
    · replace hg := (if_pos hk).symm.trans hg
      cases hg
      have hr : meth.sig.returnType = some .double := by rw [x4]; unfold sn_rt; rw [hk]; rfl
      exact ⟨rfl, W.dret x1 x2 hr (hQ _ _ rfl (hm _)) S.2.1.2.2 hd x5⟩
    · replace hg := (if_neg hk).symm.trans hg; cases hg
  · obtain rfl := L (k := 1) rfl (by decide)
    rcases st with _ | ⟨v, r⟩
    · by_cases hk : sn_rk M = 4
      · replace hg := (if_pos hk).symm.trans hg
        cases hg
        have hr : meth.sig.returnType = none := by rw [x4]; unfold sn_rt; rw [hk]; rfl
        exact ⟨rfl, W.vret x1 x2 hr (hQ _ _ rfl (fun w e => by cases e)) S.2.1.2.2 hd x5⟩
      · replace hg := (if_neg hk).symm.trans hg; cases hg
    · exact (Z _ hg).elim
  · exfalso
    unfold sn_do at hg
    dsimp only at hg
    repeat' (split at hg)
    all_goals first | exact C hg | cases hg
  · exfalso
    unfold sn_do at hg
    dsimp only at hg
    repeat' (split at hg)
    all_goals first | exact C hg | cases hg
  · exfalso
    unfold sn_do at hg
    dsimp only at hg
    repeat' (split at hg)
    all_goals first | exact C hg | cases hg
/-- behind a call -/
theorem sn_runW {mc ms : Nat} {a : Array Value} {r : Option sn_V} {h' : sn_H} {st0 rest : List Value} (hr : va_Run p l e R s m args below meth c H locs cells slots mc ms (F0 m pc ls st0) rest (sn_Q G r h' a) (sn_A G)) (hS : va_S (sn_A G) s.heap H locs)
    (kk : ∀ (H' : Heap) (locs' : List Loc), (∀ v, r = some v → sn_wf v) → sn_Rp G h' H' → va_S (sn_A G) s.heap H' locs' → W p l e R s m args below meth c H' locs' (cells + mc) (slots + ms) Q (F0 m (pc + 3) ls ((r.map (sn_tr G)).toList ++ rest))) : W p l e R s m args below meth c H locs cells slots Q (F0 m pc ls st0) := by
  intro T hT X
  obtain ⟨v, st₀, t, T', L, h0, X', hL, e1, e2, ⟨hv, hRp, ⟨hz, hk⟩, hwf⟩, st⟩ := hr T hT X
  have hv := Outcome.returned.inj hv
  subst hv
  rw [h0] at hz hk
  obtain ⟨t2, a1, b1⟩ := kk T'.heap (locs ++ L) hwf (by rw [e1]; exact hRp)
    ⟨Nat.le_trans hS.1 (by rw [e1]; exact hz), fun q h1 h2 => by rw [e1, hk q (Nat.lt_of_lt_of_le h1 hS.1) h2]; exact hS.2.1 q h1 h2, fun q hq => by
      rcases List.mem_append.mp hq with h | h
      · exact hS.2.2 q h
      · exact hL q h⟩ T' rfl X'
  exact ⟨t2, st t2 a1, b1⟩
/-- what a call is -/
theorem sn_callinv {ins : Instr} {d : Nat × List sn_V × Nat × List sn_V × List sn_V × sn_H} (hg : sn_do M pc ins lv st h = some (.inr (.inr d))) :
    ∃ a : Nat, sn_fr d.1 + 1 ≤ sn_fr M ∧ sn_lo d.1 + sn_ml d.1 + 19 ≤ sn_lo M ∧ a ≤ st.length ∧ (st.drop a).length ≤ 4 ∧ (sn_lay (st.take a).reverse).length ≤ sn_ml d.1 ∧ (sn_hl d.1 = true ∨ ∀ v ∈ st.take a, sn_two v = false) ∧ d.2.1 = (st.take a).reverse ∧ d.2.2 = (pc + 3, lv, st.drop a, h) ∧
    ((∃ i b q r, ins = .invokevirtual i ∧ sn_pv (sn_oc M) i = some (d.1, b) ∧ a = b + 1 ∧ st.drop b = sn_r q :: r ∧ 2 ≤ q ∧ q < h.1 ∧ (h.2.2.1 q).1 = sn_oc d.1) ∨
     (∃ i, ins = .invokestatic i ∧ sn_ps (sn_oc M) i = some (d.1, a)) ∨
     (∃ i b q r, ins = .invokespecial i ∧ sn_pc (sn_oc M) i = some (d.1, b) ∧ d.1 ≠ 200 ∧ a = b + 1 ∧ st.drop b = sn_r q :: r ∧ 2 ≤ q ∧ q < h.1)) := by
  have Z : ∀ x : sn_O, (none : Option sn_O) = some x → False := fun _ h => nomatch h
  have C : ∀ {j a : Nat}, sn_call M j a (pc + 3) lv st h = some (.inr (.inr d)) → d.1 = j ∧ sn_fr j + 1 ≤ sn_fr M ∧ sn_lo j + sn_ml j + 19 ≤ sn_lo M ∧ a ≤ st.length ∧ (st.drop a).length ≤ 4 ∧ (sn_lay (st.take a).reverse).length ≤ sn_ml j ∧ (sn_hl j = true ∨ ∀ v ∈ st.take a, sn_two v = false) ∧ d.2.1 = (st.take a).reverse ∧ d.2.2 = (pc + 3, lv, st.drop a, h) := fun {j a} hc => by
    unfold sn_call at hc
    split at hc
    · rename_i hv
      cases hc
      simp only [Bool.and_eq_true, Bool.or_eq_true, decide_eq_true_eq, List.all_eq_true, Bool.not_eq_true'] at hv
      exact ⟨rfl, hv.1.1.1.1.1, hv.1.1.1.1.2, hv.1.1.1.2, hv.1.1.2, hv.1.2, hv.2, rfl, rfl⟩
    · cases hc
  rcases sn_kinds hg with ⟨d, hx⟩ | rfl | rfl | rfl | rfl | ⟨i, rfl⟩ | ⟨i, rfl⟩ | ⟨i, rfl⟩
  · cases hx
  · unfold sn_do at hg
    dsimp only at hg
    repeat' (split at hg)
    all_goals cases hg
  · unfold sn_do at hg
    dsimp only at hg
    repeat' (split at hg)
    all_goals cases hg
  · unfold sn_do at hg
    dsimp only at hg
    repeat' (split at hg)
    all_goals cases hg
  · unfold sn_do at hg
    dsimp only at hg
    repeat' (split at hg)
    all_goals cases hg
  · unfold sn_do at hg
    dsimp only at hg
    cases hp : sn_pv (sn_oc M) i with
    | none => rw [hp] at hg; cases hg
    | some z =>
      obtain ⟨j, b⟩ := z
      rw [hp] at hg
      try dsimp only at hg
      split at hg
      · rename_i q r hdr
        split at hg
        · rename_i hv
          simp only [Bool.and_eq_true, decide_eq_true_eq] at hv
          obtain ⟨rfl, c1, c2, c3, c4, c5, c6, c7, c8⟩ := C hg
          exact ⟨b + 1, c1, c2, c3, c4, c5, c6, c7, c8, Or.inl ⟨i, b, q, r, rfl, hp, rfl, hdr, hv.1.1, hv.1.2, hv.2⟩⟩
        · cases hg
      · cases hg
  · unfold sn_do at hg
    dsimp only at hg
    cases hp : sn_px (sn_oc M) i with
    | some k =>
      rw [hp] at hg
      obtain ⟨k3, hw⟩ := sn_pxl_ok _ (sn_find (o := sn_oc M) (i := i) (x := k) hp)
      dsimp only at k3
      rcases (show k = 0 ∨ k = 1 ∨ k = 2 by omega) with rfl | rfl | rfl
      · rcases st with _ | ⟨x | x, r⟩ <;> first | (exact (Z _ hg).elim) | skip
        by_cases hv : (decide (1 ≤ sn_fr M) && decide (21 ≤ sn_lo M) && decide (r.length ≤ 4)) = true
        · replace hg := (if_pos hv).symm.trans hg; cases hg
        · replace hg := (if_neg hv).symm.trans hg; exact (Z _ hg).elim
      · rcases st with _ | ⟨y | y, _ | ⟨x | x, r⟩⟩ <;> first | (exact (Z _ hg).elim) | skip
        by_cases hv : (decide (1 ≤ sn_fr M) && decide (21 ≤ sn_lo M) && decide (r.length ≤ 4)) = true
        · replace hg := (if_pos hv).symm.trans hg; cases hg
        · replace hg := (if_neg hv).symm.trans hg; exact (Z _ hg).elim
      · rcases st with _ | ⟨y | y, _ | ⟨x | x, r⟩⟩ <;> first | (exact (Z _ hg).elim) | skip
        by_cases hv : (decide (1 ≤ sn_fr M) && decide (21 ≤ sn_lo M) && decide (r.length ≤ 4)) = true
        · replace hg := (if_pos hv).symm.trans hg; cases hg
        · replace hg := (if_neg hv).symm.trans hg; exact (Z _ hg).elim
    | none =>
      rw [hp] at hg
      try dsimp only at hg
      cases hq : sn_ps (sn_oc M) i with
      | none => rw [hq] at hg; cases hg
      | some z =>
        obtain ⟨j, a⟩ := z
        rw [hq] at hg
        try dsimp only at hg
        obtain ⟨rfl, c1, c2, c3, c4, c5, c6, c7, c8⟩ := C hg
        exact ⟨a, c1, c2, c3, c4, c5, c6, c7, c8, Or.inr (Or.inl ⟨i, rfl, hq⟩)⟩
  · unfold sn_do at hg
    dsimp only at hg
    cases hp : sn_pc (sn_oc M) i with
    | none => rw [hp] at hg; cases hg
    | some z =>
      obtain ⟨j, b⟩ := z
      rw [hp] at hg
      by_cases hj : j = 200
      · subst hj
        rcases st with _ | ⟨y | (_ | q) | y, r⟩ <;> first | (exact (Z _ hg).elim) | skip
        by_cases hv : (decide (2 ≤ q) && decide (q < h.1) && decide (1 ≤ sn_fr M) && decide (20 ≤ sn_lo M) && decide (r.length ≤ 4)) = true
        · replace hg := (if_pos hv).symm.trans hg; cases hg
        · replace hg := (if_neg hv).symm.trans hg; exact (Z _ hg).elim
      · try dsimp only at hg
        split at hg
        · rename_i e1
          cases e1
          exact absurd rfl hj
        · rename_i j' b' hne e1
          cases e1
          split at hg
          · rename_i q r hdr
            split at hg
            · rename_i hv
              simp only [Bool.and_eq_true, decide_eq_true_eq] at hv
              obtain ⟨rfl, c1, c2, c3, c4, c5, c6, c7, c8⟩ := C hg
              exact ⟨b + 1, c1, c2, c3, c4, c5, c6, c7, c8, Or.inr (Or.inr ⟨i, b, q, r, rfl, hp, hj, rfl, hdr, hv.1, hv.2⟩)⟩
            · cases hg
          · cases hg
        · cases hg
end SNC
end
section
/-! ===== the real machine follows every run of the plain one ===== -/
theorem sn_lay_args (G : sn_P) : ∀ (as : List sn_V) (k i : Nat) (v : sn_V), (sn_lay as)[i]? = some v → v ≠ sn_u → (k + i, sn_tr G v) ∈ lv_args k (as.map (sn_tr G))
  | [], _, _, _, h, _ => by cases h
  | a :: as, k, i, v, h, hv => by
    have hc := sn_cat G a
    by_cases h2 : sn_two a = true
    · rw [if_pos h2] at hc
      have e : sn_lay (a :: as) = a :: sn_u :: sn_lay as := by show (if sn_two a then _ else _) = _; rw [if_pos h2]
      rw [e] at h
      show _ ∈ (k, sn_tr G a) :: lv_args (if (sn_tr G a).category = 2 then k + 2 else k + 1) (as.map (sn_tr G))
      rw [if_pos hc]
      match i, h with
      | 0, h => cases h; exact List.mem_cons_self
      | 1, h => cases h; exact absurd rfl hv
      | i + 2, h =>
        have := sn_lay_args G as (k + 2) i v h hv
        rw [show k + (i + 2) = k + 2 + i by omega]
        exact List.mem_cons_of_mem _ this
    · rw [if_neg h2] at hc
      have e : sn_lay (a :: as) = a :: sn_lay as := by show (if sn_two a then _ else _) = _; rw [if_neg h2]
      rw [e] at h
      show _ ∈ (k, sn_tr G a) :: lv_args (if (sn_tr G a).category = 2 then k + 2 else k + 1) (as.map (sn_tr G))
      rw [if_neg (by rw [hc]; decide)]
      match i, h with
      | 0, h => cases h; exact List.mem_cons_self
      | i + 1, h =>
        have := sn_lay_args G as (k + 1) i v h hv
        rw [show k + (i + 1) = k + 1 + i by omega]
        exact List.mem_cons_of_mem _ this
theorem sn_lay_len (G : sn_P) : ∀ as : List sn_V, (lg_sl (as.map (sn_tr G))).length = (sn_lay as).length
  | [] => rfl
  | a :: as => by
    have hc := sn_cat G a
    have ih := sn_lay_len G as
    rw [List.map_cons]
    unfold lg_sl at ih ⊢
    rw [List.flatMap_cons, List.length_append, ih]
    by_cases h2 : sn_two a = true
    · rw [if_pos h2] at hc
      have e : sn_lay (a :: as) = a :: sn_u :: sn_lay as := by show (if sn_two a then _ else _) = _; rw [if_pos h2]
      rw [if_pos hc, e]
      simp only [List.length_cons, List.length_nil]
      omega
    · rw [if_neg h2] at hc
      have e : sn_lay (a :: as) = a :: sn_lay as := by show (if sn_two a then _ else _) = _; rw [if_neg h2]
      rw [if_neg (by rw [hc]; decide), e]
      simp only [List.length_cons, List.length_nil]
      omega
theorem sn_lay_mem : ∀ (as : List sn_V) (v : sn_V), v ∈ sn_lay as → v ∈ as ∨ v = sn_u
  | [], _, h => by cases h
  | a :: as, v, h => by
    have h' : v ∈ (if sn_two a then a :: sn_u :: sn_lay as else a :: sn_lay as) := h
    split at h'
    · rcases List.mem_cons.mp h' with rfl | h1
      · exact Or.inl List.mem_cons_self
      · rcases List.mem_cons.mp h1 with rfl | h1
        · exact Or.inr rfl
        · exact (sn_lay_mem as v h1).imp (List.mem_cons_of_mem _) id
    · rcases List.mem_cons.mp h' with rfl | h1
      · exact Or.inl List.mem_cons_self
      · exact (sn_lay_mem as v h1).imp (List.mem_cons_of_mem _) id
theorem sn_ent_mem {j : Nat} {as : List sn_V} {v : sn_V} (h : v ∈ sn_ent j as) : v ∈ as ∨ v = sn_u := by
  unfold sn_ent at h
  rcases List.mem_append.mp h with h | h
  · exact sn_lay_mem as v h
  · exact Or.inr (List.mem_replicate.mp h).2
theorem sn_entry {G : sn_P} {j : Nat} {as : List sn_V} (hlen : (sn_lay as).length ≤ sn_ml j) (hwf : ∀ v ∈ as, sn_wf v) (h2 : sn_hl j = true ∨ ∀ v ∈ as, sn_two v = false) :
    sn_Ls G ((lg_sl (as.map (sn_tr G)) ++ List.replicate (sn_ml j - (lg_sl (as.map (sn_tr G))).length) Slot.unset).toArray) j (sn_ent j as) := by
  have h := lv_entry (as.map (sn_tr G)) (n := sn_ml j) (by rw [sn_lay_len]; exact hlen)
  refine ⟨⟨h.1, h.2.1, fun q hq => h.2.2 q ?_⟩, ?_, fun v hv => ?_, fun hM v hv => ?_⟩
  · obtain ⟨v, hv, hne, hq2⟩ := (sn_lvl_mem G _ q).mp hq
    obtain ⟨i, w⟩ := q
    dsimp only at hv hq2
    subst hq2
    unfold sn_ent at hv
    by_cases hi : i < (sn_lay as).length
    · rw [List.getElem?_append_left hi] at hv
      have := sn_lay_args G as 0 i v hv hne
      rw [Nat.zero_add] at this
      exact this
    · rw [List.getElem?_append_right (by omega)] at hv
      exact absurd (List.mem_replicate.mp (List.mem_of_getElem? hv)).2 hne
  · unfold sn_ent
    rw [List.length_append, List.length_replicate]
    omega
  · rcases sn_ent_mem hv with h | rfl
    · exact hwf v h
    · trivial
  · rcases sn_ent_mem hv with h | rfl
    · rcases h2 with h2 | h2
      · rw [h2] at hM; cases hM
      · exact h2 v h
    · rfl
theorem sn_cw_in {j : Nat} (hj : j < 129) : sn_cw j ∈ wsL_law := by
  unfold sn_cw
  by_cases h : j = 88
  · rw [if_pos h]; subst h; exact sn_code_88
  · rw [if_neg h]; exact sn_code_all j hj h
/-- a method's contract, out of what its body does -/
theorem sn_met {G : sn_P} {l : Launch} {j : Nat} {as : List sn_V} {h h' : sn_H} {r : Option sn_V} (hj : j < 129) (hpl : sn_oc j < 11) (hlen : (sn_lay as).length ≤ sn_ml j) (hwf : ∀ v ∈ as, sn_wf v) (h2 : sn_hl j = true ∨ ∀ v ∈ as, sn_two v = false)
    (hbody : ∀ {p : Program} {e : Env} {R : Room} {s : State} {m : MethodId} {args : Array Value} {below : List Frame} {meth : Method} {c : Code} {H : Heap} {locs : List Loc} {cells slots : Nat} {ls : Array Slot}, sn_Cx G j p R s m args meth c → sn_Sr G j s H locs ls (sn_ent j as) [] h → cells + (h'.1 - h.1) ≤ R.cells → slots + (h'.2.1 - h.2.1) ≤ R.slots → W p l e R s m args below meth c H locs cells slots (MQ below (sn_Q G r h') args s (cells + (h'.1 - h.1)) (slots + (h'.2.1 - h.2.1)) (sn_A G)) (F0 m 0 ls [])) : sn_MetJ G l j as h r h' := by
  have hcls := (sn_ycls j hj).1
  have key : ∀ p e s m args below meth c s₁, BodyLoose p l (sn_y j) (headSpec (sn_wj j) (sn_room j (h'.1 - h.1) (h'.2.1 - h.2.1))) (sn_bc j) (sn_ml j) (sn_rt j) e s m args below meth c s₁ → c.maxLocals = sn_ml j → va_Pc (as.map (sn_tr G)) (sn_PcU G h) args s →
      W p l e (headSpec (sn_wj j) (sn_room j (h'.1 - h.1) (h'.2.1 - h.2.1))).room s m args below meth c s.heap [] 0 0 (MQ below (sn_Q G r h') args s (h'.1 - h.1) (h'.2.1 - h.2.1) (sn_A G)) (entryFrame m args (sn_ml j)) := by
    intro p e s m args below meth c s₁ B hml hv
    obtain ⟨rfl, hR, hK, hW, hs0⟩ := hv
    have hts : ∀ w ∈ wsL_law, w.before (as.map (sn_tr G)).toArray s = true := fun w hw => atoms_spec (ws := sn_wj j) B.pre w (List.mem_cons_of_mem _ hw)
    have hown : s.vm.findClass (sn_y j).cls = some m.cls := findClass_of_methodNamed B.named
    rw [hcls] at hown
    have hnm : meth.name = (sn_y j).name := (name_of_methodNamed B.named B.method).1
    rw [lg_entry_eq]
    have k := hbody (p := p) (e := e) (R := (headSpec (sn_wj j) (sn_room j (h'.1 - h.1) (h'.2.1 - h.2.1))).room) (s := s) (m := m) (args := (as.map (sn_tr G)).toArray) (below := below) (meth := meth) (c := c) (H := s.heap) (locs := []) (cells := 0) (slots := 0)
      ⟨B.exec, B.bytes, hml, B.returns, B.notSynchronized, hown, fun hi => hnm.trans (sn_in_name j hi), hts, hK, hW, Nat.le_refl _, Nat.le_refl _, hs0⟩ ⟨hR, va_S.rf, sn_entry hlen hwf h2, fun v hv => by cases hv⟩ (by show 0 + _ ≤ (h'.1 - h.1); omega) (by show 0 + _ ≤ (h'.2.1 - h.2.1); omega)
    rw [Nat.zero_add, Nat.zero_add] at k
    exact k
  have hpn : plainName (sn_y j).cls = true := by rw [hcls]; exact sn_cn_plain1 _ hpl
  by_cases h88 : j = 88
  · exact va_MetW (hh := [(0, 14, 15, 110)]) hpn (by show sn_cw j :: wsL_law = _; unfold sn_cw; rw [if_pos h88]) key
  · exact Met.ofW hpn (by show sn_cw j :: wsL_law = _; unfold sn_cw; rw [if_neg h88]) key
theorem sn_sub {L : List Cond} (h : ∀ w ∈ L, w ∈ wsL_law) : GoodIn wsL_law L := fun w hw => ⟨h w hw, (sn_gl w (h w hw)).2⟩
section SNE
variable {G : sn_P} {p : Program} {l : Launch} {e : Env} {R : Room} {s : State} {m : MethodId} {args : Array Value} {below : List Frame} {meth : Method} {c : Code} {H : Heap} {locs : List Loc} {cells slots : Nat} {Q : State → Prop} {M pc : Nat} {ls : Array Slot} {lv st : List sn_V} {h : sn_H}
/-- a call, by the callee's contract -/
theorem sn_callW {ins : Instr} {len : Nat} {d : Nat × List sn_V × Nat × List sn_V × List sn_V × sn_H} {r1 : Option sn_V} {h1 : sn_H} (hd : decode (sn_bc M) pc = .ok (ins, len)) (hlen : len = sn_len ins ∨ sn_len ins = 0) (hg : sn_do M pc ins lv st h = some (.inr (.inr d))) (hmet : d.1 < 129 → sn_oc d.1 < 11 → (sn_lay d.2.1).length ≤ sn_ml d.1 → (∀ v ∈ d.2.1, sn_wf v) → (sn_hl d.1 = true ∨ ∀ v ∈ d.2.1, sn_two v = false) → sn_MetJ G l d.1 d.2.1 h r1 h1)
    (X : sn_Cx G M p R s m args meth c) (S : sn_Sr G M s H locs ls lv st h) (hc : cells + (h1.1 - h.1) ≤ R.cells) (hs : slots + (h1.2.1 - h.2.1) ≤ R.slots)
    (kk : ∀ (H' : Heap) (locs' : List Loc), sn_Sr G M s H' locs' ls lv (r1.toList ++ d.2.2.2.2.1) h1 → W p l e R s m args below meth c H' locs' (cells + (h1.1 - h.1)) (slots + (h1.2.1 - h.2.1)) Q (F0 m d.2.2.1 ls ((r1.toList ++ d.2.2.2.2.1).map (sn_tr G)))) :
    W p l e R s m args below meth c H locs cells slots Q (F0 m pc ls (st.map (sn_tr G))) := by
  obtain ⟨x1, x2, x3, x4, x5, x6, x7, x8, x9, x10, x11, x12, x13⟩ := X
  obtain ⟨a, c1, c2, c3, c4, c5, c6, c7, c8, hk⟩ := sn_callinv hg
  have L : ∀ {k : Nat}, sn_len ins = k → k ≠ 0 → len = k := fun h1 h2 => hlen.elim (fun h => h.trans h1) (fun h => absurd (h1.symm.trans h) h2)
  obtain ⟨j, as, d2⟩ := d
  dsimp only at c1 c2 c5 c6 c7 c8 hk hmet kk
  subst c7; subst c8
  dsimp only at kk
  have hwas : ∀ v ∈ (st.take a).reverse, sn_wf v := fun v hv => S.2.2.2 v (List.mem_of_mem_take (List.mem_reverse.mp hv))
  have h2as : sn_hl j = true ∨ ∀ v ∈ (st.take a).reverse, sn_two v = false := c6.imp id (fun h v hv => h v (List.mem_reverse.mp hv))
  have hPc : ∀ U : State, U.heap = H → s.WarmedH U.vm → sn_PcU G h U := fun U hU hW => ⟨by rw [hU]; exact S.1, va_K.moved hW.alike x9, x10.to S.2.1 hW hU, by rw [hU]; exact Nat.le_trans x13 S.2.1.1⟩
  have hroom : 2 * (F0 m pc ls (st.map (sn_tr G))).monitorRoom + (((st.drop a).map (sn_tr G)).map fun v => v.category).sum ≤ 8 := by
    have := sn_catsum (G := G) (st.drop a)
    exact lv_room (by omega)
  have hRm : (sn_room j (h1.1 - h.1) (h1.2.1 - h.2.1)).frames + 1 ≤ R.frames ∧ 8 + (sn_ml j + 11) + (sn_room j (h1.1 - h.1) (h1.2.1 - h.2.1)).locals ≤ R.locals := ⟨Nat.le_trans c1 x11, by show 8 + (sn_ml j + 11) + sn_lo j ≤ _; omega⟩
  have fin : ∀ {b : Array Value}, va_Run p l e R s m args below meth c H locs cells slots (h1.1 - h.1) (h1.2.1 - h.2.1) (F0 m pc ls (st.map (sn_tr G))) ((st.drop a).map (sn_tr G)) (sn_Q G r1 h1 b) (sn_A G) → W p l e R s m args below meth c H locs cells slots Q (F0 m pc ls (st.map (sn_tr G))) := fun {b} hr => by
    refine sn_runW hr S.2.1 (fun H' locs' hwf hRp hS => ?_)
    have k := kk H' locs' ⟨hRp, hS, S.2.2.1, fun v hv => ?_⟩
    · have e : (r1.toList ++ st.drop a).map (sn_tr G) = (r1.map (sn_tr G)).toList ++ (st.drop a).map (sn_tr G) := by cases r1 <;> rfl
      rw [e] at k
      exact k
    · rcases List.mem_append.mp hv with h | h
      · exact hwf v (by cases r1 with
          | none => cases h
          | some w => rw [List.mem_singleton.mp h])
      · exact S.2.2.2 v (List.mem_of_mem_drop h)
  have shape : ∀ {b q : Nat} {r : List sn_V}, a = b + 1 → st.drop b = sn_r q :: r → (st.take a).reverse.map (sn_tr G) = Value.ref (sn_ad G q) :: ((st.take b).reverse.map (sn_tr G)) ∧ st.map (sn_tr G) = ((st.take b).reverse.map (sn_tr G)).reverse ++ Value.ref (sn_ad G q) :: (st.drop a).map (sn_tr G) ∧ ((st.take b).reverse.map (sn_tr G)).length = b := fun {b q r} hab hdr => by
    subst hab
    have hlt : b < st.length := by omega
    have hb : st[b]? = some (sn_r q) := by
      have := congrArg (fun l => l[0]?) hdr
      simpa using this
    have e1 : st.take (b + 1) = st.take b ++ [sn_r q] := by rw [List.take_succ, hb]; rfl
    have e2 : st.drop (b + 1) = r := by rw [← List.tail_drop, hdr]; rfl
    refine ⟨by rw [e1, List.reverse_append]; rfl, ?_, ?_⟩
    · rw [← List.map_reverse, List.reverse_reverse, e2]
      conv => lhs; rw [← List.take_append_drop b st, hdr]
      rw [List.map_append]
      rfl
    · rw [List.length_map, List.length_reverse, List.length_take]
      omega
  rcases hk with ⟨i, b, q, r, rfl, hp, hab, hdr, q2, q1, ht⟩ | ⟨i, rfl, hp⟩ | ⟨i, b, q, r, rfl, hp, hj2, hab, hdr, q2, q1⟩
  · obtain rfl := L (k := 3) rfl (by decide)
    obtain ⟨v1, v2, v3, v4, v5, v6, v7, v8, v9⟩ := sn_pvl_ok _ (sn_find (o := sn_oc M) (i := i) (x := (j, b)) hp)
    dsimp only at v1 v2 v3 v4 v5 v6 v7 v8 v9
    obtain ⟨s1, s2, s3⟩ := shape hab hdr
    have hM := hmet v1 (by omega) c5 hwas h2as
    unfold sn_MetJ at hM
    rw [s1] at hM
    obtain ⟨-, cell, g1, g2, g3, -⟩ := (S.1.ge q2 q1).obj v3 ht
    have hfc := (x9.1 _ _ (sn_cls_at v3)).2.1
    refine fin (b := (Value.ref (sn_ad G q) :: ((st.take b).reverse.map (sn_tr G))).toArray) ?_
    exact va_runV (C := (sn_y j).cls) ⟨x1, x2, x3, x6, x8⟩ hM
      (cwV (bytes := sn_bc j) (maxL := sn_ml j) (ret := sn_rt j) b x8 (sn_sub (fun w hw => by
        unfold wsV at hw
        simp only [List.cons_append, List.nil_append, List.mem_cons] at hw
        rcases hw with rfl | rfl | rfl | rfl | rfl | hw
        · exact v6
        · exact v7
        · exact v8
        · exact v9
        · exact sn_cw_in v1
        · exact hw)) (by show sn_cw j :: wsL_law = _; unfold sn_cw; rw [if_neg v2]) rfl rfl ⟨rfl, (sn_plain j v1).1, (sn_plain j v1).2, v5⟩ hRm)
      ⟨sn_blind G h _, ⟨cell, g1, by rw [g3]; rfl, by rw [v4, g2]; exact hfc⟩, fun U hU hW => ⟨rfl, hPc U hU hW⟩⟩ rfl s3 S.2.2.1.1.1 s2 hroom hd ⟨hc, hs⟩
  · obtain rfl := L (k := 3) rfl (by decide)
    obtain ⟨v1, v2, v3, v4, v5, v6⟩ := sn_psl_ok _ (sn_find (o := sn_oc M) (i := i) (x := (j, a)) hp)
    dsimp only at v1 v2 v3 v4 v5 v6
    have hM := hmet v1 v2 c5 hwas h2as
    unfold sn_MetJ at hM
    have hn : ((st.take a).reverse.map (sn_tr G)).length = a := by
      rw [List.length_map, List.length_reverse, List.length_take]
      omega
    have hst : st.map (sn_tr G) = ((st.take a).reverse.map (sn_tr G)).reverse ++ (st.drop a).map (sn_tr G) := by
      rw [← List.map_reverse, List.reverse_reverse, ← List.map_append, List.take_append_drop]
    refine fin (b := ((st.take a).reverse.map (sn_tr G)).toArray) ?_
    rcases v4 with v4 | v4
    · have hG : GoodIn wsL_law (va_wsS (sn_cn (sn_oc M)) i (sn_y j) (sn_wj j)) := sn_sub (fun w hw => by
        unfold va_wsS at hw
        simp only [List.cons_append, List.nil_append, List.mem_cons] at hw
        rcases hw with rfl | rfl | rfl | rfl | hw
        · exact v4
        · exact v5
        · exact v6
        · exact sn_cw_in v1
        · exact hw)
      by_cases h88 : j = 88
      · exact vx_runSW (hh := [(0, 14, 15, 110)]) ⟨x1, x2, x3, x6, x8⟩ hM (vx_cwSW (bytes := sn_bc j) (maxL := sn_ml j) (ret := sn_rt j) a x8 hG (by show sn_cw j :: wsL_law = _; unfold sn_cw; rw [if_pos h88]) rfl rfl ⟨(sn_plain j v1).1, (sn_plain j v1).2, v3⟩ hRm)
          ⟨sn_blind G h _, fun U hU hW => ⟨rfl, hPc U hU hW⟩⟩ rfl hn S.2.2.1.1.1 hst hroom hd ⟨hc, hs⟩
      · exact va_runS ⟨x1, x2, x3, x6, x8⟩ hM (va_cwS (bytes := sn_bc j) (maxL := sn_ml j) (ret := sn_rt j) a x8 hG (by show sn_cw j :: wsL_law = _; unfold sn_cw; rw [if_neg h88]) rfl rfl ⟨(sn_plain j v1).1, (sn_plain j v1).2, v3⟩ hRm)
          ⟨sn_blind G h _, fun U hU hW => ⟨rfl, hPc U hU hW⟩⟩ rfl hn S.2.2.1.1.1 hst hroom hd ⟨hc, hs⟩
    · have h88 : j ≠ 88 := fun e => by
        subst e
        simp only [sn_nl, List.mem_cons, Prod.mk.injEq, List.not_mem_nil, or_false] at v4
        omega
      have hnl : va_Nw (.methodLinkNest (sn_cn (sn_oc M)) i (sn_y j) "Songnations") s := x10.2.2.2.2.2.2.1 (sn_oc M, i, j) v4
      have hws : GoodIn wsL_law (sn_wj j) := sn_sub (fun w hw => by
        rcases List.mem_cons.mp hw with rfl | hw
        · exact sn_cw_in v1
        · exact hw)
      have hwe : sn_wj j = Cond.code (sn_y j) (sn_bc j) (sn_ml j) (sn_rt j) :: wsL_law := by
        show sn_cw j :: wsL_law = _
        unfold sn_cw
        rw [if_neg h88]
      exact va_runSN (host := "Songnations") ⟨x1, x2, x3, x6, x8⟩ hM ⟨va_cnB (bytes := sn_bc j) (maxL := sn_ml j) (ret := sn_rt j) a x8 hws hwe rfl rfl hnl (x8 _ v6) ⟨(sn_plain j v1).1, (sn_plain j v1).2, v3⟩ hRm, x8 _ v5, trivial⟩
        ⟨sn_blind G h _, fun U hU hW => ⟨rfl, hPc U hU hW⟩⟩ rfl hn S.2.2.1.1.1 hst hroom hd ⟨hc, hs⟩
  · obtain rfl := L (k := 3) rfl (by decide)
    rcases sn_pcl_ok _ (sn_find (o := sn_oc M) (i := i) (x := (j, b)) hp) with h9 | ⟨v1, v2, v3, v4, v5, v6⟩
    · exact absurd h9.1 hj2
    dsimp only at v1 v2 v3 v4 v5 v6
    have v0 : j < 129 := by omega
    have hoc : sn_oc j < 11 := by
      rcases sn_lt10 v1 with rfl | rfl | rfl | rfl | rfl | rfl | rfl | rfl | rfl | rfl <;> decide
    have hrt : sn_rt j = none := by
      rcases sn_lt10 v1 with rfl | rfl | rfl | rfl | rfl | rfl | rfl | rfl | rfl | rfl <;> rfl
    obtain ⟨s1, s2, s3⟩ := shape hab hdr
    have hM := hmet v0 hoc c5 hwas h2as
    unfold sn_MetJ at hM
    rw [s1] at hM
    refine fin (b := (Value.ref (sn_ad G q) :: ((st.take b).reverse.map (sn_tr G))).toArray) ?_
    have hws : GoodIn wsL_law (sn_wj j) := sn_sub (fun w hw => by
      rcases List.mem_cons.mp hw with rfl | hw
      · exact sn_cw_in v0
      · exact hw)
    have hwe : sn_wj j = Cond.code (sn_y j) (sn_bc j) (sn_ml j) none :: wsL_law := by
      show sn_cw j :: wsL_law = _
      unfold sn_cw
      rw [if_neg (by omega), hrt]
    rcases v4 with v4 | v4
    · exact va_runI (b := sn_ad G q) ⟨x1, x2, x3, x6, x8⟩ hM
        (cwI (bytes := sn_bc j) (maxL := sn_ml j) b x8 hws hwe rfl rfl (x8 _ v6) (x8 _ v4) (x8 _ v5) v2 ⟨(sn_plain j v0).1, (sn_plain j v0).2, v3⟩ hRm)
        ⟨sn_blind G h _, fun U hU hW => ⟨rfl, hPc U hU hW⟩⟩ rfl s3 S.2.2.1.1.1 s2 hroom hd ⟨hc, hs⟩
    · have hnl : va_Nw (.methodLinkNest (sn_cn (sn_oc M)) i (sn_y j) "Songnations") s := x10.2.2.2.2.2.2.1 (sn_oc M, i, j) v4
      exact va_runIN (host := "Songnations") (b := sn_ad G q) ⟨x1, x2, x3, x6, x8⟩ hM
        ⟨va_cnB (bytes := sn_bc j) (maxL := sn_ml j) (ret := none) b x8 hws hwe rfl rfl hnl (x8 _ v6) ⟨(sn_plain j v0).1, (sn_plain j v0).2, v3⟩ hRm, v2, x8 _ v5⟩
        ⟨sn_blind G h _, fun U hU hW => ⟨rfl, hPc U hU hW⟩⟩ rfl s3 S.2.2.1.1.1 s2 hroom hd ⟨hc, hs⟩
end SNE
theorem sn_ret_same {M pc : Nat} {ins : Instr} {lv st : List sn_V} {h : sn_H} {o : Option sn_V × sn_H} (hg : sn_do M pc ins lv st h = some (.inr (.inl o))) : o.2 = h := by
  have C : ∀ {j a pc' : Nat}, sn_call M j a pc' lv st h = some (.inr (.inl o)) → False := fun hc => by
    unfold sn_call at hc
    split at hc <;> cases hc
  rcases sn_kinds hg with ⟨d, hx⟩ | rfl | rfl | rfl | rfl | ⟨i, rfl⟩ | ⟨i, rfl⟩ | ⟨i, rfl⟩
  · cases hx
  all_goals
    unfold sn_do at hg
    dsimp only at hg
    (repeat' (split at hg))
    all_goals first | exact (C hg).elim | (cases hg; done) | (cases hg; rfl)
/-- what is asked of 'has' where it catches -/
def sn_Has (G : sn_P) (l : Launch) : Prop := ∀ (as : List sn_V) (h : sn_H) (o : Option sn_V × sn_H), sn_hs as h = some o → sn_MetJ G l 88 as h o.1 o.2
theorem sn_hs_mono {as : List sn_V} {h : sn_H} {o : Option sn_V × sn_H} (hg : sn_hs as h = some o) : h.1 ≤ o.2.1 ∧ h.2.1 ≤ o.2.2.1 := by
  unfold sn_hs at hg
  repeat' (split at hg)
  all_goals first
    | (cases hg; exact ⟨Nat.le_succ _, Nat.le_add_right _ _⟩)
    | cases hg
/-- THE SIMULATION -/
theorem sn_sim {G : sn_P} {l : Launch} (hhas : sn_Has G l) : ∀ (f M pc : Nat) (lv st : List sn_V) (h : sn_H) (r : Option sn_V) (h' : sn_H), sn_ex f M pc lv st h = some (r, h') →
    (h.1 ≤ h'.1 ∧ h.2.1 ≤ h'.2.1) ∧ ∀ {p : Program} {e : Env} {R : Room} {s : State} {m : MethodId} {args : Array Value} {below : List Frame} {meth : Method} {c : Code} {H : Heap} {locs : List Loc} {cells slots : Nat} {ls : Array Slot}, sn_Cx G M p R s m args meth c → sn_Sr G M s H locs ls lv st h → cells + (h'.1 - h.1) ≤ R.cells → slots + (h'.2.1 - h.2.1) ≤ R.slots →
      W p l e R s m args below meth c H locs cells slots (MQ below (sn_Q G r h') args s (cells + (h'.1 - h.1)) (slots + (h'.2.1 - h.2.1)) (sn_A G)) (F0 m pc ls (st.map (sn_tr G))) := by
  intro f
  induction f with
  | zero => intro M pc lv st h r h' hx; cases hx
  | succ f ih =>
    intro M pc lv st h r h' hx
    unfold sn_ex at hx
    cases hgo : sn_go M pc lv st h with
    | none => rw [hgo] at hx; cases hx
    | some o =>
      rw [hgo] at hx
      obtain ⟨ins, len, hd, hlen, hg⟩ : ∃ ins len, decode (sn_bc M) pc = .ok (ins, len) ∧ (len = sn_len ins ∨ sn_len ins = 0) ∧ sn_do M pc ins lv st h = some o := by
        unfold sn_go at hgo
        cases hdc : decode (sn_bc M) pc with
        | error z => rw [hdc] at hgo; cases hgo
        | ok z =>
          obtain ⟨ins, len⟩ := z
          rw [hdc] at hgo
          dsimp only at hgo
          split at hgo
          · rename_i hl
            simp only [Bool.or_eq_true, decide_eq_true_eq] at hl
            exact ⟨ins, len, rfl, hl, hgo⟩
          · cases hgo
      rcases o with d | o | d
      · dsimp only at hx
        obtain ⟨⟨m1, m2⟩, step⟩ := sn_next (G := G) hd hlen hg
        obtain ⟨⟨n1, n2⟩, go⟩ := ih _ _ _ _ _ _ _ hx
        have e1 : (d.2.2.2.1 - h.1) + (h'.1 - d.2.2.2.1) = h'.1 - h.1 := by omega
        have e2 : (d.2.2.2.2.1 - h.2.1) + (h'.2.1 - d.2.2.2.2.1) = h'.2.1 - h.2.1 := by omega
        refine ⟨⟨Nat.le_trans m1 n1, Nat.le_trans m2 n2⟩, ?_⟩
        intro p e R s m args below meth c H locs cells slots ls X S hc hs
        refine step X S (by omega) (by omega) (fun H' locs' ls' S' => ?_)
        have k := go (e := e) (below := below) X S' (by rw [Nat.add_assoc, e1]; exact hc) (by rw [Nat.add_assoc, e2]; exact hs)
        rw [Nat.add_assoc, Nat.add_assoc, e1, e2] at k
        exact k
      · dsimp only at hx
        cases hx
        have hh : h' = h := sn_ret_same hg
        subst hh
        refine ⟨⟨Nat.le_refl _, Nat.le_refl _⟩, ?_⟩
        intro p e R s m args below meth c H locs cells slots ls X S hc hs
        obtain ⟨-, k⟩ := sn_retW (below := below) (e := e) (l := l) hd hlen hg X S
        rw [Nat.sub_self, Nat.sub_self, Nat.add_zero, Nat.add_zero]
        exact k
      · dsimp only at hx
        have hdh : d.2.2.2.2.2 = h := by
          obtain ⟨a, -, -, -, -, -, -, -, c8, -⟩ := sn_callinv hg
          exact congrArg (fun z => z.2.2.2) c8
        have hdl : d.2.2.2.1 = lv := by
          obtain ⟨a, -, -, -, -, -, -, -, c8, -⟩ := sn_callinv hg
          exact congrArg (fun z => z.2.1) c8
        rw [hdh, hdl] at hx
        have done : ∀ (r1 : Option sn_V) (h1 : sn_H), (h.1 ≤ h1.1 ∧ h.2.1 ≤ h1.2.1) → (d.1 < 129 → sn_oc d.1 < 11 → (sn_lay d.2.1).length ≤ sn_ml d.1 → (∀ v ∈ d.2.1, sn_wf v) → (sn_hl d.1 = true ∨ ∀ v ∈ d.2.1, sn_two v = false) → sn_MetJ G l d.1 d.2.1 h r1 h1) → sn_ex f M d.2.2.1 lv (r1.toList ++ d.2.2.2.2.1) h1 = some (r, h') →
            (h.1 ≤ h'.1 ∧ h.2.1 ≤ h'.2.1) ∧ ∀ {p : Program} {e : Env} {R : Room} {s : State} {m : MethodId} {args : Array Value} {below : List Frame} {meth : Method} {c : Code} {H : Heap} {locs : List Loc} {cells slots : Nat} {ls : Array Slot}, sn_Cx G M p R s m args meth c → sn_Sr G M s H locs ls lv st h → cells + (h'.1 - h.1) ≤ R.cells → slots + (h'.2.1 - h.2.1) ≤ R.slots →
              W p l e R s m args below meth c H locs cells slots (MQ below (sn_Q G r h') args s (cells + (h'.1 - h.1)) (slots + (h'.2.1 - h.2.1)) (sn_A G)) (F0 m pc ls (st.map (sn_tr G))) := by
          intro r1 h1 hm hmet hx1
          obtain ⟨⟨n1, n2⟩, go⟩ := ih _ _ _ _ _ _ _ hx1
          have e1 : (h1.1 - h.1) + (h'.1 - h1.1) = h'.1 - h.1 := by omega
          have e2 : (h1.2.1 - h.2.1) + (h'.2.1 - h1.2.1) = h'.2.1 - h.2.1 := by omega
          refine ⟨⟨Nat.le_trans hm.1 n1, Nat.le_trans hm.2 n2⟩, ?_⟩
          intro p e R s m args below meth c H locs cells slots ls X S hc hs
          refine sn_callW hd hlen hg hmet X S (by omega) (by omega) (fun H' locs' S' => ?_)
          have k := go (e := e) (below := below) X S' (by rw [Nat.add_assoc, e1]; exact hc) (by rw [Nat.add_assoc, e2]; exact hs)
          rw [Nat.add_assoc, Nat.add_assoc, e1, e2] at k
          exact k
        cases hhs : (if d.1 = 88 then sn_hs d.2.1 h else none) with
        | some o =>
          rw [hhs] at hx
          by_cases h88 : d.1 = 88
          · rw [if_pos h88] at hhs
            refine done o.1 o.2 (sn_hs_mono hhs) (fun _ _ _ _ _ => ?_) hx
            rw [h88]
            exact hhas _ _ _ hhs
          · rw [if_neg h88] at hhs; cases hhs
        | none =>
          rw [hhs] at hx
          dsimp only at hx
          cases hcl : sn_ex f d.1 0 (sn_ent d.1 d.2.1) [] h with
          | none => rw [hcl] at hx; cases hx
          | some o =>
            rw [hcl] at hx
            obtain ⟨o1, o2⟩ := o
            obtain ⟨hm, go⟩ := ih _ _ _ _ _ _ _ hcl
            exact done o1 o2 hm (fun a1 a2 a3 a4 a5 => sn_met a1 a2 a3 a4 a5 (fun X S hc hs => go X S hc hs)) hx
end
section
/-! ===== what a run of the plain machine comes to ===== -/
def sn_Wp (M pc : Nat) (lv st : List sn_V) (h : sn_H) (Q : Option sn_V → sn_H → Prop) : Prop := ∃ (f : Nat) (o : Option sn_V × sn_H), sn_ex f M pc lv st h = some o ∧ Q o.1 o.2
theorem sn_ex_succ : ∀ (f M pc : Nat) (lv st : List sn_V) (h : sn_H) (o : Option sn_V × sn_H), sn_ex f M pc lv st h = some o → sn_ex (f + 1) M pc lv st h = some o := by
  intro f
  induction f with
  | zero => intro M pc lv st h o hx; cases hx
  | succ f ih =>
    intro M pc lv st h o hx
    unfold sn_ex at hx ⊢
    cases hgo : sn_go M pc lv st h with
    | none => rw [hgo] at hx; cases hx
    | some c =>
      rw [hgo] at hx
      rcases c with d | d | d
      · dsimp only at hx ⊢
        exact ih _ _ _ _ _ _ hx
      · exact hx
      · dsimp only at hx ⊢
        cases hhs : (if d.1 = 88 then sn_hs d.2.1 d.2.2.2.2.2 else none) with
        | some p =>
          rw [hhs] at hx
          dsimp only at hx ⊢
          exact ih _ _ _ _ _ _ hx
        | none =>
          rw [hhs] at hx
          dsimp only at hx ⊢
          cases hcl : sn_ex f d.1 0 (sn_ent d.1 d.2.1) [] d.2.2.2.2.2 with
          | none => rw [hcl] at hx; cases hx
          | some p =>
            rw [hcl] at hx
            rw [ih _ _ _ _ _ _ hcl]
            dsimp only at hx ⊢
            exact ih _ _ _ _ _ _ hx
theorem sn_ex_le {f g M pc : Nat} {lv st : List sn_V} {h : sn_H} {o : Option sn_V × sn_H} (hx : sn_ex f M pc lv st h = some o) (hle : f ≤ g) : sn_ex g M pc lv st h = some o := by
  induction hle with
  | refl => exact hx
  | step _ ih => exact sn_ex_succ _ _ _ _ _ _ _ ih
theorem sn_Wp.mono {M pc : Nat} {lv st : List sn_V} {h : sn_H} {Q Q' : Option sn_V → sn_H → Prop} (k : sn_Wp M pc lv st h Q) (hQ : ∀ r h', Q r h' → Q' r h') : sn_Wp M pc lv st h Q' := by
  obtain ⟨f, o, h1, h2⟩ := k
  exact ⟨f, o, h1, hQ _ _ h2⟩
/-- the run is one: what two runs say holds of one end -/
theorem sn_Wp.both {M pc : Nat} {lv st : List sn_V} {h : sn_H} {Q Q' : Option sn_V → sn_H → Prop} (k : sn_Wp M pc lv st h Q) (k' : sn_Wp M pc lv st h Q') : sn_Wp M pc lv st h (fun r h' => Q r h' ∧ Q' r h') := by
  obtain ⟨f, o, h1, h2⟩ := k
  obtain ⟨f', o', h1', h2'⟩ := k'
  have e1 := sn_ex_le h1 (Nat.le_max_left f f')
  have e2 := sn_ex_le h1' (Nat.le_max_right f f')
  have e : o = o' := Option.some.inj (e1.symm.trans e2)
  subst e
  exact ⟨_, o, e1, h2, h2'⟩
/-- what a call's answer puts on the stack -/
abbrev sn_bk (M pc : Nat) (lv st : List sn_V) (Q : Option sn_V → sn_H → Prop) : Option sn_V → sn_H → Prop := fun r h => match r with
  | some v => sn_Wp M pc lv (v :: st) h Q
  | none => sn_Wp M pc lv st h Q
section SNW
variable {M pc len : Nat} {ins : Instr} {cc : ByteArray} {lv st : List sn_V} {h : sn_H} {Q : Option sn_V → sn_H → Prop}
theorem sn_q_go {d : Nat × List sn_V × List sn_V × sn_H} (hb : sn_bc M = cc) (hd : decode cc pc = .ok (ins, len)) (hl : (decide (len = sn_len ins) || decide (sn_len ins = 0)) = true) (hdo : sn_do M pc ins lv st h = some (.inl d)) (k : sn_Wp M d.1 d.2.1 d.2.2.1 d.2.2.2 Q) : sn_Wp M pc lv st h Q := by
  obtain ⟨f, o, h1, h2⟩ := k
  refine ⟨f + 1, o, ?_, h2⟩
  unfold sn_ex
  have e : sn_go M pc lv st h = some (.inl d) := by
    unfold sn_go
    rw [hb, hd]
    dsimp only
    rw [if_pos hl]
    exact hdo
  rw [e]
  exact h1
theorem sn_q_end {o : Option sn_V × sn_H} (hb : sn_bc M = cc) (hd : decode cc pc = .ok (ins, len)) (hl : (decide (len = sn_len ins) || decide (sn_len ins = 0)) = true) (hdo : sn_do M pc ins lv st h = some (.inr (.inl o))) (k : Q o.1 o.2) : sn_Wp M pc lv st h Q := by
  refine ⟨1, o, ?_, k⟩
  unfold sn_ex
  have e : sn_go M pc lv st h = some (.inr (.inl o)) := by
    unfold sn_go
    rw [hb, hd]
    dsimp only
    rw [if_pos hl]
    exact hdo
  rw [e]
theorem sn_q_call {d : Nat × List sn_V × Nat × List sn_V × List sn_V × sn_H} (hb : sn_bc M = cc) (hd : decode cc pc = .ok (ins, len)) (hl : (decide (len = sn_len ins) || decide (sn_len ins = 0)) = true) (hdo : sn_do M pc ins lv st h = some (.inr (.inr d))) (hhs : (if d.1 = 88 then sn_hs d.2.1 d.2.2.2.2.2 else none) = none)
    (k : sn_Wp d.1 0 (sn_ent d.1 d.2.1) [] d.2.2.2.2.2 (sn_bk M d.2.2.1 d.2.2.2.1 d.2.2.2.2.1 Q)) : sn_Wp M pc lv st h Q := by
  obtain ⟨f, o, h1, h2⟩ := k
  have h3 : sn_Wp M d.2.2.1 d.2.2.2.1 (o.1.toList ++ d.2.2.2.2.1) o.2 Q := by
    obtain ⟨o1, o2⟩ := o
    cases o1 <;> exact h2
  obtain ⟨f', o', h1', h2'⟩ := h3
  have e1 := sn_ex_le h1 (Nat.le_max_left f f')
  have e2 := sn_ex_le h1' (Nat.le_max_right f f')
  refine ⟨Nat.max f f' + 1, o', ?_, h2'⟩
  unfold sn_ex
  have e : sn_go M pc lv st h = some (.inr (.inr d)) := by
    unfold sn_go
    rw [hb, hd]
    dsimp only
    rw [if_pos hl]
    exact hdo
  rw [e]
  dsimp only
  rw [hhs]
  dsimp only
  rw [e1]
  exact e2
/-- has(m, song) of a song that isn't in -/
theorem sn_q_has {d : Nat × List sn_V × Nat × List sn_V × List sn_V × sn_H} {o : Option sn_V × sn_H} (hb : sn_bc M = cc) (hd : decode cc pc = .ok (ins, len)) (hl : (decide (len = sn_len ins) || decide (sn_len ins = 0)) = true) (hdo : sn_do M pc ins lv st h = some (.inr (.inr d))) (hhs : (if d.1 = 88 then sn_hs d.2.1 d.2.2.2.2.2 else none) = some o)
    (k : sn_bk M d.2.2.1 d.2.2.2.1 d.2.2.2.2.1 Q o.1 o.2) : sn_Wp M pc lv st h Q := by
  have h3 : sn_Wp M d.2.2.1 d.2.2.2.1 (o.1.toList ++ d.2.2.2.2.1) o.2 Q := by
    obtain ⟨o1, o2⟩ := o
    cases o1 <;> exact k
  obtain ⟨f', o', h1', h2'⟩ := h3
  refine ⟨f' + 1, o', ?_, h2'⟩
  unfold sn_ex
  have e : sn_go M pc lv st h = some (.inr (.inr d)) := by
    unfold sn_go
    rw [hb, hd]
    dsimp only
    rw [if_pos hl]
    exact hdo
  rw [e]
  dsimp only
  rw [hhs]
  exact h1'
end SNW
/-! the instructions, one by one -/
section SNV
variable {M pc i : Nat} {cc : ByteArray} {lv st : List sn_V} {h : sn_H} {Q : Option sn_V → sn_H → Prop} {x y z n : Int}

theorem sn_q_iconst (hb : sn_bc M = cc) (hd : decode cc pc = .ok (.iconst n, 1)) (hn : sn_inR n = true) (k : sn_Wp M (pc + 1) (lv) (sn_i n :: st) (h) Q) : sn_Wp M pc lv (st) h Q := sn_q_go (d := (pc + 1, lv, sn_i n :: st, h)) hb hd rfl (if_pos hn) k
theorem sn_q_bipush (hb : sn_bc M = cc) (hd : decode cc pc = .ok (.bipush n, 2)) (hn : (decide (-128 ≤ n) && decide (n ≤ 127)) = true) (k : sn_Wp M (pc + 2) (lv) (sn_i n :: st) (h) Q) : sn_Wp M pc lv (st) h Q := sn_q_go (d := (pc + 2, lv, sn_i n :: st, h)) hb hd rfl (if_pos hn) k
theorem sn_q_sipush (hb : sn_bc M = cc) (hd : decode cc pc = .ok (.sipush n, 3)) (hn : (decide (-32768 ≤ n) && decide (n ≤ 32767)) = true) (k : sn_Wp M (pc + 3) (lv) (sn_i n :: st) (h) Q) : sn_Wp M pc lv (st) h Q := sn_q_go (d := (pc + 3, lv, sn_i n :: st, h)) hb hd rfl (if_pos hn) k
theorem sn_q_dconst (hb : sn_bc M = cc) (hd : decode cc pc = .ok (.dconst 0, 1)) (k : sn_Wp M (pc + 1) (lv) (sn_d FP.dconst0 :: st) (h) Q) : sn_Wp M pc lv (st) h Q := sn_q_go (d := (pc + 1, lv, sn_d FP.dconst0 :: st, h)) hb hd rfl (by unfold sn_do; dsimp only; rw [if_pos rfl]) k
theorem sn_q_iloadn {j : Fin 4} (hb : sn_bc M = cc) (hd : decode cc pc = .ok (.iload_n j, 1)) (hk : lv[j.val]? = some (sn_i x)) (k : sn_Wp M (pc + 1) (lv) (sn_i x :: st) (h) Q) : sn_Wp M pc lv (st) h Q := sn_q_go (d := (pc + 1, lv, sn_i x :: st, h)) hb hd rfl (by show sn_ld _ lv st h _ _ = _; unfold sn_ld; rw [hk]; rfl) k
theorem sn_q_iload (hb : sn_bc M = cc) (hd : decode cc pc = .ok (.iload i, 2)) (hk : lv[i]? = some (sn_i x)) (k : sn_Wp M (pc + 2) (lv) (sn_i x :: st) (h) Q) : sn_Wp M pc lv (st) h Q := sn_q_go (d := (pc + 2, lv, sn_i x :: st, h)) hb hd rfl (by show sn_ld _ lv st h _ _ = _; unfold sn_ld; rw [hk]; rfl) k
theorem sn_q_aloadn {j : Fin 4} {q : Nat} (hb : sn_bc M = cc) (hd : decode cc pc = .ok (.aload_n j, 1)) (hk : lv[j.val]? = some (sn_r q)) (k : sn_Wp M (pc + 1) (lv) (sn_r q :: st) (h) Q) : sn_Wp M pc lv (st) h Q := sn_q_go (d := (pc + 1, lv, sn_r q :: st, h)) hb hd rfl (by show sn_ld _ lv st h _ _ = _; unfold sn_ld; rw [hk]; rfl) k
theorem sn_q_aload {q : Nat} (hb : sn_bc M = cc) (hd : decode cc pc = .ok (.aload i, 2)) (hk : lv[i]? = some (sn_r q)) (k : sn_Wp M (pc + 2) (lv) (sn_r q :: st) (h) Q) : sn_Wp M pc lv (st) h Q := sn_q_go (d := (pc + 2, lv, sn_r q :: st, h)) hb hd rfl (by show sn_ld _ lv st h _ _ = _; unfold sn_ld; rw [hk]; rfl) k
theorem sn_q_lloadn {j : Fin 4} (hb : sn_bc M = cc) (hd : decode cc pc = .ok (.lload_n j, 1)) (hk : lv[j.val]? = some (sn_l x)) (k : sn_Wp M (pc + 1) (lv) (sn_l x :: st) (h) Q) : sn_Wp M pc lv (st) h Q := sn_q_go (d := (pc + 1, lv, sn_l x :: st, h)) hb hd rfl (by show sn_ld _ lv st h _ _ = _; unfold sn_ld; rw [hk]; rfl) k
theorem sn_q_lload (hb : sn_bc M = cc) (hd : decode cc pc = .ok (.lload i, 2)) (hk : lv[i]? = some (sn_l x)) (k : sn_Wp M (pc + 2) (lv) (sn_l x :: st) (h) Q) : sn_Wp M pc lv (st) h Q := sn_q_go (d := (pc + 2, lv, sn_l x :: st, h)) hb hd rfl (by show sn_ld _ lv st h _ _ = _; unfold sn_ld; rw [hk]; rfl) k
theorem sn_q_istoren {lv2 : List sn_V} {j : Fin 4} (hb : sn_bc M = cc) (hd : decode cc pc = .ok (.istore_n j, 1)) (hM : sn_hl M = false) (hk : j.val < lv.length) (hl : lv.set (j.val) (sn_i x) = lv2) (k : sn_Wp M (pc + 1) lv2 st h Q) : sn_Wp M pc lv (sn_i x :: st) h Q := by
  subst hl
  exact sn_q_go (d := (pc + 1, lv.set (j.val) (sn_i x), st, h)) hb hd rfl (by show sn_so M _ lv st h _ _ = _; unfold sn_so; rw [if_pos hk, hM]; rfl) k
theorem sn_q_istorenL {lv2 : List sn_V} {j : Fin 4} (hb : sn_bc M = cc) (hd : decode cc pc = .ok (.istore_n j, 1)) (hk : j.val < lv.length) (hn : (sn_hl M && decide (0 < j.val) && sn_two (lv.getD (j.val - 1) sn_u)) = false) (hl : lv.set (j.val) (sn_i x) = lv2) (k : sn_Wp M (pc + 1) lv2 st h Q) : sn_Wp M pc lv (sn_i x :: st) h Q := by
  subst hl
  exact sn_q_go (d := (pc + 1, lv.set (j.val) (sn_i x), st, h)) hb hd rfl (by show sn_so M _ lv st h _ _ = _; unfold sn_so; rw [if_pos hk, if_neg (by rw [hn]; decide)]) k
theorem sn_q_istore {lv2 : List sn_V} (hb : sn_bc M = cc) (hd : decode cc pc = .ok (.istore i, 2)) (hM : sn_hl M = false) (hk : i < lv.length) (hl : lv.set (i) (sn_i x) = lv2) (k : sn_Wp M (pc + 2) lv2 st h Q) : sn_Wp M pc lv (sn_i x :: st) h Q := by
  subst hl
  exact sn_q_go (d := (pc + 2, lv.set (i) (sn_i x), st, h)) hb hd rfl (by show sn_so M _ lv st h _ _ = _; unfold sn_so; rw [if_pos hk, hM]; rfl) k
theorem sn_q_istoreL {lv2 : List sn_V} (hb : sn_bc M = cc) (hd : decode cc pc = .ok (.istore i, 2)) (hk : i < lv.length) (hn : (sn_hl M && decide (0 < i) && sn_two (lv.getD (i - 1) sn_u)) = false) (hl : lv.set (i) (sn_i x) = lv2) (k : sn_Wp M (pc + 2) lv2 st h Q) : sn_Wp M pc lv (sn_i x :: st) h Q := by
  subst hl
  exact sn_q_go (d := (pc + 2, lv.set (i) (sn_i x), st, h)) hb hd rfl (by show sn_so M _ lv st h _ _ = _; unfold sn_so; rw [if_pos hk, if_neg (by rw [hn]; decide)]) k
theorem sn_q_astoren {lv2 : List sn_V} {j : Fin 4} {q : Nat} (hb : sn_bc M = cc) (hd : decode cc pc = .ok (.astore_n j, 1)) (hM : sn_hl M = false) (hk : j.val < lv.length) (hl : lv.set (j.val) (sn_r q) = lv2) (k : sn_Wp M (pc + 1) lv2 st h Q) : sn_Wp M pc lv (sn_r q :: st) h Q := by
  subst hl
  exact sn_q_go (d := (pc + 1, lv.set (j.val) (sn_r q), st, h)) hb hd rfl (by show sn_so M _ lv st h _ _ = _; unfold sn_so; rw [if_pos hk, hM]; rfl) k
theorem sn_q_astorenL {lv2 : List sn_V} {j : Fin 4} {q : Nat} (hb : sn_bc M = cc) (hd : decode cc pc = .ok (.astore_n j, 1)) (hk : j.val < lv.length) (hn : (sn_hl M && decide (0 < j.val) && sn_two (lv.getD (j.val - 1) sn_u)) = false) (hl : lv.set (j.val) (sn_r q) = lv2) (k : sn_Wp M (pc + 1) lv2 st h Q) : sn_Wp M pc lv (sn_r q :: st) h Q := by
  subst hl
  exact sn_q_go (d := (pc + 1, lv.set (j.val) (sn_r q), st, h)) hb hd rfl (by show sn_so M _ lv st h _ _ = _; unfold sn_so; rw [if_pos hk, if_neg (by rw [hn]; decide)]) k
theorem sn_q_astore {lv2 : List sn_V} {q : Nat} (hb : sn_bc M = cc) (hd : decode cc pc = .ok (.astore i, 2)) (hM : sn_hl M = false) (hk : i < lv.length) (hl : lv.set (i) (sn_r q) = lv2) (k : sn_Wp M (pc + 2) lv2 st h Q) : sn_Wp M pc lv (sn_r q :: st) h Q := by
  subst hl
  exact sn_q_go (d := (pc + 2, lv.set (i) (sn_r q), st, h)) hb hd rfl (by show sn_so M _ lv st h _ _ = _; unfold sn_so; rw [if_pos hk, hM]; rfl) k
theorem sn_q_astoreL {lv2 : List sn_V} {q : Nat} (hb : sn_bc M = cc) (hd : decode cc pc = .ok (.astore i, 2)) (hk : i < lv.length) (hn : (sn_hl M && decide (0 < i) && sn_two (lv.getD (i - 1) sn_u)) = false) (hl : lv.set (i) (sn_r q) = lv2) (k : sn_Wp M (pc + 2) lv2 st h Q) : sn_Wp M pc lv (sn_r q :: st) h Q := by
  subst hl
  exact sn_q_go (d := (pc + 2, lv.set (i) (sn_r q), st, h)) hb hd rfl (by show sn_so M _ lv st h _ _ = _; unfold sn_so; rw [if_pos hk, if_neg (by rw [hn]; decide)]) k
theorem sn_q_lstoren {lv2 : List sn_V} {j : Fin 4} (hb : sn_bc M = cc) (hd : decode cc pc = .ok (.lstore_n j, 1)) (hk : (sn_hl M && decide (j.val + 1 < lv.length)) = true) (hn : (decide (0 < j.val) && sn_two (lv.getD (j.val - 1) sn_u)) = false) (hl : (lv.set (j.val) (sn_l x)).set (j.val + 1) sn_u = lv2) (k : sn_Wp M (pc + 1) lv2 st h Q) : sn_Wp M pc lv (sn_l x :: st) h Q := by
  subst hl
  exact sn_q_go (d := (pc + 1, (lv.set (j.val) (sn_l x)).set (j.val + 1) sn_u, st, h)) hb hd rfl (by show sn_so2 M _ lv st h _ _ = _; unfold sn_so2; rw [if_pos hk, if_neg (by rw [hn]; decide)]) k
theorem sn_q_lstore {lv2 : List sn_V} (hb : sn_bc M = cc) (hd : decode cc pc = .ok (.lstore i, 2)) (hk : (sn_hl M && decide (i + 1 < lv.length)) = true) (hn : (decide (0 < i) && sn_two (lv.getD (i - 1) sn_u)) = false) (hl : (lv.set (i) (sn_l x)).set (i + 1) sn_u = lv2) (k : sn_Wp M (pc + 2) lv2 st h Q) : sn_Wp M pc lv (sn_l x :: st) h Q := by
  subst hl
  exact sn_q_go (d := (pc + 2, (lv.set (i) (sn_l x)).set (i + 1) sn_u, st, h)) hb hd rfl (by show sn_so2 M _ lv st h _ _ = _; unfold sn_so2; rw [if_pos hk, if_neg (by rw [hn]; decide)]) k
theorem sn_q_iinc {lv2 : List sn_V} (hb : sn_bc M = cc) (hd : decode cc pc = .ok (.iinc i n, 3)) (hM : sn_hl M = false) (hk : i < lv.length) (hv : lv[i]? = some (sn_i x)) (h1 : -2147483648 ≤ x + n) (h2 : x + n ≤ 2147483647) (hl : lv.set i (sn_i (x + n)) = lv2) (k : sn_Wp M (pc + 3) lv2 st h Q) : sn_Wp M pc lv st h Q := by
  subst hl
  exact sn_q_go (d := (pc + 3, lv.set i (sn_i (x + n)), st, h)) hb hd rfl (by unfold sn_do; dsimp only; rw [hv]; dsimp only; unfold sn_so; rw [if_pos hk, hM, sn_wr_id h1 h2]; rfl) k
theorem sn_q_iincL {lv2 : List sn_V} (hb : sn_bc M = cc) (hd : decode cc pc = .ok (.iinc i n, 3)) (hk : i < lv.length) (hn : (sn_hl M && decide (0 < i) && sn_two (lv.getD (i - 1) sn_u)) = false) (hv : lv[i]? = some (sn_i x)) (h1 : -2147483648 ≤ x + n) (h2 : x + n ≤ 2147483647) (hl : lv.set i (sn_i (x + n)) = lv2) (k : sn_Wp M (pc + 3) lv2 st h Q) : sn_Wp M pc lv st h Q := by
  subst hl
  exact sn_q_go (d := (pc + 3, lv.set i (sn_i (x + n)), st, h)) hb hd rfl (by unfold sn_do; dsimp only; rw [hv]; dsimp only; unfold sn_so; rw [if_pos hk, if_neg (by rw [hn]; decide), sn_wr_id h1 h2]) k
theorem sn_q_iadd (hb : sn_bc M = cc) (hd : decode cc pc = .ok (.iadd, 1)) (h1 : -2147483648 ≤ x + y) (h2 : x + y ≤ 2147483647) (k : sn_Wp M (pc + 1) lv (sn_i (x + y) :: st) h Q) : sn_Wp M pc lv (sn_i y :: sn_i x :: st) h Q := sn_q_go (d := (pc + 1, lv, sn_i (sn_wr (x + y)) :: st, h)) hb hd rfl rfl (by rw [sn_wr_id h1 h2]; exact k)
theorem sn_q_iaddW (hb : sn_bc M = cc) (hd : decode cc pc = .ok (.iadd, 1)) (k : sn_Wp M (pc + 1) lv (sn_i (sn_wr (x + y)) :: st) h Q) : sn_Wp M pc lv (sn_i y :: sn_i x :: st) h Q := sn_q_go (d := (pc + 1, lv, sn_i (sn_wr (x + y)) :: st, h)) hb hd rfl rfl k
theorem sn_q_isub (hb : sn_bc M = cc) (hd : decode cc pc = .ok (.isub, 1)) (h1 : -2147483648 ≤ x - y) (h2 : x - y ≤ 2147483647) (k : sn_Wp M (pc + 1) lv (sn_i (x - y) :: st) h Q) : sn_Wp M pc lv (sn_i y :: sn_i x :: st) h Q := sn_q_go (d := (pc + 1, lv, sn_i (sn_wr (x - y)) :: st, h)) hb hd rfl rfl (by rw [sn_wr_id h1 h2]; exact k)
theorem sn_q_isubW (hb : sn_bc M = cc) (hd : decode cc pc = .ok (.isub, 1)) (k : sn_Wp M (pc + 1) lv (sn_i (sn_wr (x - y)) :: st) h Q) : sn_Wp M pc lv (sn_i y :: sn_i x :: st) h Q := sn_q_go (d := (pc + 1, lv, sn_i (sn_wr (x - y)) :: st, h)) hb hd rfl rfl k
theorem sn_q_imul (hb : sn_bc M = cc) (hd : decode cc pc = .ok (.imul, 1)) (h1 : -2147483648 ≤ x * y) (h2 : x * y ≤ 2147483647) (k : sn_Wp M (pc + 1) lv (sn_i (x * y) :: st) h Q) : sn_Wp M pc lv (sn_i y :: sn_i x :: st) h Q := sn_q_go (d := (pc + 1, lv, sn_i (sn_wr (x * y)) :: st, h)) hb hd rfl rfl (by rw [sn_wr_id h1 h2]; exact k)
theorem sn_q_imulW (hb : sn_bc M = cc) (hd : decode cc pc = .ok (.imul, 1)) (k : sn_Wp M (pc + 1) lv (sn_i (sn_wr (x * y)) :: st) h Q) : sn_Wp M pc lv (sn_i y :: sn_i x :: st) h Q := sn_q_go (d := (pc + 1, lv, sn_i (sn_wr (x * y)) :: st, h)) hb hd rfl rfl k
theorem sn_q_iand (hb : sn_bc M = cc) (hd : decode cc pc = .ok (.iand, 1)) (k : sn_Wp M (pc + 1) lv (sn_i (sn_an x y) :: st) h Q) : sn_Wp M pc lv (sn_i y :: sn_i x :: st) h Q := sn_q_go (d := (pc + 1, lv, sn_i (sn_an x y) :: st, h)) hb hd rfl rfl k
theorem sn_q_ishr (hb : sn_bc M = cc) (hd : decode cc pc = .ok (.ishr, 1)) (k : sn_Wp M (pc + 1) lv (sn_i (sn_sh x y) :: st) h Q) : sn_Wp M pc lv (sn_i y :: sn_i x :: st) h Q := sn_q_go (d := (pc + 1, lv, sn_i (sn_sh x y) :: st, h)) hb hd rfl rfl k
theorem sn_q_idivW (hb : sn_bc M = cc) (hd : decode cc pc = .ok (.idiv, 1)) (h0 : ¬ y = 0) (k : sn_Wp M (pc + 1) lv (sn_i (sn_dv x y) :: st) h Q) : sn_Wp M pc lv (sn_i y :: sn_i x :: st) h Q := sn_q_go (d := (pc + 1, lv, sn_i (sn_dv x y) :: st, h)) hb hd rfl (if_neg h0) k
theorem sn_q_iremW (hb : sn_bc M = cc) (hd : decode cc pc = .ok (.irem, 1)) (h0 : ¬ y = 0) (k : sn_Wp M (pc + 1) lv (sn_i (sn_rm x y) :: st) h Q) : sn_Wp M pc lv (sn_i y :: sn_i x :: st) h Q := sn_q_go (d := (pc + 1, lv, sn_i (sn_rm x y) :: st, h)) hb hd rfl (if_neg h0) k
theorem sn_dv_nn {x y : Int} (hx : 0 ≤ x) (hx9 : x ≤ 2147483647) (hy : 0 < y) (hy9 : y ≤ 2147483647) : sn_dv x y = x / y := by
  unfold sn_dv
  have e1 : (Int32.ofInt x).toInt = x := sn_to ⟨by omega, hx9⟩
  have e2 : (Int32.ofInt y).toInt = y := sn_to ⟨by omega, hy9⟩
  have hne : Int32.ofInt y ≠ -1 := fun h => by
    have := congrArg Int32.toInt h
    rw [e2] at this
    have e3 : (-1 : Int32).toInt = -1 := by decide
    omega
  rw [Int32.toInt_div_of_ne_right _ _ hne, e1, e2, Int.tdiv_eq_ediv_of_nonneg hx]
theorem sn_rm_nn {x y : Int} (hx : 0 ≤ x) (hx9 : x ≤ 2147483647) (hy : 0 < y) (hy9 : y ≤ 2147483647) : sn_rm x y = x % y := by
  have hd := sn_dv_nn hx hx9 hy hy9
  unfold sn_dv at hd
  unfold sn_rm
  have e : Int32.ofInt x / Int32.ofInt y = Int32.ofInt (x / y) := by rw [← hd, Int32.ofInt_toInt]
  have hq : 0 ≤ x / y := Int.ediv_nonneg hx (by omega)
  have hm := Int.emod_nonneg x (show y ≠ 0 by omega)
  have hm2 := Int.emod_lt_of_pos x hy
  have hs : x / y * y + x % y = x := Int.ediv_mul_add_emod x y
  rw [e, ← Int32.ofInt_mul, ← Int32.ofInt_sub]
  have e3 : x - x / y * y = x % y := by omega
  rw [e3]
  exact sn_to ⟨by omega, by omega⟩
theorem sn_q_idiv (hb : sn_bc M = cc) (hd : decode cc pc = .ok (.idiv, 1)) (h1 : 0 ≤ x) (h2 : x ≤ 2147483647) (h3 : 0 < y) (h4 : y ≤ 2147483647) (k : sn_Wp M (pc + 1) lv (sn_i (x / y) :: st) h Q) : sn_Wp M pc lv (sn_i y :: sn_i x :: st) h Q := sn_q_idivW hb hd (by omega) (by rw [sn_dv_nn h1 h2 h3 h4]; exact k)
theorem sn_q_irem (hb : sn_bc M = cc) (hd : decode cc pc = .ok (.irem, 1)) (h1 : 0 ≤ x) (h2 : x ≤ 2147483647) (h3 : 0 < y) (h4 : y ≤ 2147483647) (k : sn_Wp M (pc + 1) lv (sn_i (x % y) :: st) h Q) : sn_Wp M pc lv (sn_i y :: sn_i x :: st) h Q := sn_q_iremW hb hd (by omega) (by rw [sn_rm_nn h1 h2 h3 h4]; exact k)
theorem sn_q_i2l (hb : sn_bc M = cc) (hd : decode cc pc = .ok (.i2l, 1)) (k : sn_Wp M (pc + 1) lv (sn_l x :: st) h Q) : sn_Wp M pc lv (sn_i x :: st) h Q := sn_q_go (d := (pc + 1, lv, sn_l x :: st, h)) hb hd rfl rfl k
theorem sn_q_ladd (hb : sn_bc M = cc) (hd : decode cc pc = .ok (.ladd, 1)) (k : sn_Wp M (pc + 1) lv (sn_l (sn_wl (x + y)) :: st) h Q) : sn_Wp M pc lv (sn_l y :: sn_l x :: st) h Q := sn_q_go (d := (pc + 1, lv, sn_l (sn_wl (x + y)) :: st, h)) hb hd rfl rfl k
theorem sn_q_lmul (hb : sn_bc M = cc) (hd : decode cc pc = .ok (.lmul, 1)) (k : sn_Wp M (pc + 1) lv (sn_l (sn_wl (x * y)) :: st) h Q) : sn_Wp M pc lv (sn_l y :: sn_l x :: st) h Q := sn_q_go (d := (pc + 1, lv, sn_l (sn_wl (x * y)) :: st, h)) hb hd rfl rfl k
theorem sn_q_lcmp (hb : sn_bc M = cc) (hd : decode cc pc = .ok (.lcmp, 1)) (k : sn_Wp M (pc + 1) lv (sn_i (sn_lc x y) :: st) h Q) : sn_Wp M pc lv (sn_l y :: sn_l x :: st) h Q := sn_q_go (d := (pc + 1, lv, sn_i (sn_lc x y) :: st, h)) hb hd rfl rfl k
theorem sn_q_i2d (hb : sn_bc M = cc) (hd : decode cc pc = .ok (.i2d, 1)) (k : sn_Wp M (pc + 1) lv (sn_d (FP.i2d (Int32.ofInt x)) :: st) h Q) : sn_Wp M pc lv (sn_i x :: st) h Q := sn_q_go (d := (pc + 1, lv, sn_d (FP.i2d (Int32.ofInt x)) :: st, h)) hb hd rfl rfl k
theorem sn_q_ddiv {a b : UInt64} (hb : sn_bc M = cc) (hd : decode cc pc = .ok (.ddiv, 1)) (hn : FP.ddiv a b &&& 0x7fffffffffffffff ≤ 0x7ff0000000000000) (k : sn_Wp M (pc + 1) lv (sn_d (FP.ddiv a b) :: st) h Q) : sn_Wp M pc lv (sn_d b :: sn_d a :: st) h Q := sn_q_go (d := (pc + 1, lv, sn_d (FP.ddiv a b) :: st, h)) hb hd rfl (if_pos (decide_eq_true hn)) k
theorem sn_q_dcmp {a b : UInt64} {op : CmpOp} (hb : sn_bc M = cc) (hd : decode cc pc = .ok (.dcmp op, 1)) (k : sn_Wp M (pc + 1) lv (sn_i (Op.cmpValue (FP.dcmp a b) op).toInt :: st) h Q) : sn_Wp M pc lv (sn_d b :: sn_d a :: st) h Q := sn_q_go (d := (pc + 1, lv, sn_i (Op.cmpValue (FP.dcmp a b) op).toInt :: st, h)) hb hd rfl rfl k
theorem sn_q_dup {v : sn_V} (hb : sn_bc M = cc) (hd : decode cc pc = .ok (.dup, 1)) (hv : sn_isN v = true) (k : sn_Wp M (pc + 1) lv (v :: v :: st) h Q) : sn_Wp M pc lv (v :: st) h Q := sn_q_go (d := (pc + 1, lv, v :: v :: st, h)) hb hd rfl (if_pos hv) k
theorem sn_q_dup2 {v w : sn_V} (hb : sn_bc M = cc) (hd : decode cc pc = .ok (.dup2, 1)) (hv : (sn_isN v && sn_isN w) = true) (k : sn_Wp M (pc + 1) lv (v :: w :: v :: w :: st) h Q) : sn_Wp M pc lv (v :: w :: st) h Q := sn_q_go (d := (pc + 1, lv, v :: w :: v :: w :: st, h)) hb hd rfl (if_pos hv) k
theorem sn_q_pop {v : sn_V} (hb : sn_bc M = cc) (hd : decode cc pc = .ok (.pop, 1)) (hv : sn_isN v = true) (k : sn_Wp M (pc + 1) lv st h Q) : sn_Wp M pc lv (v :: st) h Q := sn_q_go (d := (pc + 1, lv, st, h)) hb hd rfl (if_pos hv) k
theorem sn_q_goto {t : Nat} (hb : sn_bc M = cc) (hd : decode cc pc = .ok (.goto n, 3)) (ht : (pc : Int) + n = (t : Int)) (k : sn_Wp M t lv st h Q) : sn_Wp M pc lv st h Q := sn_q_go (d := (t, lv, st, h)) hb hd rfl (by show sn_goto pc n lv st h = _; unfold sn_goto; rw [ht, if_pos (Int.natCast_nonneg t)]; rfl) k
theorem sn_q_ifeq {t : Nat} (hb : sn_bc M = cc) (hd : decode cc pc = .ok (.ifCond .eq n, 3)) (ht : (pc : Int) + n = (t : Int)) (k1 : x = 0 → sn_Wp M t lv st h Q) (k2 : ¬ (x = 0) → sn_Wp M (pc + 3) lv st h Q) : sn_Wp M pc lv (sn_i x :: st) h Q := by
  by_cases hc : x = 0
  · exact sn_q_go (d := (t, lv, st, h)) hb hd rfl (by unfold sn_do; dsimp only; rw [ht, if_pos (Int.natCast_nonneg t), if_pos (show sn_cmp .eq x 0 = true from decide_eq_true hc)]; rfl) (k1 hc)
  · exact sn_q_go (d := (pc + 3, lv, st, h)) hb hd rfl (by unfold sn_do; dsimp only; rw [ht, if_pos (Int.natCast_nonneg t), if_neg (show ¬ sn_cmp .eq x 0 = true from fun z => hc (of_decide_eq_true z))]) (k2 hc)
theorem sn_q_ifne {t : Nat} (hb : sn_bc M = cc) (hd : decode cc pc = .ok (.ifCond .ne n, 3)) (ht : (pc : Int) + n = (t : Int)) (k1 : x ≠ 0 → sn_Wp M t lv st h Q) (k2 : ¬ (x ≠ 0) → sn_Wp M (pc + 3) lv st h Q) : sn_Wp M pc lv (sn_i x :: st) h Q := by
  by_cases hc : x ≠ 0
  · exact sn_q_go (d := (t, lv, st, h)) hb hd rfl (by unfold sn_do; dsimp only; rw [ht, if_pos (Int.natCast_nonneg t), if_pos (show sn_cmp .ne x 0 = true from decide_eq_true hc)]; rfl) (k1 hc)
  · exact sn_q_go (d := (pc + 3, lv, st, h)) hb hd rfl (by unfold sn_do; dsimp only; rw [ht, if_pos (Int.natCast_nonneg t), if_neg (show ¬ sn_cmp .ne x 0 = true from fun z => hc (of_decide_eq_true z))]) (k2 hc)
theorem sn_q_iflt {t : Nat} (hb : sn_bc M = cc) (hd : decode cc pc = .ok (.ifCond .lt n, 3)) (ht : (pc : Int) + n = (t : Int)) (k1 : x < 0 → sn_Wp M t lv st h Q) (k2 : ¬ (x < 0) → sn_Wp M (pc + 3) lv st h Q) : sn_Wp M pc lv (sn_i x :: st) h Q := by
  by_cases hc : x < 0
  · exact sn_q_go (d := (t, lv, st, h)) hb hd rfl (by unfold sn_do; dsimp only; rw [ht, if_pos (Int.natCast_nonneg t), if_pos (show sn_cmp .lt x 0 = true from decide_eq_true hc)]; rfl) (k1 hc)
  · exact sn_q_go (d := (pc + 3, lv, st, h)) hb hd rfl (by unfold sn_do; dsimp only; rw [ht, if_pos (Int.natCast_nonneg t), if_neg (show ¬ sn_cmp .lt x 0 = true from fun z => hc (of_decide_eq_true z))]) (k2 hc)
theorem sn_q_ifge {t : Nat} (hb : sn_bc M = cc) (hd : decode cc pc = .ok (.ifCond .ge n, 3)) (ht : (pc : Int) + n = (t : Int)) (k1 : 0 ≤ x → sn_Wp M t lv st h Q) (k2 : ¬ (0 ≤ x) → sn_Wp M (pc + 3) lv st h Q) : sn_Wp M pc lv (sn_i x :: st) h Q := by
  by_cases hc : 0 ≤ x
  · exact sn_q_go (d := (t, lv, st, h)) hb hd rfl (by unfold sn_do; dsimp only; rw [ht, if_pos (Int.natCast_nonneg t), if_pos (show sn_cmp .ge x 0 = true from decide_eq_true hc)]; rfl) (k1 hc)
  · exact sn_q_go (d := (pc + 3, lv, st, h)) hb hd rfl (by unfold sn_do; dsimp only; rw [ht, if_pos (Int.natCast_nonneg t), if_neg (show ¬ sn_cmp .ge x 0 = true from fun z => hc (of_decide_eq_true z))]) (k2 hc)
theorem sn_q_ifgt {t : Nat} (hb : sn_bc M = cc) (hd : decode cc pc = .ok (.ifCond .gt n, 3)) (ht : (pc : Int) + n = (t : Int)) (k1 : 0 < x → sn_Wp M t lv st h Q) (k2 : ¬ (0 < x) → sn_Wp M (pc + 3) lv st h Q) : sn_Wp M pc lv (sn_i x :: st) h Q := by
  by_cases hc : 0 < x
  · exact sn_q_go (d := (t, lv, st, h)) hb hd rfl (by unfold sn_do; dsimp only; rw [ht, if_pos (Int.natCast_nonneg t), if_pos (show sn_cmp .gt x 0 = true from decide_eq_true hc)]; rfl) (k1 hc)
  · exact sn_q_go (d := (pc + 3, lv, st, h)) hb hd rfl (by unfold sn_do; dsimp only; rw [ht, if_pos (Int.natCast_nonneg t), if_neg (show ¬ sn_cmp .gt x 0 = true from fun z => hc (of_decide_eq_true z))]) (k2 hc)
theorem sn_q_ifle {t : Nat} (hb : sn_bc M = cc) (hd : decode cc pc = .ok (.ifCond .le n, 3)) (ht : (pc : Int) + n = (t : Int)) (k1 : x ≤ 0 → sn_Wp M t lv st h Q) (k2 : ¬ (x ≤ 0) → sn_Wp M (pc + 3) lv st h Q) : sn_Wp M pc lv (sn_i x :: st) h Q := by
  by_cases hc : x ≤ 0
  · exact sn_q_go (d := (t, lv, st, h)) hb hd rfl (by unfold sn_do; dsimp only; rw [ht, if_pos (Int.natCast_nonneg t), if_pos (show sn_cmp .le x 0 = true from decide_eq_true hc)]; rfl) (k1 hc)
  · exact sn_q_go (d := (pc + 3, lv, st, h)) hb hd rfl (by unfold sn_do; dsimp only; rw [ht, if_pos (Int.natCast_nonneg t), if_neg (show ¬ sn_cmp .le x 0 = true from fun z => hc (of_decide_eq_true z))]) (k2 hc)
theorem sn_q_iceq {t : Nat} (hb : sn_bc M = cc) (hd : decode cc pc = .ok (.if_icmp .eq n, 3)) (ht : (pc : Int) + n = (t : Int)) (k1 : x = y → sn_Wp M t lv st h Q) (k2 : ¬ (x = y) → sn_Wp M (pc + 3) lv st h Q) : sn_Wp M pc lv (sn_i y :: sn_i x :: st) h Q := by
  by_cases hc : x = y
  · exact sn_q_go (d := (t, lv, st, h)) hb hd rfl (by unfold sn_do; dsimp only; rw [ht, if_pos (Int.natCast_nonneg t), if_pos (show sn_cmp .eq x y = true from decide_eq_true hc)]; rfl) (k1 hc)
  · exact sn_q_go (d := (pc + 3, lv, st, h)) hb hd rfl (by unfold sn_do; dsimp only; rw [ht, if_pos (Int.natCast_nonneg t), if_neg (show ¬ sn_cmp .eq x y = true from fun z => hc (of_decide_eq_true z))]) (k2 hc)
theorem sn_q_icne {t : Nat} (hb : sn_bc M = cc) (hd : decode cc pc = .ok (.if_icmp .ne n, 3)) (ht : (pc : Int) + n = (t : Int)) (k1 : x ≠ y → sn_Wp M t lv st h Q) (k2 : ¬ (x ≠ y) → sn_Wp M (pc + 3) lv st h Q) : sn_Wp M pc lv (sn_i y :: sn_i x :: st) h Q := by
  by_cases hc : x ≠ y
  · exact sn_q_go (d := (t, lv, st, h)) hb hd rfl (by unfold sn_do; dsimp only; rw [ht, if_pos (Int.natCast_nonneg t), if_pos (show sn_cmp .ne x y = true from decide_eq_true hc)]; rfl) (k1 hc)
  · exact sn_q_go (d := (pc + 3, lv, st, h)) hb hd rfl (by unfold sn_do; dsimp only; rw [ht, if_pos (Int.natCast_nonneg t), if_neg (show ¬ sn_cmp .ne x y = true from fun z => hc (of_decide_eq_true z))]) (k2 hc)
theorem sn_q_iclt {t : Nat} (hb : sn_bc M = cc) (hd : decode cc pc = .ok (.if_icmp .lt n, 3)) (ht : (pc : Int) + n = (t : Int)) (k1 : x < y → sn_Wp M t lv st h Q) (k2 : ¬ (x < y) → sn_Wp M (pc + 3) lv st h Q) : sn_Wp M pc lv (sn_i y :: sn_i x :: st) h Q := by
  by_cases hc : x < y
  · exact sn_q_go (d := (t, lv, st, h)) hb hd rfl (by unfold sn_do; dsimp only; rw [ht, if_pos (Int.natCast_nonneg t), if_pos (show sn_cmp .lt x y = true from decide_eq_true hc)]; rfl) (k1 hc)
  · exact sn_q_go (d := (pc + 3, lv, st, h)) hb hd rfl (by unfold sn_do; dsimp only; rw [ht, if_pos (Int.natCast_nonneg t), if_neg (show ¬ sn_cmp .lt x y = true from fun z => hc (of_decide_eq_true z))]) (k2 hc)
theorem sn_q_icge {t : Nat} (hb : sn_bc M = cc) (hd : decode cc pc = .ok (.if_icmp .ge n, 3)) (ht : (pc : Int) + n = (t : Int)) (k1 : y ≤ x → sn_Wp M t lv st h Q) (k2 : ¬ (y ≤ x) → sn_Wp M (pc + 3) lv st h Q) : sn_Wp M pc lv (sn_i y :: sn_i x :: st) h Q := by
  by_cases hc : y ≤ x
  · exact sn_q_go (d := (t, lv, st, h)) hb hd rfl (by unfold sn_do; dsimp only; rw [ht, if_pos (Int.natCast_nonneg t), if_pos (show sn_cmp .ge x y = true from decide_eq_true hc)]; rfl) (k1 hc)
  · exact sn_q_go (d := (pc + 3, lv, st, h)) hb hd rfl (by unfold sn_do; dsimp only; rw [ht, if_pos (Int.natCast_nonneg t), if_neg (show ¬ sn_cmp .ge x y = true from fun z => hc (of_decide_eq_true z))]) (k2 hc)
theorem sn_q_icgt {t : Nat} (hb : sn_bc M = cc) (hd : decode cc pc = .ok (.if_icmp .gt n, 3)) (ht : (pc : Int) + n = (t : Int)) (k1 : y < x → sn_Wp M t lv st h Q) (k2 : ¬ (y < x) → sn_Wp M (pc + 3) lv st h Q) : sn_Wp M pc lv (sn_i y :: sn_i x :: st) h Q := by
  by_cases hc : y < x
  · exact sn_q_go (d := (t, lv, st, h)) hb hd rfl (by unfold sn_do; dsimp only; rw [ht, if_pos (Int.natCast_nonneg t), if_pos (show sn_cmp .gt x y = true from decide_eq_true hc)]; rfl) (k1 hc)
  · exact sn_q_go (d := (pc + 3, lv, st, h)) hb hd rfl (by unfold sn_do; dsimp only; rw [ht, if_pos (Int.natCast_nonneg t), if_neg (show ¬ sn_cmp .gt x y = true from fun z => hc (of_decide_eq_true z))]) (k2 hc)
theorem sn_q_icle {t : Nat} (hb : sn_bc M = cc) (hd : decode cc pc = .ok (.if_icmp .le n, 3)) (ht : (pc : Int) + n = (t : Int)) (k1 : x ≤ y → sn_Wp M t lv st h Q) (k2 : ¬ (x ≤ y) → sn_Wp M (pc + 3) lv st h Q) : sn_Wp M pc lv (sn_i y :: sn_i x :: st) h Q := by
  by_cases hc : x ≤ y
  · exact sn_q_go (d := (t, lv, st, h)) hb hd rfl (by unfold sn_do; dsimp only; rw [ht, if_pos (Int.natCast_nonneg t), if_pos (show sn_cmp .le x y = true from decide_eq_true hc)]; rfl) (k1 hc)
  · exact sn_q_go (d := (pc + 3, lv, st, h)) hb hd rfl (by unfold sn_do; dsimp only; rw [ht, if_pos (Int.natCast_nonneg t), if_neg (show ¬ sn_cmp .le x y = true from fun z => hc (of_decide_eq_true z))]) (k2 hc)
theorem sn_q_sw {t len : Nat} {dflt lo hi off : Int} {offs : Array Int} (hb : sn_bc M = cc) (hd : decode cc pc = .ok (.tableswitch dflt lo hi offs, len)) (h1 : ¬ (x < lo ∨ hi < x)) (ho : offs[(x - lo).toNat]? = some off) (ht : (pc : Int) + off = (t : Int)) (k : sn_Wp M t lv st h Q) : sn_Wp M pc lv (sn_i x :: st) h Q := sn_q_go (d := (t, lv, st, h)) hb hd (by rw [show sn_len (Instr.tableswitch dflt lo hi offs) = 0 from rfl]; simp) (by unfold sn_do; dsimp only; rw [if_neg h1, ho]; dsimp only; unfold sn_goto; rw [ht, if_pos (Int.natCast_nonneg t)]; rfl) k
theorem sn_q_swD {t len : Nat} {dflt lo hi : Int} {offs : Array Int} (hb : sn_bc M = cc) (hd : decode cc pc = .ok (.tableswitch dflt lo hi offs, len)) (h1 : x < lo ∨ hi < x) (ht : (pc : Int) + dflt = (t : Int)) (k : sn_Wp M t lv st h Q) : sn_Wp M pc lv (sn_i x :: st) h Q := sn_q_go (d := (t, lv, st, h)) hb hd (by rw [show sn_len (Instr.tableswitch dflt lo hi offs) = 0 from rfl]; simp) (by unfold sn_do; dsimp only; rw [if_pos h1]; unfold sn_goto; rw [ht, if_pos (Int.natCast_nonneg t)]; rfl) k
theorem sn_q_ldc {o : Nat} (hb : sn_bc M = cc) (hd : decode cc pc = .ok (.ldc i, 2)) (ho : sn_oc M = o) (hf : sn_pi o i = some x) (hn : sn_inR x = true) (k : sn_Wp M (pc + 2) lv (sn_i x :: st) h Q) : sn_Wp M pc lv st h Q := sn_q_go (d := (pc + 2, lv, sn_i x :: st, h)) hb hd rfl (by unfold sn_do; dsimp only; rw [ho, hf]; dsimp only; rw [if_pos hn]) k
theorem sn_q_ldc2 {o : Nat} (hb : sn_bc M = cc) (hd : decode cc pc = .ok (.ldc2_w i, 3)) (ho : sn_oc M = o) (hf : sn_pl o i = some x) (hn : sn_wl x = x) (k : sn_Wp M (pc + 3) lv (sn_l x :: st) h Q) : sn_Wp M pc lv st h Q := sn_q_go (d := (pc + 3, lv, sn_l x :: st, h)) hb hd rfl (by unfold sn_do; dsimp only; rw [ho, hf]; dsimp only; rw [if_pos (decide_eq_true hn)]) k
theorem sn_q_alen {q : Nat} (hb : sn_bc M = cc) (hd : decode cc pc = .ok (.arraylength, 1)) (h1 : q < h.1) (h2 : (h.2.2.1 q).1 = 100) (k : sn_Wp M (pc + 1) lv (sn_i ((h.2.2.1 q).2 : Int) :: st) h Q) : sn_Wp M pc lv (sn_r q :: st) h Q := sn_q_go (d := (pc + 1, lv, sn_i ((h.2.2.1 q).2 : Int) :: st, h)) hb hd rfl (if_pos (by rw [decide_eq_true h1, decide_eq_true h2]; rfl)) k
theorem sn_q_iret (hb : sn_bc M = cc) (hd : decode cc pc = .ok (.ireturn, 1)) (hr : sn_rk M = 0) (k : Q (some (sn_i x)) h) : sn_Wp M pc lv [sn_i x] h Q := sn_q_end (o := (some (sn_i x), h)) hb hd rfl (by unfold sn_do; dsimp only; rw [hr]; rfl) k
theorem sn_q_zret (hb : sn_bc M = cc) (hd : decode cc pc = .ok (.ireturn, 1)) (hr : sn_rk M = 1) (hx : x = 0 ∨ x = 1) (k : Q (some (sn_i x)) h) : sn_Wp M pc lv [sn_i x] h Q := sn_q_end (o := (some (sn_i x), h)) hb hd rfl (by unfold sn_do; dsimp only; rw [hr]; rcases hx with rfl | rfl <;> rfl) k
theorem sn_q_lret (hb : sn_bc M = cc) (hd : decode cc pc = .ok (.lreturn, 1)) (hr : sn_rk M = 2) (k : Q (some (sn_l x)) h) : sn_Wp M pc lv [sn_l x] h Q := sn_q_end (o := (some (sn_l x), h)) hb hd rfl (if_pos hr) k
theorem sn_q_dret {a : UInt64} (hb : sn_bc M = cc) (hd : decode cc pc = .ok (.dreturn, 1)) (hr : sn_rk M = 3) (k : Q (some (sn_d a)) h) : sn_Wp M pc lv [sn_d a] h Q := sn_q_end (o := (some (sn_d a), h)) hb hd rfl (if_pos hr) k
theorem sn_q_vret (hb : sn_bc M = cc) (hd : decode cc pc = .ok (.return_, 1)) (hr : sn_rk M = 4) (k : Q none h) : sn_Wp M pc lv [] h Q := sn_q_end (o := (none, h)) hb hd rfl (if_pos hr) k
theorem sn_q_max {o : Nat} (hb : sn_bc M = cc) (hd : decode cc pc = .ok (.invokestatic i, 3)) (ho : sn_oc M = o) (hf : sn_px o i = some 1) (hc : (decide (1 ≤ sn_fr M) && decide (21 ≤ sn_lo M) && decide (st.length ≤ 4)) = true) (k : sn_Wp M (pc + 3) lv (sn_i (if x < y then y else x) :: st) h Q) : sn_Wp M pc lv (sn_i y :: sn_i x :: st) h Q := sn_q_go (d := (pc + 3, lv, sn_i (if x < y then y else x) :: st, h)) hb hd rfl (by unfold sn_do; dsimp only; rw [ho, hf]; exact if_pos hc) k
theorem sn_q_min {o : Nat} (hb : sn_bc M = cc) (hd : decode cc pc = .ok (.invokestatic i, 3)) (ho : sn_oc M = o) (hf : sn_px o i = some 2) (hc : (decide (1 ≤ sn_fr M) && decide (21 ≤ sn_lo M) && decide (st.length ≤ 4)) = true) (k : sn_Wp M (pc + 3) lv (sn_i (if y < x then y else x) :: st) h Q) : sn_Wp M pc lv (sn_i y :: sn_i x :: st) h Q := sn_q_go (d := (pc + 3, lv, sn_i (if y < x then y else x) :: st, h)) hb hd rfl (by unfold sn_do; dsimp only; rw [ho, hf]; exact if_pos hc) k
theorem sn_q_abs {o : Nat} (hb : sn_bc M = cc) (hd : decode cc pc = .ok (.invokestatic i, 3)) (ho : sn_oc M = o) (hf : sn_px o i = some 0) (hc : (decide (1 ≤ sn_fr M) && decide (21 ≤ sn_lo M) && decide (st.length ≤ 4)) = true) (h1 : -2147483648 < x) (h2 : x ≤ 2147483647) (k : sn_Wp M (pc + 3) lv (sn_i (if 0 ≤ x then x else 0 - x) :: st) h Q) : sn_Wp M pc lv (sn_i x :: st) h Q := sn_q_go (d := (pc + 3, lv, sn_i (sn_wr (if 0 ≤ x then x else 0 - x)) :: st, h)) hb hd rfl (by unfold sn_do; dsimp only; rw [ho, hf]; exact if_pos hc) (by rw [sn_wr_id (by split <;> omega) (by split <;> omega)]; exact k)
theorem sn_q_invS {o j a : Nat} {ent : List sn_V} (hb : sn_bc M = cc) (hd : decode cc pc = .ok (.invokestatic i, 3)) (ho : sn_oc M = o) (hx : sn_px o i = none) (hf : sn_ps o i = some (j, a)) (hj : ¬ j = 88) (hc : (decide (sn_fr j + 1 ≤ sn_fr M) && decide (sn_lo j + sn_ml j + 19 ≤ sn_lo M) && decide (a ≤ st.length) && decide ((st.drop a).length ≤ 4) && decide ((sn_lay (st.take a).reverse).length ≤ sn_ml j) && (sn_hl j || (st.take a).all (fun v => !sn_two v))) = true) (he : sn_ent j (st.take a).reverse = ent) {st2 : List sn_V} (hs : st.drop a = st2)
    (k : sn_Wp j 0 ent [] h (sn_bk M (pc + 3) lv st2 Q)) : sn_Wp M pc lv st h Q := by
  subst he; subst hs
  exact sn_q_call (d := (j, (st.take a).reverse, pc + 3, lv, st.drop a, h)) hb hd rfl (by unfold sn_do; dsimp only; rw [ho, hx]; dsimp only; rw [hf]; exact if_pos hc) (if_neg hj) k
theorem sn_q_invV {o j a q : Nat} {ent : List sn_V} (hb : sn_bc M = cc) (hd : decode cc pc = .ok (.invokevirtual i, 3)) (ho : sn_oc M = o) (hf : sn_pv o i = some (j, a)) (hj : ¬ j = 88) {r : List sn_V} (hq : st.drop a = sn_r q :: r) (hq2 : 2 ≤ q) (hq1 : q < h.1) (ht : (h.2.2.1 q).1 = sn_oc j) (hc : (decide (sn_fr j + 1 ≤ sn_fr M) && decide (sn_lo j + sn_ml j + 19 ≤ sn_lo M) && decide (a + 1 ≤ st.length) && decide ((st.drop (a + 1)).length ≤ 4) && decide ((sn_lay (st.take (a + 1)).reverse).length ≤ sn_ml j) && (sn_hl j || (st.take (a + 1)).all (fun v => !sn_two v))) = true) (he : sn_ent j (st.take (a + 1)).reverse = ent) {st2 : List sn_V} (hs : st.drop (a + 1) = st2)
    (k : sn_Wp j 0 ent [] h (sn_bk M (pc + 3) lv st2 Q)) : sn_Wp M pc lv st h Q := by
  subst he; subst hs
  exact sn_q_call (d := (j, (st.take (a + 1)).reverse, pc + 3, lv, st.drop (a + 1), h)) hb hd rfl (by unfold sn_do; dsimp only; rw [ho, hf]; dsimp only; rw [hq]; dsimp only; rw [if_pos (by rw [decide_eq_true hq2, decide_eq_true hq1, decide_eq_true ht]; rfl)]; exact if_pos hc) (if_neg hj) k
theorem sn_q_invC {o j a q : Nat} {ent : List sn_V} (hb : sn_bc M = cc) (hd : decode cc pc = .ok (.invokespecial i, 3)) (ho : sn_oc M = o) (hf : sn_pc o i = some (j, a)) (hj : ¬ j = 88) (hj2 : j < 200) {r : List sn_V} (hq : st.drop a = sn_r q :: r) (hq2 : 2 ≤ q) (hq1 : q < h.1) (hc : (decide (sn_fr j + 1 ≤ sn_fr M) && decide (sn_lo j + sn_ml j + 19 ≤ sn_lo M) && decide (a + 1 ≤ st.length) && decide ((st.drop (a + 1)).length ≤ 4) && decide ((sn_lay (st.take (a + 1)).reverse).length ≤ sn_ml j) && (sn_hl j || (st.take (a + 1)).all (fun v => !sn_two v))) = true) (he : sn_ent j (st.take (a + 1)).reverse = ent) {st2 : List sn_V} (hs : st.drop (a + 1) = st2)
    (k : sn_Wp j 0 ent [] h (sn_bk M (pc + 3) lv st2 Q)) : sn_Wp M pc lv st h Q := by
  subst he; subst hs
  refine sn_q_call (d := (j, (st.take (a + 1)).reverse, pc + 3, lv, st.drop (a + 1), h)) hb hd rfl ?_ (if_neg hj) k
  unfold sn_do
  dsimp only
  rw [ho, hf]
  split
  · rename_i e1
    cases e1
    omega
  · rename_i e1
    cases e1
    rw [hq]
    dsimp only
    rw [if_pos (by rw [decide_eq_true hq2, decide_eq_true hq1]; rfl)]
    exact if_pos hc
  · rename_i e1
    cases e1
theorem sn_q_obj {o a q : Nat} (hb : sn_bc M = cc) (hd : decode cc pc = .ok (.invokespecial i, 3)) (ho : sn_oc M = o) (hf : sn_pc o i = some (200, a)) (hc : (decide (2 ≤ q) && decide (q < h.1) && decide (1 ≤ sn_fr M) && decide (20 ≤ sn_lo M) && decide (st.length ≤ 4)) = true) (k : sn_Wp M (pc + 3) lv st h Q) : sn_Wp M pc lv (sn_r q :: st) h Q := sn_q_go (d := (pc + 3, lv, st, h)) hb hd rfl (by unfold sn_do; dsimp only; rw [ho, hf]; exact if_pos hc) k
end SNV
end
section
/-! ===== the places of the class (by program, wip/p32/lay2.py, out of a run of its constructors) ===== -/
def sn_shp (q : Nat) : Nat × Nat := if q ≤ 2 then (9, 16) else if q ≤ 3 then (3, 6) else if q ≤ 8 then (100, 8) else if q ≤ 9 then (7, 7) else if q ≤ 11 then (101, 8) else if q ≤ 14 then (100, 8) else if q ≤ 15 then (8, 5) else if q ≤ 17 then (100, 8) else if q ≤ 18 then (0, 5) else if q ≤ 19 then (102, 40) else if q ≤ 59 then (100, 8) else if q ≤ 60 then (100, 40) else if q ≤ 61 then (101, 40) else if q ≤ 62 then (100, 8) else if q ≤ 63 then (2, 11) else if q ≤ 64 then (102, 8) else if q ≤ 72 then (100, 8) else if q ≤ 73 then (102, 8) else if q ≤ 81 then (100, 8) else if q ≤ 82 then (102, 8) else if q ≤ 92 then (100, 8) else if q ≤ 93 then (101, 8) else if q ≤ 95 then (100, 8) else if q ≤ 96 then (4, 11) else if q ≤ 97 then (102, 80) else if q ≤ 177 then (100, 8) else if q ≤ 178 then (100, 80) else if q ≤ 179 then (102, 8) else if q ≤ 187 then (100, 8) else if q ≤ 188 then (102, 8) else if q ≤ 196 then (100, 8) else if q ≤ 197 then (102, 8) else if q ≤ 210 then (100, 8) else if q ≤ 211 then (6, 5) else if q ≤ 212 then (5, 9) else if q ≤ 216 then (100, 8) else if q ≤ 217 then (1, 9) else if q ≤ 218 then (102, 8) else if q ≤ 227 then (100, 8) else if q ≤ 230 then (101, 8) else (999, 0)
/-- what lies there: 0, a whole number; 1, null; else that place -/
def sn_rf (q i : Nat) : Nat := match q, i with
  | 2, 0 => 211
  | 2, 1 => 3
  | 2, 2 => 9
  | 2, 3 => 15
  | 2, 4 => 18
  | 2, 5 => 63
  | 2, 6 => 96
  | 2, 7 => 212
  | 2, 8 => 217
  | 3, 1 => 4
  | 3, 2 => 5
  | 3, 3 => 6
  | 3, 4 => 7
  | 3, 5 => 8
  | 9, 2 => 10
  | 9, 3 => 11
  | 9, 4 => 12
  | 9, 5 => 13
  | 9, 6 => 14
  | 15, 0 => 9
  | 15, 1 => 16
  | 15, 2 => 17
  | 18, 0 => 9
  | 18, 1 => 19
  | 18, 2 => 60
  | 18, 3 => 61
  | 18, 4 => 62
  | 19, i => if i < 40 then 20 + i else 1
  | 63, 0 => 3
  | 63, 1 => 9
  | 63, 2 => 18
  | 63, 3 => 64
  | 63, 4 => 73
  | 63, 5 => 82
  | 63, 6 => 91
  | 63, 7 => 92
  | 63, 8 => 93
  | 63, 9 => 94
  | 63, 10 => 95
  | 64, i => if i < 8 then 65 + i else 1
  | 73, i => if i < 8 then 74 + i else 1
  | 82, i => if i < 8 then 83 + i else 1
  | 96, 0 => 9
  | 96, 1 => 97
  | 96, 2 => 178
  | 96, 3 => 179
  | 96, 4 => 188
  | 96, 5 => 197
  | 96, 6 => 206
  | 96, 7 => 207
  | 96, 8 => 208
  | 96, 9 => 209
  | 96, 10 => 210
  | 97, i => if i < 80 then 98 + i else 1
  | 179, i => if i < 8 then 180 + i else 1
  | 188, i => if i < 8 then 189 + i else 1
  | 197, i => if i < 8 then 198 + i else 1
  | 212, 0 => 9
  | 212, 1 => 15
  | 212, 2 => 63
  | 212, 3 => 96
  | 212, 4 => 213
  | 212, 5 => 214
  | 212, 6 => 215
  | 212, 7 => 216
  | 217, 0 => 3
  | 217, 1 => 9
  | 217, 2 => 218
  | 217, 3 => 227
  | 217, 4 => 228
  | 217, 5 => 229
  | 217, 6 => 230
  | 218, i => if i < 8 then 219 + i else 1
  | _, _ => 0
def sn_co (σ : Int → Int → Int) (q i : Nat) : sn_V := if sn_rf q i = 0 then sn_i (σ q i) else if sn_rf q i = 1 then sn_n else sn_r (sn_rf q i)
/-- the heap with the class in it: σ its numbers; Y, X the other places; 229 + n places, k slots -/
def sn_hh (n k : Nat) (Y : Nat → Nat × Nat) (σ : Int → Int → Int) (X : Nat → Nat → sn_V) : sn_H := (231 + n, k, fun q => if 2 ≤ q ∧ q < 231 then sn_shp q else Y q, fun q i => if 2 ≤ q ∧ q < 231 then sn_co σ q i else X q i)
def sn_s (σ : Int → Int → Int) (P J z : Int) : Int → Int → Int := fun a b => if a = P ∧ b = J then z else σ a b
/-- q is a row of whole numbers (of truth values) of that length -/
def sn_ai (q len : Nat) : Prop := (2 ≤ q ∧ q < 231) ∧ sn_shp q = (100, len) ∧ ∀ i, sn_rf q i = 0
def sn_az (q len : Nat) : Prop := (2 ≤ q ∧ q < 231) ∧ sn_shp q = (101, len) ∧ ∀ i, sn_rf q i = 0
def sn_aq (q len b : Nat) : Prop := (2 ≤ q ∧ q < 231) ∧ sn_shp q = (102, len) ∧ ∀ i, i < len → sn_rf q i = b + i ∧ 2 ≤ b
theorem sn_a4 : sn_ai 4 8 := ⟨by decide, rfl, fun _ => rfl⟩
theorem sn_a5 : sn_ai 5 8 := ⟨by decide, rfl, fun _ => rfl⟩
theorem sn_a6 : sn_ai 6 8 := ⟨by decide, rfl, fun _ => rfl⟩
theorem sn_a7 : sn_ai 7 8 := ⟨by decide, rfl, fun _ => rfl⟩
theorem sn_a8 : sn_ai 8 8 := ⟨by decide, rfl, fun _ => rfl⟩
theorem sn_a10 : sn_az 10 8 := ⟨by decide, rfl, fun _ => rfl⟩
theorem sn_a11 : sn_az 11 8 := ⟨by decide, rfl, fun _ => rfl⟩
theorem sn_a12 : sn_ai 12 8 := ⟨by decide, rfl, fun _ => rfl⟩
theorem sn_a13 : sn_ai 13 8 := ⟨by decide, rfl, fun _ => rfl⟩
theorem sn_a14 : sn_ai 14 8 := ⟨by decide, rfl, fun _ => rfl⟩
theorem sn_a16 : sn_ai 16 8 := ⟨by decide, rfl, fun _ => rfl⟩
theorem sn_a17 : sn_ai 17 8 := ⟨by decide, rfl, fun _ => rfl⟩
theorem sn_a19 : sn_aq 19 40 20 := ⟨by decide, rfl, fun i h => ⟨if_pos h, by decide⟩⟩
set_option maxRecDepth 100000 in
theorem sn_b19 {x : Int} (h0 : 0 ≤ x) (h1 : x < 40) : sn_ai (20 + x.toNat) 8 := by
  have hx : x.toNat < 40 := by omega
  generalize x.toNat = y at hx
  refine ⟨by omega, ?_, ?_⟩
  · unfold sn_shp
    repeat (first | rw [if_pos (by omega)] | rw [if_neg (by omega)])
  · intro i
    unfold sn_rf
    split <;> first | rfl | omega
theorem sn_a60 : sn_ai 60 40 := ⟨by decide, rfl, fun _ => rfl⟩
theorem sn_a61 : sn_az 61 40 := ⟨by decide, rfl, fun _ => rfl⟩
theorem sn_a62 : sn_ai 62 8 := ⟨by decide, rfl, fun _ => rfl⟩
theorem sn_a64 : sn_aq 64 8 65 := ⟨by decide, rfl, fun i h => ⟨if_pos h, by decide⟩⟩
set_option maxRecDepth 100000 in
theorem sn_b64 {x : Int} (h0 : 0 ≤ x) (h1 : x < 8) : sn_ai (65 + x.toNat) 8 := by
  have hx : x.toNat < 8 := by omega
  generalize x.toNat = y at hx
  refine ⟨by omega, ?_, ?_⟩
  · unfold sn_shp
    repeat (first | rw [if_pos (by omega)] | rw [if_neg (by omega)])
  · intro i
    unfold sn_rf
    split <;> first | rfl | omega
theorem sn_a73 : sn_aq 73 8 74 := ⟨by decide, rfl, fun i h => ⟨if_pos h, by decide⟩⟩
set_option maxRecDepth 100000 in
theorem sn_b73 {x : Int} (h0 : 0 ≤ x) (h1 : x < 8) : sn_ai (74 + x.toNat) 8 := by
  have hx : x.toNat < 8 := by omega
  generalize x.toNat = y at hx
  refine ⟨by omega, ?_, ?_⟩
  · unfold sn_shp
    repeat (first | rw [if_pos (by omega)] | rw [if_neg (by omega)])
  · intro i
    unfold sn_rf
    split <;> first | rfl | omega
theorem sn_a82 : sn_aq 82 8 83 := ⟨by decide, rfl, fun i h => ⟨if_pos h, by decide⟩⟩
set_option maxRecDepth 100000 in
theorem sn_b82 {x : Int} (h0 : 0 ≤ x) (h1 : x < 8) : sn_ai (83 + x.toNat) 8 := by
  have hx : x.toNat < 8 := by omega
  generalize x.toNat = y at hx
  refine ⟨by omega, ?_, ?_⟩
  · unfold sn_shp
    repeat (first | rw [if_pos (by omega)] | rw [if_neg (by omega)])
  · intro i
    unfold sn_rf
    split <;> first | rfl | omega
theorem sn_a91 : sn_ai 91 8 := ⟨by decide, rfl, fun _ => rfl⟩
theorem sn_a92 : sn_ai 92 8 := ⟨by decide, rfl, fun _ => rfl⟩
theorem sn_a93 : sn_az 93 8 := ⟨by decide, rfl, fun _ => rfl⟩
theorem sn_a94 : sn_ai 94 8 := ⟨by decide, rfl, fun _ => rfl⟩
theorem sn_a95 : sn_ai 95 8 := ⟨by decide, rfl, fun _ => rfl⟩
theorem sn_a97 : sn_aq 97 80 98 := ⟨by decide, rfl, fun i h => ⟨if_pos h, by decide⟩⟩
set_option maxRecDepth 100000 in
theorem sn_b97 {x : Int} (h0 : 0 ≤ x) (h1 : x < 80) : sn_ai (98 + x.toNat) 8 := by
  have hx : x.toNat < 80 := by omega
  generalize x.toNat = y at hx
  refine ⟨by omega, ?_, ?_⟩
  · unfold sn_shp
    repeat (first | rw [if_pos (by omega)] | rw [if_neg (by omega)])
  · intro i
    unfold sn_rf
    split <;> first | rfl | omega
theorem sn_a178 : sn_ai 178 80 := ⟨by decide, rfl, fun _ => rfl⟩
theorem sn_a179 : sn_aq 179 8 180 := ⟨by decide, rfl, fun i h => ⟨if_pos h, by decide⟩⟩
set_option maxRecDepth 100000 in
theorem sn_b179 {x : Int} (h0 : 0 ≤ x) (h1 : x < 8) : sn_ai (180 + x.toNat) 8 := by
  have hx : x.toNat < 8 := by omega
  generalize x.toNat = y at hx
  refine ⟨by omega, ?_, ?_⟩
  · unfold sn_shp
    repeat (first | rw [if_pos (by omega)] | rw [if_neg (by omega)])
  · intro i
    unfold sn_rf
    split <;> first | rfl | omega
theorem sn_a188 : sn_aq 188 8 189 := ⟨by decide, rfl, fun i h => ⟨if_pos h, by decide⟩⟩
set_option maxRecDepth 100000 in
theorem sn_b188 {x : Int} (h0 : 0 ≤ x) (h1 : x < 8) : sn_ai (189 + x.toNat) 8 := by
  have hx : x.toNat < 8 := by omega
  generalize x.toNat = y at hx
  refine ⟨by omega, ?_, ?_⟩
  · unfold sn_shp
    repeat (first | rw [if_pos (by omega)] | rw [if_neg (by omega)])
  · intro i
    unfold sn_rf
    split <;> first | rfl | omega
theorem sn_a197 : sn_aq 197 8 198 := ⟨by decide, rfl, fun i h => ⟨if_pos h, by decide⟩⟩
set_option maxRecDepth 100000 in
theorem sn_b197 {x : Int} (h0 : 0 ≤ x) (h1 : x < 8) : sn_ai (198 + x.toNat) 8 := by
  have hx : x.toNat < 8 := by omega
  generalize x.toNat = y at hx
  refine ⟨by omega, ?_, ?_⟩
  · unfold sn_shp
    repeat (first | rw [if_pos (by omega)] | rw [if_neg (by omega)])
  · intro i
    unfold sn_rf
    split <;> first | rfl | omega
theorem sn_a206 : sn_ai 206 8 := ⟨by decide, rfl, fun _ => rfl⟩
theorem sn_a207 : sn_ai 207 8 := ⟨by decide, rfl, fun _ => rfl⟩
theorem sn_a208 : sn_ai 208 8 := ⟨by decide, rfl, fun _ => rfl⟩
theorem sn_a209 : sn_ai 209 8 := ⟨by decide, rfl, fun _ => rfl⟩
theorem sn_a210 : sn_ai 210 8 := ⟨by decide, rfl, fun _ => rfl⟩
theorem sn_a213 : sn_ai 213 8 := ⟨by decide, rfl, fun _ => rfl⟩
theorem sn_a214 : sn_ai 214 8 := ⟨by decide, rfl, fun _ => rfl⟩
theorem sn_a215 : sn_ai 215 8 := ⟨by decide, rfl, fun _ => rfl⟩
theorem sn_a216 : sn_ai 216 8 := ⟨by decide, rfl, fun _ => rfl⟩
theorem sn_a218 : sn_aq 218 8 219 := ⟨by decide, rfl, fun i h => ⟨if_pos h, by decide⟩⟩
set_option maxRecDepth 100000 in
theorem sn_b218 {x : Int} (h0 : 0 ≤ x) (h1 : x < 8) : sn_ai (219 + x.toNat) 8 := by
  have hx : x.toNat < 8 := by omega
  generalize x.toNat = y at hx
  refine ⟨by omega, ?_, ?_⟩
  · unfold sn_shp
    repeat (first | rw [if_pos (by omega)] | rw [if_neg (by omega)])
  · intro i
    unfold sn_rf
    split <;> first | rfl | omega
theorem sn_a227 : sn_ai 227 8 := ⟨by decide, rfl, fun _ => rfl⟩
theorem sn_a228 : sn_az 228 8 := ⟨by decide, rfl, fun _ => rfl⟩
theorem sn_a229 : sn_az 229 8 := ⟨by decide, rfl, fun _ => rfl⟩
theorem sn_a230 : sn_az 230 8 := ⟨by decide, rfl, fun _ => rfl⟩
section SNHH
variable {M pc i j ci q n k len o : Nat} {cc : ByteArray} {lv st : List sn_V} {Y : Nat → Nat × Nat} {X : Nat → Nat → sn_V} {σ : Int → Int → Int} {Q : Option sn_V → sn_H → Prop} {x z P : Int}
theorem sn_hT (hq : 2 ≤ q ∧ q < 231) : (sn_hh n k Y σ X).2.2.1 q = sn_shp q := if_pos hq
theorem sn_hC (hq : 2 ≤ q ∧ q < 231) (j : Nat) : (sn_hh n k Y σ X).2.2.2 q j = sn_co σ q j := if_pos hq
theorem sn_h1 (hq : 2 ≤ q ∧ q < 231) : q < (sn_hh n k Y σ X).1 := Nat.lt_of_lt_of_le hq.2 (Nat.le_add_right _ _)
theorem sn_co0 (hr : sn_rf q j = 0) : sn_co σ q j = sn_i (σ q j) := if_pos hr
theorem sn_co1 {v : Nat} (hr : sn_rf q j = v) (hv : 2 ≤ v) : sn_co σ q j = sn_r v := by
  unfold sn_co
  rw [hr, if_neg (by omega), if_neg (by omega)]
theorem sn_put (hq : 2 ≤ q ∧ q < 231) (hr : sn_rf q j = 0) (hP : (q : Int) = P) : ((sn_hh n k Y σ X).1, (sn_hh n k Y σ X).2.1, (sn_hh n k Y σ X).2.2.1, sn_w (sn_hh n k Y σ X).2.2.2 q j (sn_i z)) = sn_hh n k Y (sn_s σ P j z) X := by
  subst hP
  refine congrArg (fun f => ((sn_hh n k Y σ X).1, (sn_hh n k Y σ X).2.1, (sn_hh n k Y σ X).2.2.1, f)) (funext fun a => funext fun b => ?_)
  show (if a = q ∧ b = j then sn_i z else (if 2 ≤ a ∧ a < 231 then sn_co σ a b else X a b)) = (if 2 ≤ a ∧ a < 231 then sn_co (sn_s σ q j z) a b else X a b)
  by_cases hab : a = q ∧ b = j
  · obtain ⟨rfl, rfl⟩ := hab
    rw [if_pos ⟨rfl, rfl⟩, if_pos hq, sn_co0 hr]
    unfold sn_s
    rw [if_pos ⟨rfl, rfl⟩]
  · rw [if_neg hab]
    by_cases ha : 2 ≤ a ∧ a < 231
    · rw [if_pos ha, if_pos ha]
      unfold sn_co
      by_cases h0 : sn_rf a b = 0
      · rw [if_pos h0, if_pos h0]
        unfold sn_s
        rw [if_neg (fun h => hab ⟨by omega, by omega⟩)]
      · rw [if_neg h0, if_neg h0]
    · rw [if_neg ha, if_neg ha]
theorem sn_q_geti (hb : sn_bc M = cc) (hd : decode cc pc = .ok (.getfield i, 3)) (ho : sn_oc M = o) (hf : sn_pf o i = some (ci, j)) (hq : 2 ≤ q ∧ q < 231) (hs : (sn_shp q).1 = ci) (hr : sn_rf q j = 0) (hP : (q : Int) = P) {J : Int} (hJ : (j : Int) = J)
    (kk : sn_Wp M (pc + 3) lv (sn_i (σ P J) :: st) (sn_hh n k Y σ X) Q) : sn_Wp M pc lv (sn_r q :: st) (sn_hh n k Y σ X) Q := by
  subst hP; subst hJ
  refine sn_q_go (d := (pc + 3, lv, (sn_hh n k Y σ X).2.2.2 q j :: st, sn_hh n k Y σ X)) hb hd rfl ?_ ?_
  · unfold sn_do
    dsimp only
    rw [ho, hf]
    dsimp only
    rw [if_pos (by rw [decide_eq_true hq.1, decide_eq_true (sn_h1 hq), sn_hT hq, decide_eq_true hs]; rfl)]
  · dsimp only
    rw [sn_hC hq, sn_co0 hr]
    exact kk
theorem sn_q_getr {v : Nat} (hb : sn_bc M = cc) (hd : decode cc pc = .ok (.getfield i, 3)) (ho : sn_oc M = o) (hf : sn_pf o i = some (ci, j)) (hq : 2 ≤ q ∧ q < 231) (hs : (sn_shp q).1 = ci) (hr : sn_rf q j = v) (hv : 2 ≤ v)
    (kk : sn_Wp M (pc + 3) lv (sn_r v :: st) (sn_hh n k Y σ X) Q) : sn_Wp M pc lv (sn_r q :: st) (sn_hh n k Y σ X) Q := by
  refine sn_q_go (d := (pc + 3, lv, (sn_hh n k Y σ X).2.2.2 q j :: st, sn_hh n k Y σ X)) hb hd rfl ?_ ?_
  · unfold sn_do
    dsimp only
    rw [ho, hf]
    dsimp only
    rw [if_pos (by rw [decide_eq_true hq.1, decide_eq_true (sn_h1 hq), sn_hT hq, decide_eq_true hs]; rfl)]
  · dsimp only
    rw [sn_hC hq, sn_co1 hr hv]
    exact kk
theorem sn_q_puti (hb : sn_bc M = cc) (hd : decode cc pc = .ok (.putfield i, 3)) (ho : sn_oc M = o) (hf : sn_pf o i = some (ci, j)) (hq : 2 ≤ q ∧ q < 231) (hs : (sn_shp q).1 = ci) (hr : sn_rf q j = 0) (hP : (q : Int) = P) {J : Int} (hJ : (j : Int) = J) (ht : sn_fits (sn_ft ci j) (sn_i z) = true) (hff : sn_ff ci j = false)
    (kk : sn_Wp M (pc + 3) lv st (sn_hh n k Y (sn_s σ P J z) X) Q) : sn_Wp M pc lv (sn_i z :: sn_r q :: st) (sn_hh n k Y σ X) Q := by
  subst hJ
  refine sn_q_go (d := (pc + 3, lv, st, ((sn_hh n k Y σ X).1, (sn_hh n k Y σ X).2.1, (sn_hh n k Y σ X).2.2.1, sn_w (sn_hh n k Y σ X).2.2.2 q j (sn_i z)))) hb hd rfl ?_ ?_
  · unfold sn_do
    dsimp only
    rw [ho, hf]
    dsimp only
    rw [if_pos (by rw [decide_eq_true hq.1, decide_eq_true (sn_h1 hq), sn_hT hq, decide_eq_true hs, ht, hff]; rfl)]
  · dsimp only
    rw [sn_put hq hr hP]
    exact kk
theorem sn_idx_ok {tag : Nat} (hq : 2 ≤ q ∧ q < 231) (hs : sn_shp q = (tag, len)) (h0 : 0 ≤ x) (h1 : x < len) : sn_idx (sn_hh n k Y σ X) q x tag = true := by
  unfold sn_idx
  rw [sn_hT hq, hs, decide_eq_true (sn_h1 hq), decide_eq_true h0, decide_eq_true h1]
  simp
theorem sn_q_iald (hb : sn_bc M = cc) (hd : decode cc pc = .ok (.iaload, 1)) (ha : sn_ai q len) (hP : (q : Int) = P) (h0 : 0 ≤ x) (h1 : x < len) (kk : sn_Wp M (pc + 1) lv (sn_i (σ P x) :: st) (sn_hh n k Y σ X) Q) : sn_Wp M pc lv (sn_i x :: sn_r q :: st) (sn_hh n k Y σ X) Q := by
  subst hP
  refine sn_q_go (d := (pc + 1, lv, (sn_hh n k Y σ X).2.2.2 q x.toNat :: st, sn_hh n k Y σ X)) hb hd rfl (if_pos (sn_idx_ok ha.1 ha.2.1 h0 h1)) ?_
  dsimp only
  rw [sn_hC ha.1, sn_co0 (ha.2.2 _), Int.toNat_of_nonneg h0]
  exact kk
theorem sn_q_bald (hb : sn_bc M = cc) (hd : decode cc pc = .ok (.baload, 1)) (ha : sn_az q len) (hP : (q : Int) = P) (h0 : 0 ≤ x) (h1 : x < len) (kk : sn_Wp M (pc + 1) lv (sn_i (σ P x) :: st) (sn_hh n k Y σ X) Q) : sn_Wp M pc lv (sn_i x :: sn_r q :: st) (sn_hh n k Y σ X) Q := by
  subst hP
  refine sn_q_go (d := (pc + 1, lv, (sn_hh n k Y σ X).2.2.2 q x.toNat :: st, sn_hh n k Y σ X)) hb hd rfl (if_pos (sn_idx_ok ha.1 ha.2.1 h0 h1)) ?_
  dsimp only
  rw [sn_hC ha.1, sn_co0 (ha.2.2 _), Int.toNat_of_nonneg h0]
  exact kk
theorem sn_q_aald {b : Nat} (hb : sn_bc M = cc) (hd : decode cc pc = .ok (.aaload, 1)) (ha : sn_aq q len b) (h0 : 0 ≤ x) (h1 : x < len) (kk : sn_Wp M (pc + 1) lv (sn_r (b + x.toNat) :: st) (sn_hh n k Y σ X) Q) : sn_Wp M pc lv (sn_i x :: sn_r q :: st) (sn_hh n k Y σ X) Q := by
  have hx : x.toNat < len := by omega
  refine sn_q_go (d := (pc + 1, lv, (sn_hh n k Y σ X).2.2.2 q x.toNat :: st, sn_hh n k Y σ X)) hb hd rfl (if_pos (sn_idx_ok ha.1 ha.2.1 h0 h1)) ?_
  dsimp only
  rw [sn_hC ha.1, sn_co1 (ha.2.2 _ hx).1 (by have := (ha.2.2 _ hx).2; omega)]
  exact kk
theorem sn_q_iast (hb : sn_bc M = cc) (hd : decode cc pc = .ok (.iastore, 1)) (ha : sn_ai q len) (hP : (q : Int) = P) (h0 : 0 ≤ x) (h1 : x < len) (kk : sn_Wp M (pc + 1) lv st (sn_hh n k Y (sn_s σ P x z) X) Q) : sn_Wp M pc lv (sn_i z :: sn_i x :: sn_r q :: st) (sn_hh n k Y σ X) Q := by
  refine sn_q_go (d := (pc + 1, lv, st, ((sn_hh n k Y σ X).1, (sn_hh n k Y σ X).2.1, (sn_hh n k Y σ X).2.2.1, sn_w (sn_hh n k Y σ X).2.2.2 q x.toNat (sn_i z)))) hb hd rfl (if_pos (by rw [sn_idx_ok ha.1 ha.2.1 h0 h1, decide_eq_true ha.1.1]; rfl)) ?_
  dsimp only
  rw [sn_put ha.1 (ha.2.2 _) hP, Int.toNat_of_nonneg h0]
  exact kk
theorem sn_q_bast (hb : sn_bc M = cc) (hd : decode cc pc = .ok (.bastore, 1)) (ha : sn_az q len) (hP : (q : Int) = P) (h0 : 0 ≤ x) (h1 : x < len) (hz : z = 0 ∨ z = 1) (kk : sn_Wp M (pc + 1) lv st (sn_hh n k Y (sn_s σ P x z) X) Q) : sn_Wp M pc lv (sn_i z :: sn_i x :: sn_r q :: st) (sn_hh n k Y σ X) Q := by
  refine sn_q_go (d := (pc + 1, lv, st, ((sn_hh n k Y σ X).1, (sn_hh n k Y σ X).2.1, (sn_hh n k Y σ X).2.2.1, sn_w (sn_hh n k Y σ X).2.2.2 q x.toNat (sn_i z)))) hb hd rfl (if_pos (by rw [sn_idx_ok ha.1 ha.2.1 h0 h1, decide_eq_true ha.1.1]; rcases hz with rfl | rfl <;> rfl)) ?_
  dsimp only
  rw [sn_put ha.1 (ha.2.2 _) hP, Int.toNat_of_nonneg h0]
  exact kk
end SNHH
end
