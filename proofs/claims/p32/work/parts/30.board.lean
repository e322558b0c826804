/-! the board; what is asked -/
def sk_B (σ : Int → Int → Int) : Prop := ∀ l s, 0 ≤ l → l < 8 → 0 ≤ s → s < 8 → 0 ≤ σ (219 + l) s ∧ σ (219 + l) s ≤ 12
def sk_c96 (σ : Int → Int → Int) : Prop := ∀ s, 0 ≤ s → s < 8 → 0 ≤ σ 227 s ∧ σ 227 s ≤ 96
/-- what the board says of a song's juries -/
def sk_jo (σ : Int → Int → Int) (w : Int) : Int := sn_sum (fun l => σ (219 + l) w) 8
theorem sk_jo_bd {σ : Int → Int → Int} {w : Int} (hB : sk_B σ) (h0 : 0 ≤ w) (h8 : w < 8) : 0 ≤ sk_jo σ w ∧ sk_jo σ w ≤ 96 := by
  have := sn_sum_b (f := fun l => σ (219 + l) w) (B := 12) 8 (fun i g => hB i w (by omega) (by omega) h0 h8)
  exact this
theorem sk_juryOf {n k : Nat} {Y : Nat → Nat × Nat} {X : Nat → Nat → sn_V} {σ : Int → Int → Int} {Q : Option sn_V → sn_H → Prop} {w : Int} (h1 : 0 ≤ w) (h2 : w < 8) (hB : sk_B σ) (kk : Q (some (sn_i (sk_jo σ w))) (sn_hh n k Y σ X)) : sn_Wp 79 0 [sn_r 217, sn_i w, sn_u, sn_u] [] (sn_hh n k Y σ X) Q := sp_juryOf h1 h2 (fun l a1 a2 => hB l w a1 a2 h1 h2) kk
set_option maxHeartbeats 1000000 in
theorem sp_Board_clear {n k : Nat} {Y : Nat → Nat × Nat} {X : Nat → Nat → sn_V} {σ : Int → Int → Int} {Q : Option sn_V → sn_H → Prop} (kk : Q none (sn_hh n k Y (fun a b => if 219 ≤ a ∧ a ≤ 230 ∧ 0 ≤ b ∧ b < 8 then 0 else if a = 217 ∧ (b = 7 ∨ b = 8) then 0 else σ a b) X)) : sn_Wp 122 0 [sn_r 217, sn_u] [] (sn_hh n k Y σ X) Q := by
  have loop : ∀ (d : Nat) (i : Nat), i + d = 8 → sn_Wp 122 2 [sn_r 217, sn_i (i : Int)] [] (sn_hh n k Y (fun a b => if 219 ≤ a ∧ a ≤ 230 ∧ 0 ≤ b ∧ b < (i : Int) then 0 else σ a b) X) Q := by
    refine sn_ind (fun d ih => ?_)
    intro i hi
    refine sn_q_iloadn sn_bc_122 dX1_clear_2 rfl ?_
    refine sn_q_bipush sn_bc_122 dX1_clear_3 rfl ?_
    refine sn_q_icge (t := 40) sn_bc_122 dX1_clear_5 rfl (fun c_5 => ?_) (fun c_5 => ?_)
    · refine sn_q_aloadn sn_bc_122 dX1_clear_40 rfl ?_
      refine sn_q_iconst sn_bc_122 dX1_clear_41 rfl ?_
      refine sn_q_puti (P := 217) (J := 7) sn_bc_122 dX1_clear_42 sn_oc_122 sn_pf_1_30 (by decide) rfl rfl rfl rfl rfl rfl ?_
      refine sn_q_aloadn sn_bc_122 dX1_clear_45 rfl ?_
      refine sn_q_iconst sn_bc_122 dX1_clear_46 rfl ?_
      refine sn_q_puti (P := 217) (J := 8) sn_bc_122 dX1_clear_47 sn_oc_122 sn_pf_1_34 (by decide) rfl rfl rfl rfl rfl rfl ?_
      refine sn_q_vret sn_bc_122 dX1_clear_50 rfl ?_
      obtain rfl : i = 8 := by omega
      exact sn_qs (by funext a b; (try simp only [sn_s]); (repeat' split) <;> first | rfl | omega | (congr 1 <;> omega)) kk
    · refine sn_q_aloadn sn_bc_122 dX1_clear_8 rfl ?_
      refine sn_q_iloadn sn_bc_122 dX1_clear_9 rfl ?_
      refine sn_q_invV sn_bc_122 dX1_clear_10 sn_oc_122 sn_pv_1_45 (by decide) rfl (by decide) (sn_h1 (by decide)) rfl rfl rfl rfl (sp_wipe (by omega) (by omega) ?_)
      refine sn_q_aloadn sn_bc_122 dX1_clear_13 rfl ?_
      refine sn_q_getr (v := 228) sn_bc_122 dX1_clear_14 sn_oc_122 sn_pf_1_20 (by decide) rfl rfl (by decide) ?_
      refine sn_q_iloadn sn_bc_122 dX1_clear_17 rfl ?_
      refine sn_q_iconst sn_bc_122 dX1_clear_18 rfl ?_
      refine sn_q_bast (P := 228) sn_bc_122 dX1_clear_19 sn_a228 rfl (by omega) (by omega) (by omega) ?_
      refine sn_q_aloadn sn_bc_122 dX1_clear_20 rfl ?_
      refine sn_q_getr (v := 229) sn_bc_122 dX1_clear_21 sn_oc_122 sn_pf_1_24 (by decide) rfl rfl (by decide) ?_
      refine sn_q_iloadn sn_bc_122 dX1_clear_24 rfl ?_
      refine sn_q_iconst sn_bc_122 dX1_clear_25 rfl ?_
      refine sn_q_bast (P := 229) sn_bc_122 dX1_clear_26 sn_a229 rfl (by omega) (by omega) (by omega) ?_
      refine sn_q_aloadn sn_bc_122 dX1_clear_27 rfl ?_
      refine sn_q_getr (v := 230) sn_bc_122 dX1_clear_28 sn_oc_122 sn_pf_1_27 (by decide) rfl rfl (by decide) ?_
      refine sn_q_iloadn sn_bc_122 dX1_clear_31 rfl ?_
      refine sn_q_iconst sn_bc_122 dX1_clear_32 rfl ?_
      refine sn_q_bast (P := 230) sn_bc_122 dX1_clear_33 sn_a230 rfl (by omega) (by omega) (by omega) ?_
      refine sn_q_inc1 sn_bc_122 dX1_clear_34 rfl (by omega) (by omega) ?_
      refine sn_q_goto (t := 2) sn_bc_122 dX1_clear_37 rfl ?_
      refine sn_sg (σ' := fun a b => if 219 ≤ a ∧ a ≤ 230 ∧ 0 ≤ b ∧ b < ((i + 1 : Nat) : Int) then 0 else σ a b) (by funext a b; (try simp only [sn_s]); (repeat' split) <;> first | rfl | omega | (congr 1 <;> omega)) ?_
      exact ih (d - 1) (by omega) (i + 1) (by omega)
  refine sn_q_iconst sn_bc_122 dX1_clear_0 rfl ?_
  refine sn_q_istn1 sn_bc_122 dX1_clear_1 rfl ?_
  refine sn_sg (σ' := fun a b => if 219 ≤ a ∧ a ≤ 230 ∧ 0 ≤ b ∧ b < ((0 : Nat) : Int) then 0 else σ a b) (by funext a b; (try simp only [sn_s]); (repeat' split) <;> first | rfl | omega | (congr 1 <;> omega)) ?_
  exact loop 8 0 rfl
set_option maxHeartbeats 1000000 in
theorem sp_takeLand {n k : Nat} {Y : Nat → Nat × Nat} {X : Nat → Nat → sn_V} {σ : Int → Int → Int} {Q : Option sn_V → sn_H → Prop} {w : Int} (h1 : 0 ≤ w) (h2 : w < 8) (hp : ∀ s, 0 ≤ s → s < 8 → 0 ≤ σ (83 + w) s ∧ σ (83 + w) s ≤ 12) (hq : ∀ s, 0 ≤ s → s < 8 → 0 ≤ σ (219 + w) s ∧ σ (219 + w) s ≤ 12) (h3 : 0 ≤ σ 217 7) (h4 : σ 217 7 ≤ 100) (kk : Q none (sn_hh n k Y (fun a b => if a = 219 + w ∧ 0 ≤ b ∧ b < 8 then σ (83 + w) b else if a = 228 ∧ b = w then 1 else if a = 217 ∧ b = 7 then σ 217 7 + 1 else if a = 229 ∧ 0 ≤ b ∧ b < 8 then 0 else σ a b) X)) : sn_Wp 103 0 [sn_r 217, sn_i w, sn_r (83 + w.toNat), sn_u] [] (sn_hh n k Y σ X) Q := by
  have loop : ∀ (d : Nat) (i : Nat), i + d = 8 → sn_Wp 103 26 [sn_r 217, sn_i w, sn_r (83 + w.toNat), sn_i (i : Int)] [] (sn_hh n k Y (fun a b => if a = 219 + w ∧ 0 ≤ b ∧ b < 8 then σ (83 + w) b else if a = 228 ∧ b = w then 1 else if a = 217 ∧ b = 7 then σ 217 7 + 1 else if a = 229 ∧ 0 ≤ b ∧ b < (i : Int) then 0 else σ a b) X) Q := by
    refine sn_ind (fun d ih => ?_)
    intro i hi
    refine sn_q_iloadn sn_bc_103 dX1_takeLand_26 rfl ?_
    refine sn_q_bipush sn_bc_103 dX1_takeLand_27 rfl ?_
    refine sn_q_icge (t := 45) sn_bc_103 dX1_takeLand_29 rfl (fun c_29 => ?_) (fun c_29 => ?_)
    · refine sn_q_vret sn_bc_103 dX1_takeLand_45 rfl ?_
      obtain rfl : i = 8 := by omega
      exact kk
    · refine sn_q_aloadn sn_bc_103 dX1_takeLand_32 rfl ?_
      refine sn_q_getr (v := 229) sn_bc_103 dX1_takeLand_33 sn_oc_103 sn_pf_1_24 (by decide) rfl rfl (by decide) ?_
      refine sn_q_iloadn sn_bc_103 dX1_takeLand_36 rfl ?_
      refine sn_q_iconst sn_bc_103 dX1_takeLand_37 rfl ?_
      refine sn_q_bast (P := 229) sn_bc_103 dX1_takeLand_38 sn_a229 rfl (by omega) (by omega) (by omega) ?_
      refine sn_q_inc3 sn_bc_103 dX1_takeLand_39 rfl (by omega) (by omega) ?_
      refine sn_q_goto (t := 26) sn_bc_103 dX1_takeLand_42 rfl ?_
      refine sn_sg (σ' := fun a b => if a = 219 + w ∧ 0 ≤ b ∧ b < 8 then σ (83 + w) b else if a = 228 ∧ b = w then 1 else if a = 217 ∧ b = 7 then σ 217 7 + 1 else if a = 229 ∧ 0 ≤ b ∧ b < ((i + 1 : Nat) : Int) then 0 else σ a b) (by funext a b; (try simp only [sn_s]); (repeat' split) <;> first | rfl | omega | (congr 1 <;> omega)) ?_
      exact ih (d - 1) (by omega) (i + 1) (by omega)
  refine sn_q_aloadn sn_bc_103 dX1_takeLand_0 rfl ?_
  refine sn_q_iloadn sn_bc_103 dX1_takeLand_1 rfl ?_
  refine sn_q_aloadn sn_bc_103 dX1_takeLand_2 rfl ?_
  refine sn_q_invV sn_bc_103 dX1_takeLand_3 sn_oc_103 sn_pv_1_58 (by decide) rfl (by decide) (sn_h1 (by decide)) rfl rfl rfl rfl (sp_put (by omega) (by omega) hp hq ?_)
  refine sn_q_pop sn_bc_103 dX1_takeLand_6 rfl ?_
  refine sn_q_aloadn sn_bc_103 dX1_takeLand_7 rfl ?_
  refine sn_q_getr (v := 228) sn_bc_103 dX1_takeLand_8 sn_oc_103 sn_pf_1_20 (by decide) rfl rfl (by decide) ?_
  refine sn_q_iloadn sn_bc_103 dX1_takeLand_11 rfl ?_
  refine sn_q_iconst sn_bc_103 dX1_takeLand_12 rfl ?_
  refine sn_q_bast (P := 228) sn_bc_103 dX1_takeLand_13 sn_a228 rfl (by omega) (by omega) (by omega) ?_
  refine sn_q_aloadn sn_bc_103 dX1_takeLand_14 rfl ?_
  refine sn_q_dup sn_bc_103 dX1_takeLand_15 rfl ?_
  refine sn_q_geti (P := 217) (J := 7) sn_bc_103 dX1_takeLand_16 sn_oc_103 sn_pf_1_30 (by decide) rfl rfl rfl rfl ?_
  rw [sn_s_p (by omega)]
  rw [if_neg (by omega)]
  refine sn_q_iconst sn_bc_103 dX1_takeLand_19 rfl ?_
  refine sn_q_iadd sn_bc_103 dX1_takeLand_20 (by omega) (by omega) ?_
  refine sn_q_puti (P := 217) (J := 7) sn_bc_103 dX1_takeLand_21 sn_oc_103 sn_pf_1_30 (by decide) rfl rfl rfl rfl rfl rfl ?_
  refine sn_q_iconst sn_bc_103 dX1_takeLand_24 rfl ?_
  refine sn_q_istn3 sn_bc_103 dX1_takeLand_25 rfl ?_
  refine sn_sg (σ' := fun a b => if a = 219 + w ∧ 0 ≤ b ∧ b < 8 then σ (83 + w) b else if a = 228 ∧ b = w then 1 else if a = 217 ∧ b = 7 then σ 217 7 + 1 else if a = 229 ∧ 0 ≤ b ∧ b < ((0 : Nat) : Int) then 0 else σ a b) (by funext a b; (try simp only [sn_s]); (repeat' split) <;> first | rfl | omega | (congr 1 <;> omega)) ?_
  exact loop 8 0 rfl
theorem sp_takeCalls {n k : Nat} {Y : Nat → Nat × Nat} {X : Nat → Nat → sn_V} {σ : Int → Int → Int} {Q : Option sn_V → sn_H → Prop} {w x : Int} (h1 : 0 ≤ w) (h2 : w < 8) (h3 : 0 ≤ σ 217 8) (h4 : σ 217 8 ≤ 100) (kk : Q none (sn_hh n k Y (sn_s (sn_s (sn_s σ (227) (w) (x)) (230) (w) (1)) (217) (8) (σ 217 8 + 1)) X)) : sn_Wp 109 0 [sn_r 217, sn_i w, sn_i x] [] (sn_hh n k Y σ X) Q := by
  refine sn_q_aloadn sn_bc_109 dX1_takeCalls_0 rfl ?_
  refine sn_q_getr (v := 227) sn_bc_109 dX1_takeCalls_1 sn_oc_109 sn_pf_1_16 (by decide) rfl rfl (by decide) ?_
  refine sn_q_iloadn sn_bc_109 dX1_takeCalls_4 rfl ?_
  refine sn_q_iloadn sn_bc_109 dX1_takeCalls_5 rfl ?_
  refine sn_q_iast (P := 227) sn_bc_109 dX1_takeCalls_6 sn_a227 rfl (by omega) (by omega) ?_
  refine sn_q_aloadn sn_bc_109 dX1_takeCalls_7 rfl ?_
  refine sn_q_getr (v := 230) sn_bc_109 dX1_takeCalls_8 sn_oc_109 sn_pf_1_27 (by decide) rfl rfl (by decide) ?_
  refine sn_q_iloadn sn_bc_109 dX1_takeCalls_11 rfl ?_
  refine sn_q_iconst sn_bc_109 dX1_takeCalls_12 rfl ?_
  refine sn_q_bast (P := 230) sn_bc_109 dX1_takeCalls_13 sn_a230 rfl (by omega) (by omega) (by omega) ?_
  refine sn_q_aloadn sn_bc_109 dX1_takeCalls_14 rfl ?_
  refine sn_q_dup sn_bc_109 dX1_takeCalls_15 rfl ?_
  refine sn_q_geti (P := 217) (J := 8) sn_bc_109 dX1_takeCalls_16 sn_oc_109 sn_pf_1_34 (by decide) rfl rfl rfl rfl ?_
  rw [sn_s_p (by omega), sn_s_p (by omega)]
  refine sn_q_iconst sn_bc_109 dX1_takeCalls_19 rfl ?_
  refine sn_q_iadd sn_bc_109 dX1_takeCalls_20 (by omega) (by omega) ?_
  refine sn_q_puti (P := 217) (J := 8) sn_bc_109 dX1_takeCalls_21 sn_oc_109 sn_pf_1_34 (by decide) rfl rfl rfl rfl rfl rfl ?_
  refine sn_q_vret sn_bc_109 dX1_takeCalls_24 rfl ?_
  exact kk
theorem sp_nextSong {n k : Nat} {Y : Nat → Nat × Nat} {X : Nat → Nat → sn_V} {σ : Int → Int → Int} {Q : Option sn_V → sn_H → Prop} (hB : sk_B σ) (kk : ∀ r : Int, ((r = -1 ∧ ∀ s, 0 ≤ s → s < 8 → sn_run σ s → σ 230 s ≠ 0) ∨ (0 ≤ r ∧ r < 8 ∧ sn_run σ r ∧ σ 230 r = 0)) → Q (some (sn_i r)) (sn_hh n k Y σ X)) : sn_Wp 108 0 [sn_r 217, sn_u, sn_u, sn_u, sn_u] [] (sn_hh n k Y σ X) Q := by
  have loop : ∀ (d : Nat) (i : Nat) (b l : Int) (u : sn_V), i + d = 8 → ((b = -1 ∧ ∀ s, 0 ≤ s → s < (i : Int) → sn_run σ s → σ 230 s ≠ 0) ∨ (0 ≤ b ∧ b < 8 ∧ sn_run σ b ∧ σ 230 b = 0)) → sn_Wp 108 6 [sn_r 217, sn_i b, sn_i l, sn_i (i : Int), u] [] (sn_hh n k Y σ X) Q := by
    refine sn_ind (fun d ih => ?_)
    intro i b l u hi hb
    refine sn_q_iloadn sn_bc_108 dX1_nextSong_6 rfl ?_
    refine sn_q_bipush sn_bc_108 dX1_nextSong_7 rfl ?_
    refine sn_q_icge (t := 61) sn_bc_108 dX1_nextSong_9 rfl (fun c_9 => ?_) (fun c_9 => ?_)
    · refine sn_q_iloadn sn_bc_108 dX1_nextSong_61 rfl ?_
      refine sn_q_iret sn_bc_108 dX1_nextSong_62 rfl ?_
      refine kk _ ?_
      rcases hb with ⟨h1, h2⟩ | h
      · exact Or.inl ⟨h1, fun s a1 a2 => h2 s a1 (by omega)⟩
      · exact Or.inr h
    · refine sn_q_aloadn sn_bc_108 dX1_nextSong_12 rfl ?_
      refine sn_q_getr (v := 9) sn_bc_108 dX1_nextSong_13 sn_oc_108 sn_pf_1_41 (by decide) rfl rfl (by decide) ?_
      refine sn_q_iloadn sn_bc_108 dX1_nextSong_16 rfl ?_
      refine sn_q_invV sn_bc_108 dX1_nextSong_17 sn_oc_108 sn_pv_1_68 (by decide) rfl (by decide) (sn_h1 (by decide)) rfl rfl rfl rfl (sp_isRunning (by omega) (by omega) (fun w1 w2 => ?_) (fun w => ?_))
      · refine sn_q_ifeq (t := 55) sn_bc_108 dX1_nextSong_20 rfl (fun c => absurd c (by decide)) (fun _ => ?_)
        refine sn_q_aloadn sn_bc_108 dX1_nextSong_23 rfl ?_
        refine sn_q_getr (v := 230) sn_bc_108 dX1_nextSong_24 sn_oc_108 sn_pf_1_27 (by decide) rfl rfl (by decide) ?_
        refine sn_q_iloadn sn_bc_108 dX1_nextSong_27 rfl ?_
        refine sn_q_bald (P := 230) sn_bc_108 dX1_nextSong_28 sn_a230 rfl (by omega) (by omega) ?_
        refine sn_q_ifne (t := 55) sn_bc_108 dX1_nextSong_29 rfl (fun c_29 => ?_) (fun c_29 => ?_)
        · refine sn_q_inc3 sn_bc_108 dX1_nextSong_55 rfl (by omega) (by omega) ?_
          refine sn_q_goto (t := 6) sn_bc_108 dX1_nextSong_58 rfl ?_
          first
            | exact ih (d - 1) (by omega) (i + 1) _ _ _ (by omega) (Or.inr ⟨by omega, by omega, ⟨w1, w2⟩, by omega⟩)
            | (refine ih (d - 1) (by omega) (i + 1) _ _ _ (by omega) ?_
               rcases hb with ⟨h1, h2⟩ | h
               · refine Or.inl ⟨h1, fun s a1 a2 a3 => ?_⟩
                 by_cases e : s = (i : Int)
                 · first
                     | (rw [e] at a3 ⊢; exact absurd a3 w)
                     | (rw [e]; omega)
                 · exact h2 s a1 (by omega) a3
               · exact Or.inr h)
        · refine sn_q_aloadn sn_bc_108 dX1_nextSong_32 rfl ?_
          refine sn_q_iloadn sn_bc_108 dX1_nextSong_33 rfl ?_
          refine sn_q_invV sn_bc_108 dX1_nextSong_34 sn_oc_108 sn_pv_1_73 (by decide) rfl (by decide) (sn_h1 (by decide)) rfl rfl rfl rfl (sk_juryOf (by omega) (by omega) hB ?_)
          refine sn_q_ist4 sn_bc_108 dX1_nextSong_37 rfl ?_
          refine sn_q_iloadn sn_bc_108 dX1_nextSong_39 rfl ?_
          refine sn_q_iconst sn_bc_108 dX1_nextSong_40 rfl ?_
          refine sn_q_iceq (t := 50) sn_bc_108 dX1_nextSong_41 rfl (fun c_41 => ?_) (fun c_41 => ?_)
          · refine sn_q_iloadn sn_bc_108 dX1_nextSong_50 rfl ?_
            refine sn_q_istn1 sn_bc_108 dX1_nextSong_51 rfl ?_
            refine sn_q_iload sn_bc_108 dX1_nextSong_52 rfl ?_
            refine sn_q_istn2 sn_bc_108 dX1_nextSong_54 rfl ?_
            refine sn_q_inc3 sn_bc_108 dX1_nextSong_55 rfl (by omega) (by omega) ?_
            refine sn_q_goto (t := 6) sn_bc_108 dX1_nextSong_58 rfl ?_
            first
              | exact ih (d - 1) (by omega) (i + 1) _ _ _ (by omega) (Or.inr ⟨by omega, by omega, ⟨w1, w2⟩, by omega⟩)
              | (refine ih (d - 1) (by omega) (i + 1) _ _ _ (by omega) ?_
                 rcases hb with ⟨h1, h2⟩ | h
                 · refine Or.inl ⟨h1, fun s a1 a2 a3 => ?_⟩
                   by_cases e : s = (i : Int)
                   · first
                       | (rw [e] at a3 ⊢; exact absurd a3 w)
                       | (rw [e]; omega)
                   · exact h2 s a1 (by omega) a3
                 · exact Or.inr h)
          · refine sn_q_iload sn_bc_108 dX1_nextSong_44 rfl ?_
            refine sn_q_iloadn sn_bc_108 dX1_nextSong_46 rfl ?_
            refine sn_q_icgt (t := 55) sn_bc_108 dX1_nextSong_47 rfl (fun c_47 => ?_) (fun c_47 => ?_)
            · refine sn_q_inc3 sn_bc_108 dX1_nextSong_55 rfl (by omega) (by omega) ?_
              refine sn_q_goto (t := 6) sn_bc_108 dX1_nextSong_58 rfl ?_
              first
                | exact ih (d - 1) (by omega) (i + 1) _ _ _ (by omega) (Or.inr ⟨by omega, by omega, ⟨w1, w2⟩, by omega⟩)
                | (refine ih (d - 1) (by omega) (i + 1) _ _ _ (by omega) ?_
                   rcases hb with ⟨h1, h2⟩ | h
                   · refine Or.inl ⟨h1, fun s a1 a2 a3 => ?_⟩
                     by_cases e : s = (i : Int)
                     · first
                         | (rw [e] at a3 ⊢; exact absurd a3 w)
                         | (rw [e]; omega)
                     · exact h2 s a1 (by omega) a3
                   · exact Or.inr h)
            · refine sn_q_iloadn sn_bc_108 dX1_nextSong_50 rfl ?_
              refine sn_q_istn1 sn_bc_108 dX1_nextSong_51 rfl ?_
              refine sn_q_iload sn_bc_108 dX1_nextSong_52 rfl ?_
              refine sn_q_istn2 sn_bc_108 dX1_nextSong_54 rfl ?_
              refine sn_q_inc3 sn_bc_108 dX1_nextSong_55 rfl (by omega) (by omega) ?_
              refine sn_q_goto (t := 6) sn_bc_108 dX1_nextSong_58 rfl ?_
              first
                | exact ih (d - 1) (by omega) (i + 1) _ _ _ (by omega) (Or.inr ⟨by omega, by omega, ⟨w1, w2⟩, by omega⟩)
                | (refine ih (d - 1) (by omega) (i + 1) _ _ _ (by omega) ?_
                   rcases hb with ⟨h1, h2⟩ | h
                   · refine Or.inl ⟨h1, fun s a1 a2 a3 => ?_⟩
                     by_cases e : s = (i : Int)
                     · first
                         | (rw [e] at a3 ⊢; exact absurd a3 w)
                         | (rw [e]; omega)
                     · exact h2 s a1 (by omega) a3
                   · exact Or.inr h)
      · refine sn_q_ifeq (t := 55) sn_bc_108 dX1_nextSong_20 rfl (fun _ => ?_) (fun c => absurd (by decide) c)
        refine sn_q_inc3 sn_bc_108 dX1_nextSong_55 rfl (by omega) (by omega) ?_
        refine sn_q_goto (t := 6) sn_bc_108 dX1_nextSong_58 rfl ?_
        first
          | exact ih (d - 1) (by omega) (i + 1) _ _ _ (by omega) (Or.inr ⟨by omega, by omega, ⟨w1, w2⟩, by omega⟩)
          | (refine ih (d - 1) (by omega) (i + 1) _ _ _ (by omega) ?_
             rcases hb with ⟨h1, h2⟩ | h
             · refine Or.inl ⟨h1, fun s a1 a2 a3 => ?_⟩
               by_cases e : s = (i : Int)
               · first
                   | (rw [e] at a3 ⊢; exact absurd a3 w)
                   | (rw [e]; omega)
               · exact h2 s a1 (by omega) a3
             · exact Or.inr h)
  refine sn_q_iconst sn_bc_108 dX1_nextSong_0 rfl ?_
  refine sn_q_istn1 sn_bc_108 dX1_nextSong_1 rfl ?_
  refine sn_q_iconst sn_bc_108 dX1_nextSong_2 rfl ?_
  refine sn_q_istn2 sn_bc_108 dX1_nextSong_3 rfl ?_
  refine sn_q_iconst sn_bc_108 dX1_nextSong_4 rfl ?_
  refine sn_q_istn3 sn_bc_108 dX1_nextSong_5 rfl ?_
  exact loop 8 0 _ _ _ rfl (Or.inl ⟨rfl, fun s a1 a2 => by omega⟩)
theorem sp_leadWith {n k : Nat} {Y : Nat → Nat × Nat} {X : Nat → Nat → sn_V} {σ : Int → Int → Int} {Q : Option sn_V → sn_H → Prop} {w : Int} (h1 : 0 ≤ w) (h2 : w < 8) (hB : sk_B σ) (hc : sk_c96 σ) (hp : ∀ s, 0 ≤ s → s < 8 → 0 ≤ σ (83 + w) s ∧ σ (83 + w) s ≤ 12) (kk : ∀ r : Int, Q (some (sn_i r)) (sn_hh n k Y σ X)) : sn_Wp 101 0 [sn_r 217, sn_r (83 + w.toNat), sn_u, sn_u, sn_u, sn_u] [] (sn_hh n k Y σ X) Q := by
  have loop : ∀ (d : Nat) (i : Nat) (f s : Int) (u : sn_V), i + d = 8 → 0 ≤ f → f ≤ 300 → 0 ≤ s → s ≤ 300 → sn_Wp 101 7 [sn_r 217, sn_r (83 + w.toNat), sn_i f, sn_i s, sn_i (i : Int), u] [] (sn_hh n k Y σ X) Q := by
    refine sn_ind (fun d ih => ?_)
    intro i f s u hi f1 f2 s1 s2
    refine sn_q_iload sn_bc_101 dX1_leadWith_7 rfl ?_
    refine sn_q_bipush sn_bc_101 dX1_leadWith_9 rfl ?_
    refine sn_q_icge (t := 80) sn_bc_101 dX1_leadWith_11 rfl (fun c_11 => ?_) (fun c_11 => ?_)
    · refine sn_q_iloadn sn_bc_101 dX1_leadWith_80 rfl ?_
      refine sn_q_iloadn sn_bc_101 dX1_leadWith_81 rfl ?_
      refine sn_q_isub sn_bc_101 dX1_leadWith_82 (by omega) (by omega) ?_
      refine sn_q_iret sn_bc_101 dX1_leadWith_83 rfl ?_
      exact kk _
    · refine sn_q_aloadn sn_bc_101 dX1_leadWith_14 rfl ?_
      refine sn_q_getr (v := 9) sn_bc_101 dX1_leadWith_15 sn_oc_101 sn_pf_1_41 (by decide) rfl rfl (by decide) ?_
      refine sn_q_iload sn_bc_101 dX1_leadWith_18 rfl ?_
      refine sn_q_invV sn_bc_101 dX1_leadWith_20 sn_oc_101 sn_pv_1_68 (by decide) rfl (by decide) (sn_h1 (by decide)) rfl rfl rfl rfl (sp_isRunning (by omega) (by omega) (fun w1 w2 => ?_) (fun w => ?_))
      · refine sn_q_ifeq (t := 48) sn_bc_101 dX1_leadWith_23 rfl (fun c => absurd c (by decide)) (fun _ => ?_)
        have hj := sk_jo_bd (w := (i : Int)) hB (by omega) (by omega)
        have hcx := hc (i : Int) (by omega) (by omega)
        have hpx := hp (i : Int) (by omega) (by omega)
        refine sn_q_aloadn sn_bc_101 dX1_leadWith_26 rfl ?_
        refine sn_q_iload sn_bc_101 dX1_leadWith_27 rfl ?_
        refine sn_q_invV sn_bc_101 dX1_leadWith_29 sn_oc_101 sn_pv_1_73 (by decide) rfl (by decide) (sn_h1 (by decide)) rfl rfl rfl rfl (sk_juryOf (by omega) (by omega) hB ?_)
        refine sn_q_aloadn sn_bc_101 dX1_leadWith_32 rfl ?_
        refine sn_q_getr (v := 227) sn_bc_101 dX1_leadWith_33 sn_oc_101 sn_pf_1_16 (by decide) rfl rfl (by decide) ?_
        refine sn_q_iload sn_bc_101 dX1_leadWith_36 rfl ?_
        refine sn_q_iald (P := 227) sn_bc_101 dX1_leadWith_38 sn_a227 rfl (by omega) (by omega) ?_
        refine sn_q_iadd sn_bc_101 dX1_leadWith_39 (by omega) (by omega) ?_
        refine sn_q_aloadn sn_bc_101 dX1_leadWith_40 rfl ?_
        refine sn_q_iload sn_bc_101 dX1_leadWith_41 rfl ?_
        refine sn_q_iald sn_bc_101 dX1_leadWith_43 (sn_b82 h1 h2) (sn_p82 h1) (by omega) (by omega) ?_
        refine sn_q_iadd sn_bc_101 dX1_leadWith_44 (by omega) (by omega) ?_
        refine sn_q_goto (t := 49) sn_bc_101 dX1_leadWith_45 rfl ?_
        refine sn_q_ist5 sn_bc_101 dX1_leadWith_49 rfl ?_
        refine sn_q_iload sn_bc_101 dX1_leadWith_51 rfl ?_
        refine sn_q_iloadn sn_bc_101 dX1_leadWith_53 rfl ?_
        refine sn_q_icle (t := 65) sn_bc_101 dX1_leadWith_54 rfl (fun c_54 => ?_) (fun c_54 => ?_)
        · refine sn_q_iload sn_bc_101 dX1_leadWith_65 rfl ?_
          refine sn_q_iloadn sn_bc_101 dX1_leadWith_67 rfl ?_
          refine sn_q_icle (t := 74) sn_bc_101 dX1_leadWith_68 rfl (fun c_68 => ?_) (fun c_68 => ?_)
          · refine sn_q_inc4 sn_bc_101 dX1_leadWith_74 rfl (by omega) (by omega) ?_
            refine sn_q_goto (t := 7) sn_bc_101 dX1_leadWith_77 rfl ?_
            exact ih (d - 1) (by omega) (i + 1) _ _ _ (by omega) (by omega) (by omega) (by omega) (by omega)
          · refine sn_q_iload sn_bc_101 dX1_leadWith_71 rfl ?_
            refine sn_q_istn3 sn_bc_101 dX1_leadWith_73 rfl ?_
            refine sn_q_inc4 sn_bc_101 dX1_leadWith_74 rfl (by omega) (by omega) ?_
            refine sn_q_goto (t := 7) sn_bc_101 dX1_leadWith_77 rfl ?_
            exact ih (d - 1) (by omega) (i + 1) _ _ _ (by omega) (by omega) (by omega) (by omega) (by omega)
        · refine sn_q_iloadn sn_bc_101 dX1_leadWith_57 rfl ?_
          refine sn_q_istn3 sn_bc_101 dX1_leadWith_58 rfl ?_
          refine sn_q_iload sn_bc_101 dX1_leadWith_59 rfl ?_
          refine sn_q_istn2 sn_bc_101 dX1_leadWith_61 rfl ?_
          refine sn_q_goto (t := 74) sn_bc_101 dX1_leadWith_62 rfl ?_
          refine sn_q_inc4 sn_bc_101 dX1_leadWith_74 rfl (by omega) (by omega) ?_
          refine sn_q_goto (t := 7) sn_bc_101 dX1_leadWith_77 rfl ?_
          exact ih (d - 1) (by omega) (i + 1) _ _ _ (by omega) (by omega) (by omega) (by omega) (by omega)
      · refine sn_q_ifeq (t := 48) sn_bc_101 dX1_leadWith_23 rfl (fun _ => ?_) (fun c => absurd (by decide) c)
        refine sn_q_iconst sn_bc_101 dX1_leadWith_48 rfl ?_
        refine sn_q_ist5 sn_bc_101 dX1_leadWith_49 rfl ?_
        refine sn_q_iload sn_bc_101 dX1_leadWith_51 rfl ?_
        refine sn_q_iloadn sn_bc_101 dX1_leadWith_53 rfl ?_
        refine sn_q_icle (t := 65) sn_bc_101 dX1_leadWith_54 rfl (fun c_54 => ?_) (fun c_54 => ?_)
        · refine sn_q_iload sn_bc_101 dX1_leadWith_65 rfl ?_
          refine sn_q_iloadn sn_bc_101 dX1_leadWith_67 rfl ?_
          refine sn_q_icle (t := 74) sn_bc_101 dX1_leadWith_68 rfl (fun c_68 => ?_) (fun c_68 => ?_)
          · refine sn_q_inc4 sn_bc_101 dX1_leadWith_74 rfl (by omega) (by omega) ?_
            refine sn_q_goto (t := 7) sn_bc_101 dX1_leadWith_77 rfl ?_
            exact ih (d - 1) (by omega) (i + 1) _ _ _ (by omega) (by omega) (by omega) (by omega) (by omega)
          · refine sn_q_iload sn_bc_101 dX1_leadWith_71 rfl ?_
            refine sn_q_istn3 sn_bc_101 dX1_leadWith_73 rfl ?_
            refine sn_q_inc4 sn_bc_101 dX1_leadWith_74 rfl (by omega) (by omega) ?_
            refine sn_q_goto (t := 7) sn_bc_101 dX1_leadWith_77 rfl ?_
            exact ih (d - 1) (by omega) (i + 1) _ _ _ (by omega) (by omega) (by omega) (by omega) (by omega)
        · refine sn_q_iloadn sn_bc_101 dX1_leadWith_57 rfl ?_
          refine sn_q_istn3 sn_bc_101 dX1_leadWith_58 rfl ?_
          refine sn_q_iload sn_bc_101 dX1_leadWith_59 rfl ?_
          refine sn_q_istn2 sn_bc_101 dX1_leadWith_61 rfl ?_
          refine sn_q_goto (t := 74) sn_bc_101 dX1_leadWith_62 rfl ?_
          refine sn_q_inc4 sn_bc_101 dX1_leadWith_74 rfl (by omega) (by omega) ?_
          refine sn_q_goto (t := 7) sn_bc_101 dX1_leadWith_77 rfl ?_
          exact ih (d - 1) (by omega) (i + 1) _ _ _ (by omega) (by omega) (by omega) (by omega) (by omega)
  refine sn_q_iconst sn_bc_101 dX1_leadWith_0 rfl ?_
  refine sn_q_istn2 sn_bc_101 dX1_leadWith_1 rfl ?_
  refine sn_q_iconst sn_bc_101 dX1_leadWith_2 rfl ?_
  refine sn_q_istn3 sn_bc_101 dX1_leadWith_3 rfl ?_
  refine sn_q_iconst sn_bc_101 dX1_leadWith_4 rfl ?_
  refine sn_q_ist4 sn_bc_101 dX1_leadWith_5 rfl ?_
  exact loop 8 0 _ _ _ rfl (by omega) (by omega) (by omega) (by omega)
theorem sp_closestLand {n k : Nat} {Y : Nat → Nat × Nat} {X : Nat → Nat → sn_V} {σ : Int → Int → Int} {Q : Option sn_V → sn_H → Prop} (h30 : 0 ≤ σ 3 0) (h38 : σ 3 0 ≤ 8) (hB : sk_B σ) (hc : sk_c96 σ) (hb : sn_b12 σ) (kk : ∀ r : Int, ((r = -1 ∧ (σ 2 10 ≠ 2 ∨ ∀ l, 0 ≤ l → l < σ 3 0 → ¬ (σ 228 l = 0 ∧ σ 229 l = 0))) ∨ (0 ≤ r ∧ r < σ 3 0 ∧ σ 228 r = 0 ∧ σ 229 r = 0)) → Q (some (sn_i r)) (sn_hh n k Y σ X)) : sn_Wp 99 0 [sn_r 2, sn_u, sn_u, sn_u, sn_u] [] (sn_hh n k Y σ X) Q := by
  have loop : ∀ (d : Nat) (i : Nat) (b l : Int) (u : sn_V), i + d = 8 → ((b = -1 ∧ ∀ s, 0 ≤ s → s < (i : Int) → ¬ (σ 228 s = 0 ∧ σ 229 s = 0)) ∨ (0 ≤ b ∧ b < σ 3 0 ∧ σ 228 b = 0 ∧ σ 229 b = 0)) → sn_Wp 99 6 [sn_r 2, sn_i b, sn_i l, sn_i (i : Int), u] [] (sn_hh n k Y σ X) Q := by
    refine sn_ind (fun d ih => ?_)
    intro i b l u hi hbb
    refine sn_q_aloadn sn_bc_99 dX9_closestLand_6 rfl ?_
    refine sn_q_geti (P := 2) (J := 10) sn_bc_99 dX9_closestLand_7 sn_oc_99 sn_pf_9_84 (by decide) rfl rfl rfl rfl ?_
    refine sn_q_iconst sn_bc_99 dX9_closestLand_10 rfl ?_
    refine sn_q_icne (t := 76) sn_bc_99 dX9_closestLand_11 rfl (fun c_11 => ?_) (fun c_11 => ?_)
    · refine sn_q_iloadn sn_bc_99 dX9_closestLand_76 rfl ?_
      refine sn_q_iret sn_bc_99 dX9_closestLand_77 rfl ?_
      refine kk _ ?_
      rcases hbb with ⟨h1, h2⟩ | h
      · refine Or.inl ⟨h1, ?_⟩
        first
          | exact Or.inl (by omega)
          | exact Or.inr (fun s a1 a2 => h2 s a1 (by omega))
      · exact Or.inr h
    · refine sn_q_iloadn sn_bc_99 dX9_closestLand_14 rfl ?_
      refine sn_q_aloadn sn_bc_99 dX9_closestLand_15 rfl ?_
      refine sn_q_getr (v := 3) sn_bc_99 dX9_closestLand_16 sn_oc_99 sn_pf_9_38 (by decide) rfl rfl (by decide) ?_
      refine sn_q_geti (P := 3) (J := 0) sn_bc_99 dX9_closestLand_19 sn_oc_99 sn_pf_9_118 (by decide) rfl rfl rfl rfl ?_
      refine sn_q_icge (t := 76) sn_bc_99 dX9_closestLand_22 rfl (fun c_22 => ?_) (fun c_22 => ?_)
      · refine sn_q_iloadn sn_bc_99 dX9_closestLand_76 rfl ?_
        refine sn_q_iret sn_bc_99 dX9_closestLand_77 rfl ?_
        refine kk _ ?_
        rcases hbb with ⟨h1, h2⟩ | h
        · refine Or.inl ⟨h1, ?_⟩
          first
            | exact Or.inl (by omega)
            | exact Or.inr (fun s a1 a2 => h2 s a1 (by omega))
        · exact Or.inr h
      · refine sn_q_aloadn sn_bc_99 dX9_closestLand_25 rfl ?_
        refine sn_q_getr (v := 217) sn_bc_99 dX9_closestLand_26 sn_oc_99 sn_pf_9_76 (by decide) rfl rfl (by decide) ?_
        refine sn_q_iloadn sn_bc_99 dX9_closestLand_29 rfl ?_
        refine sn_q_invV sn_bc_99 dX9_closestLand_30 sn_oc_99 sn_pv_9_271 (by decide) rfl (by decide) (sn_h1 (by decide)) rfl rfl rfl rfl (sp_canRead (by omega) (by omega) (fun w1 w2 => ?_) (fun w => ?_))
        · refine sn_q_ifeq (t := 70) sn_bc_99 dX9_closestLand_33 rfl (fun c => absurd c (by decide)) (fun _ => ?_)
          refine sn_q_aloadn sn_bc_99 dX9_closestLand_36 rfl ?_
          refine sn_q_getr (v := 217) sn_bc_99 dX9_closestLand_37 sn_oc_99 sn_pf_9_76 (by decide) rfl rfl (by decide) ?_
          refine sn_q_aloadn sn_bc_99 dX9_closestLand_40 rfl ?_
          refine sn_q_getr (v := 63) sn_bc_99 dX9_closestLand_41 sn_oc_99 sn_pf_9_54 (by decide) rfl rfl (by decide) ?_
          refine sn_q_getr (v := 82) sn_bc_99 dX9_closestLand_44 sn_oc_99 sn_pf_9_277 (by decide) rfl rfl (by decide) ?_
          refine sn_q_iloadn sn_bc_99 dX9_closestLand_47 rfl ?_
          refine sn_q_aald sn_bc_99 dX9_closestLand_48 sn_a82 (by omega) (by omega) ?_
          refine sn_q_invV sn_bc_99 dX9_closestLand_49 sn_oc_99 sn_pv_9_435 (by decide) rfl (by decide) (sn_h1 (by decide)) rfl rfl rfl rfl (sp_leadWith (by omega) (by omega) hB hc (fun s a1 a2 => (hb (i : Int) s (by omega) (by omega) a1 a2).1) (fun r => ?_))
          refine sn_q_ist4 sn_bc_99 dX9_closestLand_52 rfl ?_
          refine sn_q_iloadn sn_bc_99 dX9_closestLand_54 rfl ?_
          refine sn_q_iconst sn_bc_99 dX9_closestLand_55 rfl ?_
          refine sn_q_iceq (t := 65) sn_bc_99 dX9_closestLand_56 rfl (fun c_56 => ?_) (fun c_56 => ?_)
          · refine sn_q_iloadn sn_bc_99 dX9_closestLand_65 rfl ?_
            refine sn_q_istn1 sn_bc_99 dX9_closestLand_66 rfl ?_
            refine sn_q_iload sn_bc_99 dX9_closestLand_67 rfl ?_
            refine sn_q_istn2 sn_bc_99 dX9_closestLand_69 rfl ?_
            refine sn_q_inc3 sn_bc_99 dX9_closestLand_70 rfl (by omega) (by omega) ?_
            refine sn_q_goto (t := 6) sn_bc_99 dX9_closestLand_73 rfl ?_
            first
              | exact ih (d - 1) (by omega) (i + 1) _ _ _ (by omega) (Or.inr ⟨by omega, by omega, w1, w2⟩)
              | (refine ih (d - 1) (by omega) (i + 1) _ _ _ (by omega) ?_
                 rcases hbb with ⟨h1, h2⟩ | h
                 · refine Or.inl ⟨h1, fun s a1 a2 => ?_⟩
                   by_cases e : s = (i : Int)
                   · first
                       | (rw [e]; exact w)
                       | (exfalso; omega)
                   · exact h2 s a1 (by omega)
                 · exact Or.inr h)
          · refine sn_q_iload sn_bc_99 dX9_closestLand_59 rfl ?_
            refine sn_q_iloadn sn_bc_99 dX9_closestLand_61 rfl ?_
            refine sn_q_icge (t := 70) sn_bc_99 dX9_closestLand_62 rfl (fun c_62 => ?_) (fun c_62 => ?_)
            · refine sn_q_inc3 sn_bc_99 dX9_closestLand_70 rfl (by omega) (by omega) ?_
              refine sn_q_goto (t := 6) sn_bc_99 dX9_closestLand_73 rfl ?_
              first
                | exact ih (d - 1) (by omega) (i + 1) _ _ _ (by omega) (Or.inr ⟨by omega, by omega, w1, w2⟩)
                | (refine ih (d - 1) (by omega) (i + 1) _ _ _ (by omega) ?_
                   rcases hbb with ⟨h1, h2⟩ | h
                   · refine Or.inl ⟨h1, fun s a1 a2 => ?_⟩
                     by_cases e : s = (i : Int)
                     · first
                         | (rw [e]; exact w)
                         | (exfalso; omega)
                     · exact h2 s a1 (by omega)
                   · exact Or.inr h)
            · refine sn_q_iloadn sn_bc_99 dX9_closestLand_65 rfl ?_
              refine sn_q_istn1 sn_bc_99 dX9_closestLand_66 rfl ?_
              refine sn_q_iload sn_bc_99 dX9_closestLand_67 rfl ?_
              refine sn_q_istn2 sn_bc_99 dX9_closestLand_69 rfl ?_
              refine sn_q_inc3 sn_bc_99 dX9_closestLand_70 rfl (by omega) (by omega) ?_
              refine sn_q_goto (t := 6) sn_bc_99 dX9_closestLand_73 rfl ?_
              first
                | exact ih (d - 1) (by omega) (i + 1) _ _ _ (by omega) (Or.inr ⟨by omega, by omega, w1, w2⟩)
                | (refine ih (d - 1) (by omega) (i + 1) _ _ _ (by omega) ?_
                   rcases hbb with ⟨h1, h2⟩ | h
                   · refine Or.inl ⟨h1, fun s a1 a2 => ?_⟩
                     by_cases e : s = (i : Int)
                     · first
                         | (rw [e]; exact w)
                         | (exfalso; omega)
                     · exact h2 s a1 (by omega)
                   · exact Or.inr h)
        · refine sn_q_ifeq (t := 70) sn_bc_99 dX9_closestLand_33 rfl (fun _ => ?_) (fun c => absurd (by decide) c)
          refine sn_q_inc3 sn_bc_99 dX9_closestLand_70 rfl (by omega) (by omega) ?_
          refine sn_q_goto (t := 6) sn_bc_99 dX9_closestLand_73 rfl ?_
          first
            | exact ih (d - 1) (by omega) (i + 1) _ _ _ (by omega) (Or.inr ⟨by omega, by omega, w1, w2⟩)
            | (refine ih (d - 1) (by omega) (i + 1) _ _ _ (by omega) ?_
               rcases hbb with ⟨h1, h2⟩ | h
               · refine Or.inl ⟨h1, fun s a1 a2 => ?_⟩
                 by_cases e : s = (i : Int)
                 · first
                     | (rw [e]; exact w)
                     | (exfalso; omega)
                 · exact h2 s a1 (by omega)
               · exact Or.inr h)
  refine sn_q_iconst sn_bc_99 dX9_closestLand_0 rfl ?_
  refine sn_q_istn1 sn_bc_99 dX9_closestLand_1 rfl ?_
  refine sn_q_iconst sn_bc_99 dX9_closestLand_2 rfl ?_
  refine sn_q_istn2 sn_bc_99 dX9_closestLand_3 rfl ?_
  refine sn_q_iconst sn_bc_99 dX9_closestLand_4 rfl ?_
  refine sn_q_istn3 sn_bc_99 dX9_closestLand_5 rfl ?_
  exact loop 8 0 _ _ _ rfl (Or.inl ⟨rfl, fun s a1 a2 => by omega⟩)
theorem sp_candidatesOf {n k : Nat} {Y : Nat → Nat × Nat} {X : Nat → Nat → sn_V} {σ : Int → Int → Int} {Q : Option sn_V → sn_H → Prop} {w : Int} (h1 : 0 ≤ w) (h2 : w < 8) (h3 : 0 ≤ σ 9 0) (h4 : σ 9 0 ≤ 8) (h5 : 0 ≤ σ 9 1) (h6 : σ 9 1 ≤ 8) (kk : ∀ r : Int, (sn_run σ w ∧ r = σ 9 0 - σ 9 1 - 1) ∨ (¬ sn_run σ w ∧ r = σ 9 0 - σ 9 1 - 0) → Q (some (sn_i r)) (sn_hh n k Y σ X)) : sn_Wp 71 0 [sn_r 9, sn_i w] [] (sn_hh n k Y σ X) Q := by
  refine sn_q_aloadn sn_bc_71 dX7_candidatesOf_0 rfl ?_
  refine sn_q_invV sn_bc_71 dX7_candidatesOf_1 sn_oc_71 sn_pv_7_35 (by decide) rfl (by decide) (sn_h1 (by decide)) rfl rfl rfl rfl (sp_running (by omega) (by omega) (by omega) (by omega) ?_)
  refine sn_q_aloadn sn_bc_71 dX7_candidatesOf_4 rfl ?_
  refine sn_q_iloadn sn_bc_71 dX7_candidatesOf_5 rfl ?_
  refine sn_q_invV sn_bc_71 dX7_candidatesOf_6 sn_oc_71 sn_pv_7_39 (by decide) rfl (by decide) (sn_h1 (by decide)) rfl rfl rfl rfl (sp_isRunning (by omega) (by omega) (fun w1 w2 => ?_) (fun w => ?_))
  · refine sn_q_ifeq (t := 16) sn_bc_71 dX7_candidatesOf_9 rfl (fun c => absurd c (by decide)) (fun _ => ?_)
    refine sn_q_iconst sn_bc_71 dX7_candidatesOf_12 rfl ?_
    refine sn_q_goto (t := 17) sn_bc_71 dX7_candidatesOf_13 rfl ?_
    refine sn_q_isub sn_bc_71 dX7_candidatesOf_17 (by omega) (by omega) ?_
    refine sn_q_iret sn_bc_71 dX7_candidatesOf_18 rfl ?_
    first
      | exact kk _ (Or.inl ⟨⟨w1, w2⟩, rfl⟩)
      | exact kk _ (Or.inr ⟨w, rfl⟩)
  · refine sn_q_ifeq (t := 16) sn_bc_71 dX7_candidatesOf_9 rfl (fun _ => ?_) (fun c => absurd (by decide) c)
    refine sn_q_iconst sn_bc_71 dX7_candidatesOf_16 rfl ?_
    refine sn_q_isub sn_bc_71 dX7_candidatesOf_17 (by omega) (by omega) ?_
    refine sn_q_iret sn_bc_71 dX7_candidatesOf_18 rfl ?_
    first
      | exact kk _ (Or.inl ⟨⟨w1, w2⟩, rfl⟩)
      | exact kk _ (Or.inr ⟨w, rfl⟩)
def sk_vj (σ : Int → Int → Int) (m : Nat) : Int := sn_sum (fun l => if σ 93 l = 0 then 0 else 1) m
theorem sp_voidJuries {n k : Nat} {Y : Nat → Nat × Nat} {X : Nat → Nat → sn_V} {σ : Int → Int → Int} {Q : Option sn_V → sn_H → Prop} (h30 : 0 ≤ σ 3 0) (h38 : σ 3 0 ≤ 8) (kk : Q (some (sn_i (sk_vj σ (σ 3 0).toNat))) (sn_hh n k Y σ X)) : sn_Wp 59 0 [sn_r 2, sn_u, sn_u] [] (sn_hh n k Y σ X) Q := by
  have loop : ∀ (d : Nat) (i : Nat), i + d = 8 → (i : Int) ≤ σ 3 0 → sn_Wp 59 4 [sn_r 2, sn_i (sk_vj σ i), sn_i (i : Int)] [] (sn_hh n k Y σ X) Q := by
    refine sn_ind (fun d ih => ?_)
    intro i hi hz
    have hb := sn_sum_b (f := fun l => if σ 93 l = 0 then (0 : Int) else 1) (B := 1) i (fun j _ => by split <;> decide)
    have hb' : 0 ≤ sk_vj σ i ∧ sk_vj σ i ≤ (i : Int) * 1 := hb
    refine sn_q_iloadn sn_bc_59 dX9_voidJuries_4 rfl ?_
    refine sn_q_aloadn sn_bc_59 dX9_voidJuries_5 rfl ?_
    refine sn_q_getr (v := 3) sn_bc_59 dX9_voidJuries_6 sn_oc_59 sn_pf_9_38 (by decide) rfl rfl (by decide) ?_
    refine sn_q_geti (P := 3) (J := 0) sn_bc_59 dX9_voidJuries_9 sn_oc_59 sn_pf_9_118 (by decide) rfl rfl rfl rfl ?_
    refine sn_q_icge (t := 41) sn_bc_59 dX9_voidJuries_12 rfl (fun c_12 => ?_) (fun c_12 => ?_)
    · refine sn_q_iloadn sn_bc_59 dX9_voidJuries_41 rfl ?_
      refine sn_q_iret sn_bc_59 dX9_voidJuries_42 rfl ?_
      obtain e : (σ 3 0).toNat = i := by omega
      rw [e] at kk
      exact kk
    · refine sn_q_iloadn sn_bc_59 dX9_voidJuries_15 rfl ?_
      refine sn_q_aloadn sn_bc_59 dX9_voidJuries_16 rfl ?_
      refine sn_q_getr (v := 63) sn_bc_59 dX9_voidJuries_17 sn_oc_59 sn_pf_9_54 (by decide) rfl rfl (by decide) ?_
      refine sn_q_getr (v := 93) sn_bc_59 dX9_voidJuries_20 sn_oc_59 sn_pf_9_393 (by decide) rfl rfl (by decide) ?_
      refine sn_q_iloadn sn_bc_59 dX9_voidJuries_23 rfl ?_
      refine sn_q_bald (P := 93) sn_bc_59 dX9_voidJuries_24 sn_a93 rfl (by omega) (by omega) ?_
      refine sn_q_ifeq (t := 32) sn_bc_59 dX9_voidJuries_25 rfl (fun c_25 => ?_) (fun c_25 => ?_)
      · refine sn_q_iconst sn_bc_59 dX9_voidJuries_32 rfl ?_
        refine sn_q_iadd sn_bc_59 dX9_voidJuries_33 (by omega) (by omega) ?_
        refine sn_q_istn1 sn_bc_59 dX9_voidJuries_34 rfl ?_
        refine sn_q_inc2 sn_bc_59 dX9_voidJuries_35 rfl (by omega) (by omega) ?_
        refine sn_q_goto (t := 4) sn_bc_59 dX9_voidJuries_38 rfl ?_
        have k := ih (d - 1) (by omega) (i + 1) (by omega) (by omega)
        first
          | (rw [show sk_vj σ (i + 1) = sk_vj σ i + 0 from congrArg (fun z => _ + z) (if_pos (by omega))] at k; exact k)
          | (rw [show sk_vj σ (i + 1) = sk_vj σ i + 1 from congrArg (fun z => _ + z) (if_neg (by omega))] at k; exact k)
      · refine sn_q_iconst sn_bc_59 dX9_voidJuries_28 rfl ?_
        refine sn_q_goto (t := 33) sn_bc_59 dX9_voidJuries_29 rfl ?_
        refine sn_q_iadd sn_bc_59 dX9_voidJuries_33 (by omega) (by omega) ?_
        refine sn_q_istn1 sn_bc_59 dX9_voidJuries_34 rfl ?_
        refine sn_q_inc2 sn_bc_59 dX9_voidJuries_35 rfl (by omega) (by omega) ?_
        refine sn_q_goto (t := 4) sn_bc_59 dX9_voidJuries_38 rfl ?_
        have k := ih (d - 1) (by omega) (i + 1) (by omega) (by omega)
        first
          | (rw [show sk_vj σ (i + 1) = sk_vj σ i + 0 from congrArg (fun z => _ + z) (if_pos (by omega))] at k; exact k)
          | (rw [show sk_vj σ (i + 1) = sk_vj σ i + 1 from congrArg (fun z => _ + z) (if_neg (by omega))] at k; exact k)
  refine sn_q_iconst sn_bc_59 dX9_voidJuries_0 rfl ?_
  refine sn_q_istn1 sn_bc_59 dX9_voidJuries_1 rfl ?_
  refine sn_q_iconst sn_bc_59 dX9_voidJuries_2 rfl ?_
  refine sn_q_istn2 sn_bc_59 dX9_voidJuries_3 rfl ?_
  exact loop 8 0 rfl (by omega)
theorem sp_findHost {n k : Nat} {Y : Nat → Nat × Nat} {X : Nat → Nat → sn_V} {σ : Int → Int → Int} {Q : Option sn_V → sn_H → Prop} (h3 : 0 ≤ σ 9 0) (h4 : σ 9 0 ≤ 8) (h5 : 0 ≤ σ 9 1) (h6 : σ 9 1 ≤ 8) (h7 : σ 212 8 = σ 9 0 - σ 9 1) (h8 : 0 ≤ σ 212 8) (hrow : ∀ m, 0 ≤ m → m < σ 212 8 → 0 ≤ σ 215 m ∧ σ 215 m < 8) (kk : ∀ r : Int, ((r = -1 ∧ ∀ m, 0 ≤ m → m < σ 212 8 → σ 5 (σ 215 m) < 40 * σ 9 0) ∨ (∃ m, 0 ≤ m ∧ m < σ 212 8 ∧ r = σ 215 m ∧ 40 * σ 9 0 ≤ σ 5 (σ 215 m) ∧ ∀ mm, 0 ≤ mm → mm < m → σ 5 (σ 215 mm) < 40 * σ 9 0)) → Q (some (sn_i r)) (sn_hh n k Y σ X)) : sn_Wp 116 0 [sn_r 2, sn_u, sn_u] [] (sn_hh n k Y σ X) Q := by
  have loop : ∀ (d : Nat) (i : Nat) (u : sn_V), i + d = 8 → (i : Int) ≤ σ 212 8 → (∀ m, 0 ≤ m → m < (i : Int) → σ 5 (σ 215 m) < 40 * σ 9 0) → sn_Wp 116 2 [sn_r 2, sn_i (i : Int), u] [] (sn_hh n k Y σ X) Q := by
    refine sn_ind (fun d ih => ?_)
    intro i u hi hz hm
    refine sn_q_iloadn sn_bc_116 dX9_findHost_2 rfl ?_
    refine sn_q_aloadn sn_bc_116 dX9_findHost_3 rfl ?_
    refine sn_q_getr (v := 9) sn_bc_116 dX9_findHost_4 sn_oc_116 sn_pf_9_42 (by decide) rfl rfl (by decide) ?_
    refine sn_q_invV sn_bc_116 dX9_findHost_7 sn_oc_116 sn_pv_9_241 (by decide) rfl (by decide) (sn_h1 (by decide)) rfl rfl rfl rfl (sp_running (by omega) (by omega) (by omega) (by omega) ?_)
    refine sn_q_icge (t := 57) sn_bc_116 dX9_findHost_10 rfl (fun c_10 => ?_) (fun c_10 => ?_)
    · refine sn_q_iconst sn_bc_116 dX9_findHost_57 rfl ?_
      refine sn_q_iret sn_bc_116 dX9_findHost_58 rfl ?_
      first
        | exact kk _ (Or.inl ⟨rfl, fun m a1 a2 => hm m a1 (by omega)⟩)
        | exact kk _ (Or.inr ⟨i, by omega, by omega, rfl, by omega, hm⟩)
        | (exfalso; omega)
    · refine sn_q_aloadn sn_bc_116 dX9_findHost_13 rfl ?_
      refine sn_q_getr (v := 212) sn_bc_116 dX9_findHost_14 sn_oc_116 sn_pf_9_67 (by decide) rfl rfl (by decide) ?_
      refine sn_q_iloadn sn_bc_116 dX9_findHost_17 rfl ?_
      refine sn_q_invV sn_bc_116 dX9_findHost_18 sn_oc_116 sn_pv_9_310 (by decide) rfl (by decide) (sn_h1 (by decide)) rfl rfl rfl rfl (sp_songAt (by omega) (by omega) (fun w1 w2 => ?_) (fun w => ?_))
      · refine sn_q_istn2 sn_bc_116 dX9_findHost_21 rfl ?_
        have hen := hrow (i : Int) (by omega)
        refine sn_q_iloadn sn_bc_116 dX9_findHost_22 rfl ?_
        refine sn_q_iconst sn_bc_116 dX9_findHost_23 rfl ?_
        refine sn_q_iceq (t := 51) sn_bc_116 dX9_findHost_24 rfl (fun c_24 => ?_) (fun c_24 => ?_)
        · refine sn_q_inc1 sn_bc_116 dX9_findHost_51 rfl (by omega) (by omega) ?_
          refine sn_q_goto (t := 2) sn_bc_116 dX9_findHost_54 rfl ?_
          first
            | (exfalso; omega)
            | (refine ih (d - 1) (by omega) (i + 1) _ (by omega) (by omega) (fun m a1 a2 => ?_)
               by_cases e : m = (i : Int)
               · rw [e]; omega
               · exact hm m a1 (by omega))
        · refine sn_q_aloadn sn_bc_116 dX9_findHost_27 rfl ?_
          refine sn_q_getr (v := 3) sn_bc_116 dX9_findHost_28 sn_oc_116 sn_pf_9_38 (by decide) rfl rfl (by decide) ?_
          refine sn_q_getr (v := 5) sn_bc_116 dX9_findHost_31 sn_oc_116 sn_pf_9_384 (by decide) rfl rfl (by decide) ?_
          refine sn_q_iloadn sn_bc_116 dX9_findHost_34 rfl ?_
          refine sn_q_iald (P := 5) sn_bc_116 dX9_findHost_35 sn_a5 rfl (by omega) (by omega) ?_
          refine sn_q_bipush sn_bc_116 dX9_findHost_36 rfl ?_
          refine sn_q_aloadn sn_bc_116 dX9_findHost_38 rfl ?_
          refine sn_q_getr (v := 9) sn_bc_116 dX9_findHost_39 sn_oc_116 sn_pf_9_42 (by decide) rfl rfl (by decide) ?_
          refine sn_q_geti (P := 9) (J := 0) sn_bc_116 dX9_findHost_42 sn_oc_116 sn_pf_9_134 (by decide) rfl rfl rfl rfl ?_
          refine sn_q_imul sn_bc_116 dX9_findHost_45 (by omega) (by omega) ?_
          refine sn_q_iclt (t := 51) sn_bc_116 dX9_findHost_46 rfl (fun c_46 => ?_) (fun c_46 => ?_)
          · refine sn_q_inc1 sn_bc_116 dX9_findHost_51 rfl (by omega) (by omega) ?_
            refine sn_q_goto (t := 2) sn_bc_116 dX9_findHost_54 rfl ?_
            first
              | (exfalso; omega)
              | (refine ih (d - 1) (by omega) (i + 1) _ (by omega) (by omega) (fun m a1 a2 => ?_)
                 by_cases e : m = (i : Int)
                 · rw [e]; omega
                 · exact hm m a1 (by omega))
          · refine sn_q_iloadn sn_bc_116 dX9_findHost_49 rfl ?_
            refine sn_q_iret sn_bc_116 dX9_findHost_50 rfl ?_
            first
              | exact kk _ (Or.inl ⟨rfl, fun m a1 a2 => hm m a1 (by omega)⟩)
              | exact kk _ (Or.inr ⟨i, by omega, by omega, rfl, by omega, hm⟩)
              | (exfalso; omega)
      · refine sn_q_istn2 sn_bc_116 dX9_findHost_21 rfl ?_
        have hen := hrow (i : Int) (by omega)
        refine sn_q_iloadn sn_bc_116 dX9_findHost_22 rfl ?_
        refine sn_q_iconst sn_bc_116 dX9_findHost_23 rfl ?_
        refine sn_q_iceq (t := 51) sn_bc_116 dX9_findHost_24 rfl (fun _ => ?_) (fun c => absurd (by decide) c)
        refine sn_q_inc1 sn_bc_116 dX9_findHost_51 rfl (by omega) (by omega) ?_
        refine sn_q_goto (t := 2) sn_bc_116 dX9_findHost_54 rfl ?_
        first
          | (exfalso; omega)
          | (refine ih (d - 1) (by omega) (i + 1) _ (by omega) (by omega) (fun m a1 a2 => ?_)
             by_cases e : m = (i : Int)
             · rw [e]; omega
             · exact hm m a1 (by omega))
  refine sn_q_iconst sn_bc_116 dX9_findHost_0 rfl ?_
  refine sn_q_istn1 sn_bc_116 dX9_findHost_1 rfl ?_
  exact loop 8 0 _ rfl (by omega) (fun m a1 a2 => by omega)
theorem sp_canMove {n k : Nat} {Y : Nat → Nat × Nat} {X : Nat → Nat → sn_V} {σ : Int → Int → Int} {Q : Option sn_V → sn_H → Prop} (k1 : σ 2 10 = 0 ∨ σ 2 10 = 1 → Q (some (sn_i 1)) (sn_hh n k Y σ X)) (k2 : ¬ (σ 2 10 = 0 ∨ σ 2 10 = 1) → Q (some (sn_i 0)) (sn_hh n k Y σ X)) : sn_Wp 61 0 [sn_r 2] [] (sn_hh n k Y σ X) Q := by
  refine sn_q_aloadn sn_bc_61 dX9_canMove_0 rfl ?_
  refine sn_q_geti (P := 2) (J := 10) sn_bc_61 dX9_canMove_1 sn_oc_61 sn_pf_9_84 (by decide) rfl rfl rfl rfl ?_
  refine sn_q_ifeq (t := 15) sn_bc_61 dX9_canMove_4 rfl (fun c_4 => ?_) (fun c_4 => ?_)
  · refine sn_q_iconst sn_bc_61 dX9_canMove_15 rfl ?_
    refine sn_q_goto (t := 20) sn_bc_61 dX9_canMove_16 rfl ?_
    refine sn_q_zret sn_bc_61 dX9_canMove_20 rfl (by omega) ?_
    first | exact k1 (by omega) | exact k2 (by omega)
  · refine sn_q_aloadn sn_bc_61 dX9_canMove_7 rfl ?_
    refine sn_q_geti (P := 2) (J := 10) sn_bc_61 dX9_canMove_8 sn_oc_61 sn_pf_9_84 (by decide) rfl rfl rfl rfl ?_
    refine sn_q_iconst sn_bc_61 dX9_canMove_11 rfl ?_
    refine sn_q_icne (t := 19) sn_bc_61 dX9_canMove_12 rfl (fun c_12 => ?_) (fun c_12 => ?_)
    · refine sn_q_iconst sn_bc_61 dX9_canMove_19 rfl ?_
      refine sn_q_zret sn_bc_61 dX9_canMove_20 rfl (by omega) ?_
      first | exact k1 (by omega) | exact k2 (by omega)
    · refine sn_q_iconst sn_bc_61 dX9_canMove_15 rfl ?_
      refine sn_q_goto (t := 20) sn_bc_61 dX9_canMove_16 rfl ?_
      refine sn_q_zret sn_bc_61 dX9_canMove_20 rfl (by omega) ?_
      first | exact k1 (by omega) | exact k2 (by omega)
theorem sp_canStillChange {n k : Nat} {Y : Nat → Nat × Nat} {X : Nat → Nat → sn_V} {σ : Int → Int → Int} {Q : Option sn_V → sn_H → Prop} (h : σ 2 10 ≠ 2 ∨ σ 3 0 ≤ σ 217 7) (kk : Q (some (sn_i 0)) (sn_hh n k Y σ X)) : sn_Wp 111 0 [sn_r 2] [] (sn_hh n k Y σ X) Q := by
  refine sn_q_aloadn sn_bc_111 dX9_canStillChange_0 rfl ?_
  refine sn_q_geti (P := 2) (J := 10) sn_bc_111 dX9_canStillChange_1 sn_oc_111 sn_pf_9_84 (by decide) rfl rfl rfl rfl ?_
  refine sn_q_iconst sn_bc_111 dX9_canStillChange_4 rfl ?_
  refine sn_q_icne (t := 40) sn_bc_111 dX9_canStillChange_5 rfl (fun c_5 => ?_) (fun c_5 => ?_)
  · refine sn_q_iconst sn_bc_111 dX9_canStillChange_40 rfl ?_
    refine sn_q_zret sn_bc_111 dX9_canStillChange_41 rfl (by omega) ?_
    exact kk
  · refine sn_q_aloadn sn_bc_111 dX9_canStillChange_8 rfl ?_
    refine sn_q_getr (v := 217) sn_bc_111 dX9_canStillChange_9 sn_oc_111 sn_pf_9_76 (by decide) rfl rfl (by decide) ?_
    refine sn_q_geti (P := 217) (J := 7) sn_bc_111 dX9_canStillChange_12 sn_oc_111 sn_pf_9_291 (by decide) rfl rfl rfl rfl ?_
    refine sn_q_aloadn sn_bc_111 dX9_canStillChange_15 rfl ?_
    refine sn_q_getr (v := 3) sn_bc_111 dX9_canStillChange_16 sn_oc_111 sn_pf_9_38 (by decide) rfl rfl (by decide) ?_
    refine sn_q_geti (P := 3) (J := 0) sn_bc_111 dX9_canStillChange_19 sn_oc_111 sn_pf_9_118 (by decide) rfl rfl rfl rfl ?_
    refine sn_q_icge (t := 40) sn_bc_111 dX9_canStillChange_22 rfl (fun c_22 => ?_) (fun c_22 => ?_)
    · refine sn_q_iconst sn_bc_111 dX9_canStillChange_40 rfl ?_
      refine sn_q_zret sn_bc_111 dX9_canStillChange_41 rfl (by omega) ?_
      exact kk
    · exfalso; omega
