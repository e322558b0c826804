/-! sorting a row by keys, the greatest ahead -/
def sn_prm (σ τ : Int → Int → Int) (P m : Int) : Prop := (∀ a b, (a ≠ P ∨ ¬ (0 ≤ b ∧ b < m)) → τ a b = σ a b) ∧ (∀ i, 0 ≤ i → i < m → ∃ j, 0 ≤ j ∧ j < m ∧ τ P i = σ P j) ∧ (∀ j, 0 ≤ j → j < m → ∃ i, 0 ≤ i ∧ i < m ∧ τ P i = σ P j) ∧ ((∀ i j, 0 ≤ i → i < j → j < m → σ P i ≠ σ P j) → ∀ i j, 0 ≤ i → i < j → j < m → τ P i ≠ τ P j)
def sn_srt (σ τ : Int → Int → Int) (P P2 m : Int) : Prop := sn_prm σ τ P m ∧ ∀ i, 0 ≤ i → i + 1 < m → σ P2 (τ P (i + 1)) ≤ σ P2 (τ P i)
theorem sn_prm_rf {σ : Int → Int → Int} {P m : Int} : sn_prm σ σ P m := ⟨fun _ _ _ => rfl, fun i h1 h2 => ⟨i, h1, h2, rfl⟩, fun i h1 h2 => ⟨i, h1, h2, rfl⟩, fun h => h⟩
theorem sn_prm_tr {σ τ ρ : Int → Int → Int} {P m : Int} (h : sn_prm σ τ P m) (g : sn_prm τ ρ P m) : sn_prm σ ρ P m := by
  obtain ⟨h1, h2, h3, h4⟩ := h
  obtain ⟨g1, g2, g3, g4⟩ := g
  refine ⟨fun a b hab => (g1 a b hab).trans (h1 a b hab), fun i a1 a2 => ?_, fun j a1 a2 => ?_, fun hd => g4 (h4 hd)⟩
  · obtain ⟨j, b1, b2, b3⟩ := g2 i a1 a2
    obtain ⟨l, c1, c2, c3⟩ := h2 j b1 b2
    exact ⟨l, c1, c2, b3.trans c3⟩
  · obtain ⟨i, b1, b2, b3⟩ := h3 j a1 a2
    obtain ⟨l, c1, c2, c3⟩ := g3 i b1 b2
    exact ⟨l, c1, c2, c3.trans b3⟩
/-- the entry i put in at pl, those between one place on -/
def sn_nz (τ : Int → Int → Int) (P pl i : Int) : Int → Int → Int := fun a b => if a = P ∧ b = pl then τ P i else if a = P ∧ pl < b ∧ b ≤ i then τ P (b - 1) else τ a b
theorem sn_nz_prm {τ : Int → Int → Int} {P pl i m : Int} (h0 : 0 ≤ pl) (h1 : pl ≤ i) (h2 : i < m) : sn_prm τ (sn_nz τ P pl i) P m := by
  have e1 : sn_nz τ P pl i P pl = τ P i := if_pos ⟨rfl, rfl⟩
  have e2 : ∀ b, pl < b → b ≤ i → sn_nz τ P pl i P b = τ P (b - 1) := fun b g1 g2 => by
    unfold sn_nz
    rw [if_neg (by omega), if_pos ⟨rfl, g1, g2⟩]
  have e3 : ∀ b, b < pl ∨ i < b → sn_nz τ P pl i P b = τ P b := fun b g => by
    unfold sn_nz
    rw [if_neg (by omega), if_neg (by omega)]
  refine ⟨fun a b hab => ?_, fun b g1 g2 => ?_, fun b g1 g2 => ?_, fun hd b c g1 g2 g3 => ?_⟩
  · unfold sn_nz
    rw [if_neg (by omega), if_neg (by omega)]
  · by_cases c1 : b = pl
    · exact ⟨i, by omega, h2, by rw [c1, e1]⟩
    · by_cases c2 : pl < b ∧ b ≤ i
      · exact ⟨b - 1, by omega, by omega, e2 b c2.1 c2.2⟩
      · exact ⟨b, g1, g2, e3 b (by omega)⟩
  · by_cases c1 : b = i
    · exact ⟨pl, h0, by omega, by rw [c1, e1]⟩
    · by_cases c2 : pl ≤ b ∧ b < i
      · exact ⟨b + 1, by omega, by omega, by rw [e2 (b + 1) (by omega) (by omega)]; congr 1; omega⟩
      · exact ⟨b, g1, g2, e3 b (by omega)⟩
  · have key : ∀ b, 0 ≤ b → b < m → ∃ x, 0 ≤ x ∧ x < m ∧ sn_nz τ P pl i P b = τ P x ∧ ((b = pl ∧ x = i) ∨ (pl < b ∧ b ≤ i ∧ x = b - 1) ∨ ((b < pl ∨ i < b) ∧ x = b)) := fun b g1 g2 => by
      by_cases c1 : b = pl
      · exact ⟨i, by omega, h2, by rw [c1, e1], Or.inl ⟨c1, rfl⟩⟩
      · by_cases c2 : pl < b ∧ b ≤ i
        · exact ⟨b - 1, by omega, by omega, e2 b c2.1 c2.2, Or.inr (Or.inl ⟨c2.1, c2.2, rfl⟩)⟩
        · exact ⟨b, g1, g2, e3 b (by omega), Or.inr (Or.inr ⟨by omega, rfl⟩)⟩
    obtain ⟨x, a1, a2, a3, a4⟩ := key b g1 (by omega)
    obtain ⟨y, b1, b2, b3, b4⟩ := key c (by omega) g3
    rw [a3, b3]
    rcases Int.lt_trichotomy x y with h | h | h
    · exact hd x y a1 h b2
    · omega
    · exact fun q => hd y x b1 h a2 q.symm
theorem sn_nz_eq {τ : Int → Int → Int} {P pl i : Int} (_h : pl ≤ i) : sn_s (fun a b => if a = P ∧ pl < b ∧ b ≤ i then τ P (b - 1) else τ a b) P pl (τ P i) = sn_nz τ P pl i := rfl
theorem sn_nz_srt {τ : Int → Int → Int} {P pl i : Int} {K : Int → Int} (h0 : 0 ≤ pl) (h1 : pl ≤ i) (hs : ∀ j, 0 ≤ j → j + 1 < i → K (τ P (j + 1)) ≤ K (τ P j)) (hlt : ∀ b, pl ≤ b → b < i → K (τ P b) < K (τ P i)) (hge : pl = 0 ∨ K (τ P i) ≤ K (τ P (pl - 1))) : ∀ j, 0 ≤ j → j + 1 < i + 1 → K (sn_nz τ P pl i P (j + 1)) ≤ K (sn_nz τ P pl i P j) := by
  intro j g1 g2
  have e1 : sn_nz τ P pl i P pl = τ P i := if_pos ⟨rfl, rfl⟩
  have e2 : ∀ b, pl < b → b ≤ i → sn_nz τ P pl i P b = τ P (b - 1) := fun b g1 g2 => by
    unfold sn_nz
    rw [if_neg (by omega), if_pos ⟨rfl, g1, g2⟩]
  have e3 : ∀ b, b < pl ∨ i < b → sn_nz τ P pl i P b = τ P b := fun b g => by
    unfold sn_nz
    rw [if_neg (by omega), if_neg (by omega)]
  by_cases c1 : j + 1 < pl
  · rw [e3 _ (Or.inl c1), e3 _ (Or.inl (by omega))]
    exact hs j g1 (by omega)
  · by_cases c2 : j + 1 = pl
    · rw [c2, e1, e3 _ (Or.inl (by omega))]
      rcases hge with h | h
      · omega
      · rw [show j = pl - 1 by omega]; exact h
    · by_cases c3 : j = pl
      · rw [e2 (j + 1) (by omega) (by omega), c3, e1, show pl + 1 - 1 = pl by omega]
        exact Int.le_of_lt (hlt pl (by omega) (by omega))
      · rw [e2 (j + 1) (by omega) (by omega), e2 j (by omega) (by omega), show j + 1 - 1 = (j - 1) + 1 by omega]
        exact hs (j - 1) (by omega) (by omega)
set_option maxHeartbeats 1000000 in
theorem sp_sortDown {n k : Nat} {Y : Nat → Nat × Nat} {X : Nat → Nat → sn_V} {σ : Int → Int → Int} {Q : Option sn_V → sn_H → Prop} {q q2 : Nat} {P P2 m : Int} (ha : sn_ai q 8) (hP : (q : Int) = P) (ha2 : sn_ai q2 8) (hP2 : (q2 : Int) = P2) (hne : P ≠ P2) (h0 : 0 ≤ m) (h8 : m ≤ 8) (hr : ∀ i, 0 ≤ i → i < m → 0 ≤ σ P i ∧ σ P i < 8) (kk : ∀ τ, sn_srt σ τ P P2 m → Q none (sn_hh n k Y τ X)) : sn_Wp 35 0 [sn_r q, sn_i m, sn_r q2, sn_u, sn_u, sn_u] [] (sn_hh n k Y σ X) Q := by
  have loop : ∀ (d : Nat) (i : Nat) (τ : Int → Int → Int) (w4 w5 : sn_V), i + d = 9 → 1 ≤ i → sn_prm σ τ P m → (∀ j, 0 ≤ j → j + 1 < (i : Int) → σ P2 (τ P (j + 1)) ≤ σ P2 (τ P j)) → sn_Wp 35 2 [sn_r q, sn_i m, sn_r q2, sn_i (i : Int), w4, w5] [] (sn_hh n k Y τ X) Q := by
    refine sn_ind (fun d ih => ?_)
    intro i τ w4 w5 hi h1i hp hs
    have hk : ∀ x, τ P2 x = σ P2 x := fun x => hp.1 P2 x (Or.inl (fun e => hne e.symm))
    have hrt : ∀ j, 0 ≤ j → j < m → 0 ≤ τ P j ∧ τ P j < 8 := fun j g1 g2 => by
      obtain ⟨x, b1, b2, b3⟩ := hp.2.1 j g1 g2
      rw [b3]
      exact hr x b1 b2
    have inner : (i : Int) < m → ∀ (pl : Nat), (pl : Int) ≤ i → (∀ b, (pl : Int) ≤ b → b < (i : Int) → σ P2 (τ P b) < σ P2 (τ P i)) → sn_Wp 35 15 [sn_r q, sn_i m, sn_r q2, sn_i (i : Int), sn_i (τ P i), sn_i (pl : Int)] [] (sn_hh n k Y (fun a b => if a = P ∧ (pl : Int) < b ∧ b ≤ (i : Int) then τ P (b - 1) else τ a b) X) Q := by
      intro him
      refine sn_ind (fun pl ihp => ?_)
      intro hpl hlt
      have hri := hrt i (by omega) him
      have done : ((pl : Int) = 0 ∨ σ P2 (τ P i) ≤ σ P2 (τ P ((pl : Int) - 1))) → sn_Wp 35 51 [sn_r q, sn_i m, sn_r q2, sn_i (i : Int), sn_i (τ P i), sn_i (pl : Int)] [] (sn_hh n k Y (fun a b => if a = P ∧ (pl : Int) < b ∧ b ≤ (i : Int) then τ P (b - 1) else τ a b) X) Q := by
        intro hge
        refine sn_q_aloadn sn_bc_35 dX9_sortDown_51 rfl ?_
        refine sn_q_iload sn_bc_35 dX9_sortDown_52 rfl ?_
        refine sn_q_iload sn_bc_35 dX9_sortDown_54 rfl ?_
        refine sn_q_iast sn_bc_35 dX9_sortDown_56 ha hP (by omega) (by omega) ?_
        refine sn_q_inc3 sn_bc_35 dX9_sortDown_57 rfl (by omega) (by omega) ?_
        refine sn_q_goto (t := 2) sn_bc_35 dX9_sortDown_60 rfl ?_
        refine sn_sg (σ' := sn_nz τ P (pl : Int) (i : Int)) (sn_nz_eq (by omega)) ?_
        exact ih (d - 1) (by omega) (i + 1) _ _ _ (by omega) (by omega) (sn_prm_tr hp (sn_nz_prm (by omega) (by omega) (by omega))) (fun j g1 g2 => sn_nz_srt (K := fun x => σ P2 x) (by omega) (by omega) hs hlt hge j g1 (by omega))
      refine sn_q_iload sn_bc_35 dX9_sortDown_15 rfl ?_
      refine sn_q_ifle (t := 51) sn_bc_35 dX9_sortDown_17 rfl (fun c_17 => ?_) (fun c_17 => ?_)
      · first | exact done (Or.inl (by omega)) | exact done (Or.inr (by omega))
      · have hrp := hrt ((pl : Int) - 1) (by omega) (by omega)
        have hk1 := hk (τ P ((pl : Int) - 1))
        have hk2 := hk (τ P i)
        refine sn_q_aloadn sn_bc_35 dX9_sortDown_20 rfl ?_
        refine sn_q_aloadn sn_bc_35 dX9_sortDown_21 rfl ?_
        refine sn_q_iload sn_bc_35 dX9_sortDown_22 rfl ?_
        refine sn_q_iconst sn_bc_35 dX9_sortDown_24 rfl ?_
        refine sn_q_isub sn_bc_35 dX9_sortDown_25 (by omega) (by omega) ?_
        refine sn_q_iald sn_bc_35 dX9_sortDown_26 ha hP (by omega) (by omega) ?_
        rw [if_neg (show ¬ (P = P ∧ (pl : Int) < (pl : Int) - 1 ∧ (pl : Int) - 1 ≤ (i : Int)) from by omega)]
        refine sn_q_iald sn_bc_35 dX9_sortDown_27 ha2 hP2 (by omega) (by omega) ?_
        rw [if_neg (show ¬ (P2 = P ∧ (pl : Int) < τ P ((pl : Int) - 1) ∧ τ P ((pl : Int) - 1) ≤ (i : Int)) from fun z => hne z.1.symm)]
        refine sn_q_aloadn sn_bc_35 dX9_sortDown_28 rfl ?_
        refine sn_q_iload sn_bc_35 dX9_sortDown_29 rfl ?_
        refine sn_q_iald sn_bc_35 dX9_sortDown_31 ha2 hP2 (by omega) (by omega) ?_
        rw [if_neg (show ¬ (P2 = P ∧ (pl : Int) < τ P i ∧ τ P i ≤ (i : Int)) from fun z => hne z.1.symm)]
        refine sn_q_icge (t := 51) sn_bc_35 dX9_sortDown_32 rfl (fun c_32 => ?_) (fun c_32 => ?_)
        · first | exact done (Or.inl (by omega)) | exact done (Or.inr (by omega))
        · refine sn_q_aloadn sn_bc_35 dX9_sortDown_35 rfl ?_
          refine sn_q_iload sn_bc_35 dX9_sortDown_36 rfl ?_
          refine sn_q_aloadn sn_bc_35 dX9_sortDown_38 rfl ?_
          refine sn_q_iload sn_bc_35 dX9_sortDown_39 rfl ?_
          refine sn_q_iconst sn_bc_35 dX9_sortDown_41 rfl ?_
          refine sn_q_isub sn_bc_35 dX9_sortDown_42 (by omega) (by omega) ?_
          refine sn_q_iald sn_bc_35 dX9_sortDown_43 ha hP (by omega) (by omega) ?_
          rw [if_neg (show ¬ (P = P ∧ (pl : Int) < (pl : Int) - 1 ∧ (pl : Int) - 1 ≤ (i : Int)) from by omega)]
          refine sn_q_iast sn_bc_35 dX9_sortDown_44 ha hP (by omega) (by omega) ?_
          refine sn_q_inc5 sn_bc_35 dX9_sortDown_45 rfl (by omega) (by omega) ?_
          refine sn_q_goto (t := 15) sn_bc_35 dX9_sortDown_48 rfl ?_
          obtain ⟨pl', rfl⟩ : ∃ x : Nat, pl = x + 1 := ⟨pl - 1, by omega⟩
          refine sn_sg (σ' := (fun a b => if a = P ∧ (pl' : Int) < b ∧ b ≤ (i : Int) then τ P (b - 1) else τ a b)) (by funext a b; (try simp only [sn_s]); (repeat' split) <;> first | rfl | omega | (congr 1 <;> omega)) ?_
          have e9 : (((pl' + 1 : Nat) : Int) + -1) = (pl' : Int) := by omega
          rw [e9]
          refine ihp pl' (by omega) (by omega) (fun b g1 g2 => ?_)
          by_cases e : b = (pl' : Int)
          · rw [e]; have e8 : (((pl' + 1 : Nat) : Int) - 1) = (pl' : Int) := by omega
            rw [e8] at c_32 hk1
            omega
          · exact hlt b (by omega) g2
    refine sn_q_iloadn sn_bc_35 dX9_sortDown_2 rfl ?_
    refine sn_q_iloadn sn_bc_35 dX9_sortDown_3 rfl ?_
    refine sn_q_icge (t := 63) sn_bc_35 dX9_sortDown_4 rfl (fun c_4 => ?_) (fun c_4 => ?_)
    · refine sn_q_vret sn_bc_35 dX9_sortDown_63 rfl ?_
      exact kk τ ⟨hp, fun j g1 g2 => hs j g1 (by omega)⟩
    · refine sn_q_aloadn sn_bc_35 dX9_sortDown_7 rfl ?_
      refine sn_q_iloadn sn_bc_35 dX9_sortDown_8 rfl ?_
      refine sn_q_iald sn_bc_35 dX9_sortDown_9 ha hP (by omega) (by omega) ?_
      refine sn_q_ist4 sn_bc_35 dX9_sortDown_10 rfl ?_
      refine sn_q_iloadn sn_bc_35 dX9_sortDown_12 rfl ?_
      refine sn_q_ist5 sn_bc_35 dX9_sortDown_13 rfl ?_
      refine sn_sg (σ' := (fun a b => if a = P ∧ ((i : Nat) : Int) < b ∧ b ≤ (i : Int) then τ P (b - 1) else τ a b)) (by funext a b; rw [if_neg (by omega)]) ?_
      exact inner (by omega) i (by omega) (fun b g1 g2 => by omega)
  refine sn_q_iconst sn_bc_35 dX9_sortDown_0 rfl ?_
  refine sn_q_istn3 sn_bc_35 dX9_sortDown_1 rfl ?_
  exact loop 8 1 σ _ _ rfl (by omega) sn_prm_rf (fun j g1 g2 => by omega)
