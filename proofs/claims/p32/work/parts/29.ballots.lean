/-! the best shift; ballots written, taken out -/
def sk_hf (σ : Int → Int → Int) (s pl : Int) : Prop := (σ 14 s = 0 ∧ pl < σ 15 4) ∨ (σ 14 s ≠ 0 ∧ σ 15 4 ≤ pl)
/-- what the best shift is -/
def sk_bs (σ : Int → Int → Int) (b l : Int) : Prop := (b = -1 ∧ l = sn_dx σ (σ 16) (σ 15 3 - 1).toNat) ∨ ∃ s pl p, b = 100 * s + pl ∧ 0 ≤ s ∧ s < 8 ∧ σ 10 s ≠ 0 ∧ sk_hf σ s pl ∧ 0 ≤ pl ∧ pl < σ 15 3 ∧ 0 ≤ p ∧ p < σ 15 3 ∧ σ 16 p = s ∧ l = sn_dx σ (sk_tr σ s p pl) (σ 15 3 - 1).toNat ∧ l < sn_dx σ (σ 16) (σ 15 3 - 1).toNat
theorem sk_bs_le {σ : Int → Int → Int} {b l : Int} (h : sk_bs σ b l) : l ≤ sn_dx σ (σ 16) (σ 15 3 - 1).toNat := by
  rcases h with ⟨-, h⟩ | ⟨s, pl, p, -, -, -, -, -, -, -, -, -, -, -, h⟩ <;> omega
theorem sp_bestShift {n k : Nat} {Y : Nat → Nat × Nat} {X : Nat → Nat → sn_V} {σ : Int → Int → Int} {Q : Option sn_V → sn_H → Prop} (h1 : 0 ≤ σ 15 3) (h2 : σ 15 3 ≤ 8) (hr : ∀ i, 0 ≤ i → i < σ 15 3 → 0 ≤ σ 16 i ∧ σ 16 i < 8) (hp9 : sn_p9 σ) (hd : sn_od σ) (hin : ∀ s, 0 ≤ s → s < 8 → σ 10 s ≠ 0 → ∃ p, 0 ≤ p ∧ p < σ 15 3 ∧ σ 16 p = s) (kk : ∀ (b l : Int) (τ : Int → Int → Int), (∀ a c, a ≠ 17 → τ a c = σ a c) → sk_bs σ b l → ((∀ s, 0 ≤ s → s < 8 → σ 10 s = 0) → b = -1 ∧ τ = σ) → Q (some (sn_i b)) (sn_hh n k Y τ X)) : sn_Wp 62 0 [sn_r 15, sn_u, sn_u, sn_u, sn_u, sn_u] [] (sn_hh n k Y σ X) Q := by
  have inner : ∀ (i : Nat) (d' : Nat), i + d' = 7 → (∀ (b l : Int) (x u : sn_V) (τ : Int → Int → Int), (∀ a c, a ≠ 17 → τ a c = σ a c) → sk_bs σ b l → ((∀ s, 0 ≤ s → s < 8 → σ 10 s = 0) → b = -1 ∧ τ = σ) → sn_Wp 62 9 [sn_r 15, sn_i b, sn_i l, sn_i ((i : Int) + 1), x, u] [] (sn_hh n k Y τ X) Q) → ∀ (d : Nat) (j : Nat) (b l : Int) (u : sn_V) (τ : Int → Int → Int), j + d = 8 → (∀ a c, a ≠ 17 → τ a c = σ a c) → sk_bs σ b l → ((∀ s, 0 ≤ s → s < 8 → σ 10 s = 0) → b = -1 ∧ τ = σ) → sn_Wp 62 18 [sn_r 15, sn_i b, sn_i l, sn_i (i : Int), sn_i (j : Int), u] [] (sn_hh n k Y τ X) Q := by
    intro i d' hi7 next
    refine sn_ind (fun d ih => ?_)
    intro j b l u τ hj hg hb hn
    have e15 := hg 15 3 (by omega)
    have e10 := hg 10 i (by omega)
    refine sn_q_aloadn sn_bc_62 dX8_bestShift_18 rfl ?_
    refine sn_q_getr (v := 9) sn_bc_62 dX8_bestShift_19 sn_oc_62 sn_pf_8_25 (by decide) rfl rfl (by decide) ?_
    refine sn_q_getr (v := 10) sn_bc_62 dX8_bestShift_22 sn_oc_62 sn_pf_8_50 (by decide) rfl rfl (by decide) ?_
    refine sn_q_iloadn sn_bc_62 dX8_bestShift_25 rfl ?_
    refine sn_q_bald (P := 10) sn_bc_62 dX8_bestShift_26 sn_a10 rfl (by omega) (by omega) ?_
    refine sn_q_ifeq (t := 85) sn_bc_62 dX8_bestShift_27 rfl (fun c_27 => ?_) (fun c_27 => ?_)
    · refine sn_q_inc3 sn_bc_62 dX8_bestShift_85 rfl (by omega) (by omega) ?_
      refine sn_q_goto (t := 9) sn_bc_62 dX8_bestShift_88 rfl ?_
      exact next _ _ _ _ _ hg hb hn
    · refine sn_q_iload sn_bc_62 dX8_bestShift_30 rfl ?_
      refine sn_q_aloadn sn_bc_62 dX8_bestShift_32 rfl ?_
      refine sn_q_geti (P := 15) (J := 3) sn_bc_62 dX8_bestShift_33 sn_oc_62 sn_pf_8_18 (by decide) rfl rfl rfl rfl ?_
      refine sn_q_icge (t := 85) sn_bc_62 dX8_bestShift_36 rfl (fun c_36 => ?_) (fun c_36 => ?_)
      · refine sn_q_inc3 sn_bc_62 dX8_bestShift_85 rfl (by omega) (by omega) ?_
        refine sn_q_goto (t := 9) sn_bc_62 dX8_bestShift_88 rfl ?_
        exact next _ _ _ _ _ hg hb hn
      · have hle := sk_bs_le hb
        obtain ⟨p, hp0, hpc, hps⟩ := hin i (by omega) (by omega) (by omega)
        refine sn_q_aloadn sn_bc_62 dX8_bestShift_39 rfl ?_
        refine sn_q_iloadn sn_bc_62 dX8_bestShift_40 rfl ?_
        refine sn_q_iload sn_bc_62 dX8_bestShift_41 rfl ?_
        refine sn_q_invV sn_bc_62 dX8_bestShift_43 sn_oc_62 sn_pv_8_54 (by decide) rfl (by decide) (sn_h1 (by decide)) rfl rfl rfl rfl (sp_isOfHalf (by omega) (by omega) (fun w1 => ?_) (fun w => ?_))
        · refine sn_q_ifeq (t := 59) sn_bc_62 dX8_bestShift_46 rfl (fun c => absurd c (by decide)) (fun _ => ?_)
          have e14 := hg 14 i (by omega)
          have e154 := hg 15 4 (by omega)
          have hhf : sk_hf σ i j := by unfold sk_hf; omega
          refine sn_q_aloadn sn_bc_62 dX8_bestShift_49 rfl ?_
          refine sn_q_iloadn sn_bc_62 dX8_bestShift_50 rfl ?_
          refine sn_q_iload sn_bc_62 dX8_bestShift_51 rfl ?_
          refine sn_q_invV sn_bc_62 dX8_bestShift_53 sn_oc_62 sn_pv_8_58 (by decide) rfl (by decide) (sn_h1 (by decide)) rfl rfl rfl rfl (sp_delayWith (p := p) (by rw [hg 15 3 (by omega)]; exact h1) (by rw [hg 15 3 (by omega)]; exact h2) hp0 (by rw [hg 15 3 (by omega)]; exact hpc) (by rw [hg 16 _ (by omega)]; exact hps) (fun x y a1 a2 a3 => by rw [hg 15 3 (by omega)] at a3; rw [hg 16 _ (by omega), hg 16 _ (by omega)]; exact hd x y a1 a2 a3) (by omega) (by omega) (fun x a1 a2 => by rw [hg 15 3 (by omega)] at a2; rw [hg 16 _ (by omega)]; exact hr x a1 a2) (fun x a1 a2 => by rw [hg 13 _ (by omega)]; exact hp9 x a1 a2) (fun ρ hρ => ?_))
          have edx : sn_dx τ (sk_tr τ (i : Int) p (j : Int)) (τ 15 3 - 1).toNat = sn_dx σ (sk_tr σ (i : Int) p (j : Int)) (σ 15 3 - 1).toNat := by
            rw [hg 15 3 (by omega)]
            exact sn_dx_c (fun x => hg 13 x (by omega)) (fun x _ _ => sk_tr_t (fun y => hg 16 y (by omega)))
          rw [edx]
          refine sn_q_goto (t := 60) sn_bc_62 dX8_bestShift_56 rfl ?_
          refine sn_q_ist5 sn_bc_62 dX8_bestShift_60 rfl ?_
          refine sn_q_iload sn_bc_62 dX8_bestShift_62 rfl ?_
          refine sn_q_iloadn sn_bc_62 dX8_bestShift_64 rfl ?_
          refine sn_q_icge (t := 79) sn_bc_62 dX8_bestShift_65 rfl (fun c_65 => ?_) (fun c_65 => ?_)
          · refine sn_q_inc4 sn_bc_62 dX8_bestShift_79 rfl (by omega) (by omega) ?_
            refine sn_q_goto (t := 18) sn_bc_62 dX8_bestShift_82 rfl ?_
            first
              | exact ih (d - 1) (by omega) (j + 1) _ _ _ τ (by omega) hg hb hn
              | exact ih (d - 1) (by omega) (j + 1) _ _ _ ρ (by omega) (fun a c g => (hρ a c g).trans (hg a c g)) hb (fun z => absurd (z i (by omega) (by omega)) (by omega))
              | exact ih (d - 1) (by omega) (j + 1) _ _ _ ρ (by omega) (fun a c g => (hρ a c g).trans (hg a c g)) (Or.inr ⟨i, j, p, rfl, by omega, by omega, by omega, hhf, by omega, by omega, hp0, hpc, hps, rfl, by omega⟩) (fun z => absurd (z i (by omega) (by omega)) (by omega))
              | (exfalso; omega)
          · refine sn_q_iload sn_bc_62 dX8_bestShift_68 rfl ?_
            refine sn_q_istn2 sn_bc_62 dX8_bestShift_70 rfl ?_
            refine sn_q_bipush sn_bc_62 dX8_bestShift_71 rfl ?_
            refine sn_q_iloadn sn_bc_62 dX8_bestShift_73 rfl ?_
            refine sn_q_imul sn_bc_62 dX8_bestShift_74 (by omega) (by omega) ?_
            refine sn_q_iload sn_bc_62 dX8_bestShift_75 rfl ?_
            refine sn_q_iadd sn_bc_62 dX8_bestShift_77 (by omega) (by omega) ?_
            refine sn_q_istn1 sn_bc_62 dX8_bestShift_78 rfl ?_
            refine sn_q_inc4 sn_bc_62 dX8_bestShift_79 rfl (by omega) (by omega) ?_
            refine sn_q_goto (t := 18) sn_bc_62 dX8_bestShift_82 rfl ?_
            first
              | exact ih (d - 1) (by omega) (j + 1) _ _ _ τ (by omega) hg hb hn
              | exact ih (d - 1) (by omega) (j + 1) _ _ _ ρ (by omega) (fun a c g => (hρ a c g).trans (hg a c g)) hb (fun z => absurd (z i (by omega) (by omega)) (by omega))
              | exact ih (d - 1) (by omega) (j + 1) _ _ _ ρ (by omega) (fun a c g => (hρ a c g).trans (hg a c g)) (Or.inr ⟨i, j, p, rfl, by omega, by omega, by omega, hhf, by omega, by omega, hp0, hpc, hps, rfl, by omega⟩) (fun z => absurd (z i (by omega) (by omega)) (by omega))
              | (exfalso; omega)
        · refine sn_q_ifeq (t := 59) sn_bc_62 dX8_bestShift_46 rfl (fun _ => ?_) (fun c => absurd (by decide) c)
          refine sn_q_iloadn sn_bc_62 dX8_bestShift_59 rfl ?_
          refine sn_q_ist5 sn_bc_62 dX8_bestShift_60 rfl ?_
          refine sn_q_iload sn_bc_62 dX8_bestShift_62 rfl ?_
          refine sn_q_iloadn sn_bc_62 dX8_bestShift_64 rfl ?_
          refine sn_q_icge (t := 79) sn_bc_62 dX8_bestShift_65 rfl (fun c_65 => ?_) (fun c_65 => ?_)
          · refine sn_q_inc4 sn_bc_62 dX8_bestShift_79 rfl (by omega) (by omega) ?_
            refine sn_q_goto (t := 18) sn_bc_62 dX8_bestShift_82 rfl ?_
            first
              | exact ih (d - 1) (by omega) (j + 1) _ _ _ τ (by omega) hg hb hn
              | exact ih (d - 1) (by omega) (j + 1) _ _ _ ρ (by omega) (fun a c g => (hρ a c g).trans (hg a c g)) hb (fun z => absurd (z i (by omega) (by omega)) (by omega))
              | exact ih (d - 1) (by omega) (j + 1) _ _ _ ρ (by omega) (fun a c g => (hρ a c g).trans (hg a c g)) (Or.inr ⟨i, j, p, rfl, by omega, by omega, by omega, hhf, by omega, by omega, hp0, hpc, hps, rfl, by omega⟩) (fun z => absurd (z i (by omega) (by omega)) (by omega))
              | (exfalso; omega)
          · refine sn_q_iload sn_bc_62 dX8_bestShift_68 rfl ?_
            refine sn_q_istn2 sn_bc_62 dX8_bestShift_70 rfl ?_
            refine sn_q_bipush sn_bc_62 dX8_bestShift_71 rfl ?_
            refine sn_q_iloadn sn_bc_62 dX8_bestShift_73 rfl ?_
            refine sn_q_imul sn_bc_62 dX8_bestShift_74 (by omega) (by omega) ?_
            refine sn_q_iload sn_bc_62 dX8_bestShift_75 rfl ?_
            refine sn_q_iadd sn_bc_62 dX8_bestShift_77 (by omega) (by omega) ?_
            refine sn_q_istn1 sn_bc_62 dX8_bestShift_78 rfl ?_
            refine sn_q_inc4 sn_bc_62 dX8_bestShift_79 rfl (by omega) (by omega) ?_
            refine sn_q_goto (t := 18) sn_bc_62 dX8_bestShift_82 rfl ?_
            first
              | exact ih (d - 1) (by omega) (j + 1) _ _ _ τ (by omega) hg hb hn
              | exact ih (d - 1) (by omega) (j + 1) _ _ _ ρ (by omega) (fun a c g => (hρ a c g).trans (hg a c g)) hb (fun z => absurd (z i (by omega) (by omega)) (by omega))
              | exact ih (d - 1) (by omega) (j + 1) _ _ _ ρ (by omega) (fun a c g => (hρ a c g).trans (hg a c g)) (Or.inr ⟨i, j, p, rfl, by omega, by omega, by omega, hhf, by omega, by omega, hp0, hpc, hps, rfl, by omega⟩) (fun z => absurd (z i (by omega) (by omega)) (by omega))
              | (exfalso; omega)
  have outer : ∀ (d : Nat) (i : Nat) (b l : Int) (x u : sn_V) (τ : Int → Int → Int), i + d = 8 → (∀ a c, a ≠ 17 → τ a c = σ a c) → sk_bs σ b l → ((∀ s, 0 ≤ s → s < 8 → σ 10 s = 0) → b = -1 ∧ τ = σ) → sn_Wp 62 9 [sn_r 15, sn_i b, sn_i l, sn_i (i : Int), x, u] [] (sn_hh n k Y τ X) Q := by
    refine sn_ind (fun d ih => ?_)
    intro i b l x u τ hi hg hb hn
    refine sn_q_iloadn sn_bc_62 dX8_bestShift_9 rfl ?_
    refine sn_q_bipush sn_bc_62 dX8_bestShift_10 rfl ?_
    refine sn_q_icge (t := 91) sn_bc_62 dX8_bestShift_12 rfl (fun c_12 => ?_) (fun c_12 => ?_)
    · refine sn_q_iloadn sn_bc_62 dX8_bestShift_91 rfl ?_
      refine sn_q_iret sn_bc_62 dX8_bestShift_92 rfl ?_
      exact kk b l τ hg hb hn
    · refine sn_q_iconst sn_bc_62 dX8_bestShift_15 rfl ?_
      refine sn_q_ist4 sn_bc_62 dX8_bestShift_16 rfl ?_
      exact inner i (d - 1) (by omega) (fun b l x u τ g1 g2 g3 => ih (d - 1) (by omega) (i + 1) b l x u τ (by omega) g1 g2 g3) 8 0 b l _ τ rfl hg hb hn
  refine sn_q_iconst sn_bc_62 dX8_bestShift_0 rfl ?_
  refine sn_q_istn1 sn_bc_62 dX8_bestShift_1 rfl ?_
  refine sn_q_aloadn sn_bc_62 dX8_bestShift_2 rfl ?_
  refine sn_q_invV sn_bc_62 dX8_bestShift_3 sn_oc_62 sn_pv_8_46 (by decide) rfl (by decide) (sn_h1 (by decide)) rfl rfl rfl rfl (sp_delay h1 h2 hr hp9 ?_)
  refine sn_q_istn2 sn_bc_62 dX8_bestShift_6 rfl ?_
  refine sn_q_iconst sn_bc_62 dX8_bestShift_7 rfl ?_
  refine sn_q_istn3 sn_bc_62 dX8_bestShift_8 rfl ?_
  exact outer 8 0 _ _ _ _ σ rfl (fun _ _ _ => rfl) (Or.inl ⟨rfl, rfl⟩) (fun _ => ⟨rfl, rfl⟩)
/-- the ballot b of w holds all candidates, and no one else -/
def sk_fb (σ : Int → Int → Int) (w b : Int) : Prop := 0 ≤ σ 60 b ∧ σ 60 b ≤ 8 ∧ (∀ i, 0 ≤ i → i < σ 60 b → 0 ≤ σ (20 + b) i ∧ σ (20 + b) i < 8 ∧ sn_cd σ w (σ (20 + b) i)) ∧ ∀ x, 0 ≤ x → x < 8 → sn_cd σ w x → ∃ i, 0 ≤ i ∧ i < σ 60 b ∧ σ (20 + b) i = x
/-- i of the candidates of w are in the row R, the others in the row 62 -/
def sk_bl (σ τ : Int → Int → Int) (w R r i : Int) : Prop := (∀ a c, a ≠ 62 → a ≠ R → τ a c = σ a c) ∧ (∀ m, 0 ≤ m → m < r - i → 0 ≤ τ 62 m ∧ τ 62 m < 8 ∧ sn_cd σ w (τ 62 m)) ∧ (∀ m, 0 ≤ m → m < i → 0 ≤ τ R m ∧ τ R m < 8 ∧ sn_cd σ w (τ R m)) ∧ ∀ x, 0 ≤ x → x < 8 → sn_cd σ w x → (∃ m, 0 ≤ m ∧ m < i ∧ τ R m = x) ∨ ∃ m, 0 ≤ m ∧ m < r - i ∧ τ 62 m = x
def sk_fi (τ : Int → Int → Int) (R i pk l : Int) : Int → Int → Int := fun a c => if a = 62 ∧ pk ≤ c ∧ c < l then sn_s τ R i (τ 62 pk) 62 (c + 1) else sn_s τ R i (τ 62 pk) a c
theorem sk_bl_step {σ τ : Int → Int → Int} {w R r i pk : Int} (h : sk_bl σ τ w R r i) (h0 : 0 ≤ i) (hr : i < r) (hR : R ≠ 62) (p0 : 0 ≤ pk) (p1 : pk ≤ r - 1 - i) : sk_bl σ (sk_fi τ R i pk (r - 1 - i)) w R r (i + 1) := by
  obtain ⟨h1, h2, h3, h4⟩ := h
  have eR : ∀ m, m ≠ i → sk_fi τ R i pk (r - 1 - i) R m = τ R m := fun m g => by
    unfold sk_fi
    rw [if_neg (fun z => hR z.1), sn_s_j g]
  have eRi : sk_fi τ R i pk (r - 1 - i) R i = τ 62 pk := by
    unfold sk_fi
    rw [if_neg (fun z => hR z.1), sn_s_e]
  have eL : ∀ m, m < pk → sk_fi τ R i pk (r - 1 - i) 62 m = τ 62 m := fun m g => by
    unfold sk_fi
    rw [if_neg (by omega), sn_s_p (fun z => hR z.symm)]
  have eH : ∀ m, pk ≤ m → m < r - 1 - i → sk_fi τ R i pk (r - 1 - i) 62 m = τ 62 (m + 1) := fun m g g2 => by
    unfold sk_fi
    rw [if_pos ⟨rfl, g, g2⟩, sn_s_p (fun z => hR z.symm)]
  refine ⟨fun a c g1 g2 => ?_, fun m g1 g2 => ?_, fun m g1 g2 => ?_, fun x g1 g2 g3 => ?_⟩
  · unfold sk_fi
    rw [if_neg (fun z => g1 z.1), sn_s_p g2]
    exact h1 a c g1 g2
  · by_cases e : m < pk
    · rw [eL m e]; exact h2 m g1 (by omega)
    · rw [eH m (by omega) (by omega)]; exact h2 (m + 1) (by omega) (by omega)
  · by_cases e : m = i
    · rw [e, eRi]; exact h2 pk p0 (by omega)
    · rw [eR m e]; exact h3 m g1 (by omega)
  · rcases h4 x g1 g2 g3 with ⟨m, b1, b2, b3⟩ | ⟨m, b1, b2, b3⟩
    · exact Or.inl ⟨m, b1, by omega, by rw [eR m (by omega)]; exact b3⟩
    · rcases Int.lt_trichotomy m pk with e | e | e
      · exact Or.inr ⟨m, b1, by omega, by rw [eL m e]; exact b3⟩
      · exact Or.inl ⟨i, h0, by omega, by rw [eRi, ← e]; exact b3⟩
      · refine Or.inr ⟨m - 1, by omega, by omega, ?_⟩
        rw [eH (m - 1) (by omega) (by omega), show m - 1 + 1 = m by omega]
        exact b3
set_option maxHeartbeats 1000000 in
theorem sp_write {n k : Nat} {Y : Nat → Nat × Nat} {X : Nat → Nat → sn_V} {σ : Int → Int → Int} {Q : Option sn_V → sn_H → Prop} {w j nn : Int} (h1 : 0 ≤ w) (h2 : w < 8) (h3 : 0 ≤ j) (h4 : j < 5) (h5 : 0 ≤ nn) (h6 : nn ≤ 1000000) (kk : ∀ τ, (∀ a c, a ≠ 62 → a ≠ 20 + (w * 5 + j) → ¬ ((a = 60 ∨ a = 61) ∧ c = w * 5 + j) → τ a c = σ a c) → τ 61 (w * 5 + j) = 1 → sk_fb τ w (w * 5 + j) → Q none (sn_hh n k Y τ X)) : sn_Wp 74 0 [sn_r 18, sn_i w, sn_i j, sn_i nn, sn_u, sn_u, sn_u, sn_u, sn_u, sn_u, sn_u, sn_u] [] (sn_hh n k Y σ X) Q := by
  have main : ∀ (u0 : sn_V) (r : Int), 0 ≤ r → r ≤ 8 → ∀ (d : Nat) (i : Nat) (rest : Int) (u1 u2 u3 u4 : sn_V) (τ : Int → Int → Int), i + d = 8 → (i : Int) ≤ r → 0 ≤ rest → rest ≤ 1000000 → sk_bl σ τ w (20 + (w * 5 + j)) r i → sn_Wp 74 27 [sn_r 18, sn_i w, sn_i j, u0, sn_i (w * 5 + j), sn_i r, sn_i rest, sn_i (i : Int), u1, u2, u3, u4] [] (sn_hh n k Y τ X) Q := by
    intro u0 r hr0 hr8
    refine sn_ind (fun d ih => ?_)
    intro i rest u1 u2 u3 u4 τ hi hz hre1 hre2 hbl
    have hbl0 := hbl
    obtain ⟨hf, hleft, -, -⟩ := hbl0
    have shift : (i : Int) < r → ∀ (rest od : Int) (pk : Nat), 0 ≤ rest → rest ≤ 1000000 → (pk : Int) ≤ r - 1 - i → ∀ (e : Nat) (m : Nat), m + e = 8 → (pk : Int) ≤ m → (m : Int) ≤ r - 1 - i → sn_Wp 74 101 [sn_r 18, sn_i w, sn_i j, u0, sn_i (w * 5 + j), sn_i r, sn_i rest, sn_i (i : Int), sn_i (r - 1 - (i : Int)), sn_i od, sn_i (pk : Int), sn_i (m : Int)] [] (sn_hh n k Y (sk_fi τ (20 + (w * 5 + j)) i pk m) X) Q := by
      intro hir rest od pk hre1 hre2 hpk
      refine sn_ind (fun e ihe => ?_)
      intro m hm hpm hml
      refine sn_q_iload sn_bc_74 dX0_write_101 rfl ?_
      refine sn_q_iload sn_bc_74 dX0_write_103 rfl ?_
      refine sn_q_icge (t := 130) sn_bc_74 dX0_write_105 rfl (fun c_105 => ?_) (fun c_105 => ?_)
      · refine sn_q_inc7 sn_bc_74 dX0_write_130 rfl (by omega) (by omega) ?_
        refine sn_q_goto (t := 27) sn_bc_74 dX0_write_133 rfl ?_
        obtain e9 : (m : Int) = r - 1 - i := by omega
        rw [e9]
        exact ih (d - 1) (by omega) (i + 1) _ _ _ _ _ _ (by omega) (by omega) hre1 hre2 (sk_bl_step hbl (by omega) hir (by omega) (by omega) hpk)
      · refine sn_q_aloadn sn_bc_74 dX0_write_108 rfl ?_
        refine sn_q_getr (v := 62) sn_bc_74 dX0_write_109 sn_oc_74 sn_pf_0_24 (by decide) rfl rfl (by decide) ?_
        refine sn_q_iload sn_bc_74 dX0_write_112 rfl ?_
        refine sn_q_aloadn sn_bc_74 dX0_write_114 rfl ?_
        refine sn_q_getr (v := 62) sn_bc_74 dX0_write_115 sn_oc_74 sn_pf_0_24 (by decide) rfl rfl (by decide) ?_
        refine sn_q_iload sn_bc_74 dX0_write_118 rfl ?_
        refine sn_q_iconst sn_bc_74 dX0_write_120 rfl ?_
        refine sn_q_iadd sn_bc_74 dX0_write_121 (by omega) (by omega) ?_
        refine sn_q_iald (P := 62) sn_bc_74 dX0_write_122 sn_a62 rfl (by omega) (by omega) ?_
        rw [show sk_fi τ (20 + (w * 5 + j)) i pk m 62 ((m : Int) + 1) = sn_s τ (20 + (w * 5 + j)) i (τ 62 pk) 62 ((m : Int) + 1) from if_neg (by omega)]
        refine sn_q_iast (P := 62) sn_bc_74 dX0_write_123 sn_a62 rfl (by omega) (by omega) ?_
        refine sn_q_inc11 sn_bc_74 dX0_write_124 rfl (by omega) (by omega) ?_
        refine sn_q_goto (t := 101) sn_bc_74 dX0_write_127 rfl ?_
        refine sn_sg (σ' := sk_fi τ (20 + (w * 5 + j)) i pk ((m + 1 : Nat) : Int)) (by funext a b; unfold sk_fi; (try simp only [sn_s]); (repeat' split) <;> first | rfl | omega | (congr 1 <;> omega)) ?_
        exact ihe (e - 1) (by omega) (m + 1) (by omega) (by omega) (by omega)
    have pick : (i : Int) < r → ∀ (od : Int), 1 ≤ od → od ≤ 40320 → ∀ (e : Nat) (pk : Nat) (rest : Int), pk + e = 8 → 0 ≤ rest → rest ≤ 1000000 → (pk : Int) ≤ r - 1 - i → sn_Wp 74 53 [sn_r 18, sn_i w, sn_i j, u0, sn_i (w * 5 + j), sn_i r, sn_i rest, sn_i (i : Int), sn_i (r - 1 - (i : Int)), sn_i od, sn_i (pk : Int), u4] [] (sn_hh n k Y τ X) Q := by
      intro hir od od1 od2
      refine sn_ind (fun e ihe => ?_)
      intro pk rest hm hre1 hre2 hpk
      refine sn_q_iload sn_bc_74 dX0_write_53 rfl ?_
      refine sn_q_iload sn_bc_74 dX0_write_55 rfl ?_
      refine sn_q_icge (t := 80) sn_bc_74 dX0_write_57 rfl (fun c_57 => ?_) (fun c_57 => ?_)
      · refine sn_q_aloadn sn_bc_74 dX0_write_80 rfl ?_
        refine sn_q_getr (v := 19) sn_bc_74 dX0_write_81 sn_oc_74 sn_pf_0_11 (by decide) rfl rfl (by decide) ?_
        refine sn_q_iload sn_bc_74 dX0_write_84 rfl ?_
        refine sn_q_aald sn_bc_74 dX0_write_86 sn_a19 (by omega) (by omega) ?_
        refine sn_q_iload sn_bc_74 dX0_write_87 rfl ?_
        refine sn_q_aloadn sn_bc_74 dX0_write_89 rfl ?_
        refine sn_q_getr (v := 62) sn_bc_74 dX0_write_90 sn_oc_74 sn_pf_0_24 (by decide) rfl rfl (by decide) ?_
        refine sn_q_iload sn_bc_74 dX0_write_93 rfl ?_
        refine sn_q_iald (P := 62) sn_bc_74 dX0_write_95 sn_a62 rfl (by omega) (by omega) ?_
        refine sn_q_iast sn_bc_74 dX0_write_96 (sn_b19 (by omega) (by omega)) (sn_p19 (by omega)) (by omega) (by omega) ?_
        refine sn_q_iload sn_bc_74 dX0_write_97 rfl ?_
        refine sn_q_ist11 sn_bc_74 dX0_write_99 rfl ?_
        refine sn_sg (σ' := sk_fi τ (20 + (w * 5 + j)) i pk pk) (by funext a b; unfold sk_fi; rw [if_neg (by omega)]) ?_
        exact shift hir _ _ pk hre1 hre2 hpk (8 - pk) pk (by omega) (by omega) hpk
      · refine sn_q_iload sn_bc_74 dX0_write_60 rfl ?_
        refine sn_q_iload sn_bc_74 dX0_write_62 rfl ?_
        refine sn_q_iclt (t := 80) sn_bc_74 dX0_write_64 rfl (fun c_64 => ?_) (fun c_64 => ?_)
        · refine sn_q_aloadn sn_bc_74 dX0_write_80 rfl ?_
          refine sn_q_getr (v := 19) sn_bc_74 dX0_write_81 sn_oc_74 sn_pf_0_11 (by decide) rfl rfl (by decide) ?_
          refine sn_q_iload sn_bc_74 dX0_write_84 rfl ?_
          refine sn_q_aald sn_bc_74 dX0_write_86 sn_a19 (by omega) (by omega) ?_
          refine sn_q_iload sn_bc_74 dX0_write_87 rfl ?_
          refine sn_q_aloadn sn_bc_74 dX0_write_89 rfl ?_
          refine sn_q_getr (v := 62) sn_bc_74 dX0_write_90 sn_oc_74 sn_pf_0_24 (by decide) rfl rfl (by decide) ?_
          refine sn_q_iload sn_bc_74 dX0_write_93 rfl ?_
          refine sn_q_iald (P := 62) sn_bc_74 dX0_write_95 sn_a62 rfl (by omega) (by omega) ?_
          refine sn_q_iast sn_bc_74 dX0_write_96 (sn_b19 (by omega) (by omega)) (sn_p19 (by omega)) (by omega) (by omega) ?_
          refine sn_q_iload sn_bc_74 dX0_write_97 rfl ?_
          refine sn_q_ist11 sn_bc_74 dX0_write_99 rfl ?_
          refine sn_sg (σ' := sk_fi τ (20 + (w * 5 + j)) i pk pk) (by funext a b; unfold sk_fi; rw [if_neg (by omega)]) ?_
          exact shift hir _ _ pk hre1 hre2 hpk (8 - pk) pk (by omega) (by omega) hpk
        · refine sn_q_iload sn_bc_74 dX0_write_67 rfl ?_
          refine sn_q_iload sn_bc_74 dX0_write_69 rfl ?_
          refine sn_q_isub sn_bc_74 dX0_write_71 (by omega) (by omega) ?_
          refine sn_q_ist6 sn_bc_74 dX0_write_72 rfl ?_
          refine sn_q_inc10 sn_bc_74 dX0_write_74 rfl (by omega) (by omega) ?_
          refine sn_q_goto (t := 53) sn_bc_74 dX0_write_77 rfl ?_
          exact ihe (e - 1) (by omega) (pk + 1) _ (by omega) (by omega) (by omega) (by omega)
    refine sn_q_iload sn_bc_74 dX0_write_27 rfl ?_
    refine sn_q_iload sn_bc_74 dX0_write_29 rfl ?_
    refine sn_q_icge (t := 136) sn_bc_74 dX0_write_31 rfl (fun c_31 => ?_) (fun c_31 => ?_)
    · refine sn_q_aloadn sn_bc_74 dX0_write_136 rfl ?_
      refine sn_q_getr (v := 60) sn_bc_74 dX0_write_137 sn_oc_74 sn_pf_0_16 (by decide) rfl rfl (by decide) ?_
      refine sn_q_iload sn_bc_74 dX0_write_140 rfl ?_
      refine sn_q_iload sn_bc_74 dX0_write_142 rfl ?_
      refine sn_q_iast (P := 60) sn_bc_74 dX0_write_144 sn_a60 rfl (by omega) (by omega) ?_
      refine sn_q_aloadn sn_bc_74 dX0_write_145 rfl ?_
      refine sn_q_getr (v := 61) sn_bc_74 dX0_write_146 sn_oc_74 sn_pf_0_20 (by decide) rfl rfl (by decide) ?_
      refine sn_q_iload sn_bc_74 dX0_write_149 rfl ?_
      refine sn_q_iconst sn_bc_74 dX0_write_151 rfl ?_
      refine sn_q_bast (P := 61) sn_bc_74 dX0_write_152 sn_a61 rfl (by omega) (by omega) (by omega) ?_
      refine sn_q_vret sn_bc_74 dX0_write_153 rfl ?_
      obtain e9 : (i : Int) = r := by omega
      rw [e9] at hbl
      obtain ⟨b1, b2, b3, b4⟩ := hbl
      have q : ∀ a c, a ≠ 60 → a ≠ 61 → sn_s (sn_s τ 60 (w * 5 + j) r) 61 (w * 5 + j) 1 a c = τ a c := fun a c g1 g2 => by rw [sn_s_p g2, sn_s_p g1]
      have q60 : sn_s (sn_s τ 60 (w * 5 + j) r) 61 (w * 5 + j) 1 60 (w * 5 + j) = r := by rw [sn_s_p (by omega), sn_s_e]
      have qc : ∀ x, sn_cd (sn_s (sn_s τ 60 (w * 5 + j) r) 61 (w * 5 + j) 1) w x ↔ sn_cd σ w x := fun x => sn_cd_t ((q 10 x (by omega) (by omega)).trans (b1 10 x (by omega) (by omega))) ((q 11 x (by omega) (by omega)).trans (b1 11 x (by omega) (by omega)))
      refine kk _ (fun a c g1 g2 g3 => ?_) (by rw [sn_s_e]) ?_
      · unfold sn_s; rw [if_neg (by omega), if_neg (by omega)]; exact b1 a c g1 g2
      · unfold sk_fb
        rw [q60]
        refine ⟨hr0, hr8, fun m g1 g2 => ?_, fun x g1 g2 g3 => ?_⟩
        · rw [q _ _ (by omega) (by omega), qc]; exact b3 m g1 g2
        · rcases b4 x g1 g2 ((qc x).mp g3) with ⟨m, c1, c2, c3⟩ | ⟨m, c1, c2, c3⟩
          · exact ⟨m, c1, c2, by rw [q _ _ (by omega) (by omega)]; exact c3⟩
          · omega
    · refine sn_q_iload sn_bc_74 dX0_write_34 rfl ?_
      refine sn_q_iconst sn_bc_74 dX0_write_36 rfl ?_
      refine sn_q_isub sn_bc_74 dX0_write_37 (by omega) (by omega) ?_
      refine sn_q_iload sn_bc_74 dX0_write_38 rfl ?_
      refine sn_q_isub sn_bc_74 dX0_write_40 (by omega) (by omega) ?_
      refine sn_q_ist8 sn_bc_74 dX0_write_41 rfl ?_
      refine sn_q_iload sn_bc_74 dX0_write_43 rfl ?_
      refine sn_q_invS sn_bc_74 dX0_write_45 sn_oc_74 sn_px_0_41 sn_ps_0_41 (by decide) rfl rfl rfl (sp_ordersOf (by omega) (by omega) (fun od od1 od2 _ => ?_))
      refine sn_q_ist9 sn_bc_74 dX0_write_48 rfl ?_
      refine sn_q_iconst sn_bc_74 dX0_write_50 rfl ?_
      refine sn_q_ist10 sn_bc_74 dX0_write_51 rfl ?_
      exact pick (by omega) od od1 od2 8 0 _ rfl hre1 hre2 (by omega)
  refine sn_q_iloadn sn_bc_74 dX0_write_0 rfl ?_
  refine sn_q_iloadn sn_bc_74 dX0_write_1 rfl ?_
  refine sn_q_invS sn_bc_74 dX0_write_2 sn_oc_74 sn_px_0_31 sn_ps_0_31 (by decide) rfl rfl rfl (sp_numberOf (by omega) (by omega) (by omega) (by omega) ?_)
  refine sn_q_ist4 sn_bc_74 dX0_write_5 rfl ?_
  refine sn_q_aloadn sn_bc_74 dX0_write_7 rfl ?_
  refine sn_q_getr (v := 9) sn_bc_74 dX0_write_8 sn_oc_74 sn_pf_0_27 (by decide) rfl rfl (by decide) ?_
  refine sn_q_iloadn sn_bc_74 dX0_write_11 rfl ?_
  refine sn_q_aloadn sn_bc_74 dX0_write_12 rfl ?_
  refine sn_q_getr (v := 62) sn_bc_74 dX0_write_13 sn_oc_74 sn_pf_0_24 (by decide) rfl rfl (by decide) ?_
  refine sn_q_invV sn_bc_74 dX0_write_16 sn_oc_74 sn_pv_0_35 (by decide) rfl (by decide) (sn_h1 (by decide)) rfl rfl rfl rfl (sp_writeCandidates (P := 62) sn_a62 rfl (by omega) (by omega) (fun r τ hc => ?_))
  refine sn_q_ist5 sn_bc_74 dX0_write_19 rfl ?_
  refine sn_q_iloadn sn_bc_74 dX0_write_21 rfl ?_
  refine sn_q_ist6 sn_bc_74 dX0_write_22 rfl ?_
  refine sn_q_iconst sn_bc_74 dX0_write_24 rfl ?_
  refine sn_q_ist7 sn_bc_74 dX0_write_25 rfl ?_
  exact main _ r hc.1 hc.2.1 8 0 nn _ _ _ _ τ rfl hc.1 h5 h6 ⟨fun a c g1 g2 => hc.2.2.1 a c (Or.inl g1), fun m a1 a2 => by have := hc.2.2.2.1 m a1 (by omega); exact this, fun m a1 a2 => by omega, fun x a1 a2 a3 => by obtain ⟨m, b1, b2, b3⟩ := hc.2.2.2.2.1 x a1 a2 a3; exact Or.inr ⟨m, b1, by omega, b3⟩⟩
/-- the row of the ballot b without s -/
def sk_to (σ τ : Int → Int → Int) (s b : Int) : Prop := 0 ≤ τ 60 b ∧ τ 60 b ≤ σ 60 b ∧ (∀ m, 0 ≤ m → m < τ 60 b → τ (20 + b) m ≠ s ∧ ∃ m', 0 ≤ m' ∧ m' < σ 60 b ∧ τ (20 + b) m = σ (20 + b) m') ∧ ∀ m', 0 ≤ m' → m' < σ 60 b → σ (20 + b) m' ≠ s → ∃ m, 0 ≤ m ∧ m < τ 60 b ∧ τ (20 + b) m = σ (20 + b) m'
def sk_kp (σ τ : Int → Int → Int) (s R m κ : Int) : Prop := (∀ a c, a ≠ R → τ a c = σ a c) ∧ (∀ x, 0 ≤ x → x < κ → τ R x ≠ s ∧ ∃ m', 0 ≤ m' ∧ m' < m ∧ τ R x = σ R m') ∧ (∀ m', 0 ≤ m' → m' < m → σ R m' ≠ s → ∃ x, 0 ≤ x ∧ x < κ ∧ τ R x = σ R m') ∧ ∀ x, m ≤ x → τ R x = σ R x
theorem sk_kp_no {σ τ : Int → Int → Int} {s R m κ : Int} (h : sk_kp σ τ s R m κ) (e : σ R m = s) : sk_kp σ τ s R (m + 1) κ := by
  obtain ⟨h1, h2, h3, h4⟩ := h
  refine ⟨h1, fun x a1 a2 => ?_, fun m' a1 a2 a3 => ?_, fun x a1 => h4 x (by omega)⟩
  · obtain ⟨b1, m', b2, b3, b4⟩ := h2 x a1 a2
    exact ⟨b1, m', b2, by omega, b4⟩
  · by_cases g : m' = m
    · rw [g] at a3; exact absurd e a3
    · exact h3 m' a1 (by omega) a3
theorem sk_kp_yes {σ τ : Int → Int → Int} {s R m κ : Int} (h : sk_kp σ τ s R m κ) (h0 : 0 ≤ κ) (hk : κ ≤ m) (e : σ R m ≠ s) : sk_kp σ (sn_s τ R κ (σ R m)) s R (m + 1) (κ + 1) := by
  obtain ⟨h1, h2, h3, h4⟩ := h
  refine ⟨fun a c g => (sn_s_p g).trans (h1 a c g), fun x a1 a2 => ?_, fun m' a1 a2 a3 => ?_, fun x a1 => ?_⟩
  · by_cases g : x = κ
    · rw [g, sn_s_e]; exact ⟨e, m, by omega, by omega, rfl⟩
    · rw [sn_s_j g]
      obtain ⟨b1, m', b2, b3, b4⟩ := h2 x a1 (by omega)
      exact ⟨b1, m', b2, by omega, b4⟩
  · by_cases g : m' = m
    · exact ⟨κ, h0, by omega, by rw [sn_s_e, g]⟩
    · obtain ⟨x, b1, b2, b3⟩ := h3 m' a1 (by omega) a3
      exact ⟨x, b1, by omega, by rw [sn_s_j (by omega)]; exact b3⟩
  · rw [sn_s_j (by omega)]; exact h4 x (by omega)
theorem sp_takeOut {n k : Nat} {Y : Nat → Nat × Nat} {X : Nat → Nat → sn_V} {σ : Int → Int → Int} {Q : Option sn_V → sn_H → Prop} {s : Int} (hsz : ∀ b, 0 ≤ b → b < 40 → 0 ≤ σ 60 b ∧ σ 60 b ≤ 8) (kk : ∀ τ, (∀ a c, ¬ (20 ≤ a ∧ a < 60) → a ≠ 60 → τ a c = σ a c) → (∀ b, 0 ≤ b → b < 40 → sk_to σ τ s b) → Q none (sn_hh n k Y τ X)) : sn_Wp 85 0 [sn_r 18, sn_i s, sn_u, sn_u, sn_u] [] (sn_hh n k Y σ X) Q := by
  have outer : ∀ (d : Nat) (i : Nat) (u1 u2 : sn_V) (τ : Int → Int → Int), i + d = 40 → (∀ a c, ¬ (20 ≤ a ∧ a < 20 + (i : Int)) → ¬ (a = 60 ∧ c < (i : Int)) → τ a c = σ a c) → (∀ b, 0 ≤ b → b < (i : Int) → sk_to σ τ s b) → sn_Wp 85 2 [sn_r 18, sn_i s, sn_i (i : Int), u1, u2] [] (sn_hh n k Y τ X) Q := by
    refine sn_ind (fun d ih => ?_)
    intro i u1 u2 ω hi hg ht
    have e60 := hg 60 i (by omega) (by omega)
    have eR : (i : Int) < 40 → ∀ x, ω (20 + (i : Int)) x = σ (20 + (i : Int)) x := fun hi40 x => hg _ x (by omega) (by omega)
    have inner : (i : Int) < 40 → ∀ (e : Nat) (m : Nat) (κ : Int) (τ : Int → Int → Int), m + e = 8 → (m : Int) ≤ σ 60 i → 0 ≤ κ → κ ≤ (m : Int) → sk_kp ω τ s (20 + (i : Int)) m κ → sn_Wp 85 13 [sn_r 18, sn_i s, sn_i (i : Int), sn_i κ, sn_i (m : Int)] [] (sn_hh n k Y τ X) Q := by
      intro hi40
      have eR := eR hi40
      refine sn_ind (fun e ihe => ?_)
      intro m κ τ hm hz hκ0 hκ hkp
      have hs8 := hsz i (by omega) (by omega)
      have t60 := hkp.1 60 i (by omega)
      have tR := hkp.2.2.2 m (by omega)
      refine sn_q_iload sn_bc_85 dX0_takeOut_13 rfl ?_
      refine sn_q_aloadn sn_bc_85 dX0_takeOut_15 rfl ?_
      refine sn_q_getr (v := 60) sn_bc_85 dX0_takeOut_16 sn_oc_85 sn_pf_0_16 (by decide) rfl rfl (by decide) ?_
      refine sn_q_iloadn sn_bc_85 dX0_takeOut_19 rfl ?_
      refine sn_q_iald (P := 60) sn_bc_85 dX0_takeOut_20 sn_a60 rfl (by omega) (by omega) ?_
      rw [t60, e60]
      refine sn_q_icge (t := 63) sn_bc_85 dX0_takeOut_21 rfl (fun c_21 => ?_) (fun c_21 => ?_)
      · refine sn_q_aloadn sn_bc_85 dX0_takeOut_63 rfl ?_
        refine sn_q_getr (v := 60) sn_bc_85 dX0_takeOut_64 sn_oc_85 sn_pf_0_16 (by decide) rfl rfl (by decide) ?_
        refine sn_q_iloadn sn_bc_85 dX0_takeOut_67 rfl ?_
        refine sn_q_iloadn sn_bc_85 dX0_takeOut_68 rfl ?_
        refine sn_q_iast (P := 60) sn_bc_85 dX0_takeOut_69 sn_a60 rfl (by omega) (by omega) ?_
        refine sn_q_inc2 sn_bc_85 dX0_takeOut_70 rfl (by omega) (by omega) ?_
        refine sn_q_goto (t := 2) sn_bc_85 dX0_takeOut_73 rfl ?_
        obtain e9 : (m : Int) = σ 60 i := by omega
        rw [e9] at hkp
        obtain ⟨b1, b2, b3, b4⟩ := hkp
        have q : ∀ a c, ¬ (20 ≤ a ∧ a < 20 + ((i + 1 : Nat) : Int)) → ¬ (a = 60 ∧ c < ((i + 1 : Nat) : Int)) → sn_s τ 60 i κ a c = σ a c := fun a c g1 g2 => by
          unfold sn_s
          rw [if_neg (by omega), b1 a c (by omega)]
          exact hg a c (by omega) (by omega)
        refine ih (d - 1) (by omega) (i + 1) _ _ _ (by omega) q (fun b a1 a2 => ?_)
        by_cases e8 : b = (i : Int)
        · unfold sk_to
          rw [e8, sn_s_e]
          refine ⟨hκ0, by omega, fun x g1 g2 => ?_, fun m' g1 g2 g3 => ?_⟩
          · rw [sn_s_p (by omega)]
            obtain ⟨c1, m', c2, c3, c4⟩ := b2 x g1 g2
            exact ⟨c1, m', c2, c3, by rw [c4, eR]⟩
          · obtain ⟨x, c1, c2, c3⟩ := b3 m' g1 g2 (by rw [eR]; exact g3)
            exact ⟨x, c1, c2, by rw [sn_s_p (by omega), c3, eR]⟩
        · have hb := ht b a1 (by omega)
          unfold sk_to at hb ⊢
          rw [sn_s_j (by omega), b1 60 b (by omega)]
          have e20 : ∀ x, sn_s τ 60 i κ (20 + b) x = ω (20 + b) x := fun x => by rw [sn_s_p (by omega), b1 _ _ (by omega)]
          simp only [e20]
          exact hb
      · refine sn_q_aloadn sn_bc_85 dX0_takeOut_24 rfl ?_
        refine sn_q_getr (v := 19) sn_bc_85 dX0_takeOut_25 sn_oc_85 sn_pf_0_11 (by decide) rfl rfl (by decide) ?_
        refine sn_q_iloadn sn_bc_85 dX0_takeOut_28 rfl ?_
        refine sn_q_aald sn_bc_85 dX0_takeOut_29 sn_a19 (by omega) (by omega) ?_
        refine sn_q_iload sn_bc_85 dX0_takeOut_30 rfl ?_
        refine sn_q_iald sn_bc_85 dX0_takeOut_32 (sn_b19 (by omega) (by omega)) (sn_p19 (by omega)) (by omega) (by omega) ?_
        rw [tR]
        refine sn_q_iloadn sn_bc_85 dX0_takeOut_33 rfl ?_
        refine sn_q_iceq (t := 57) sn_bc_85 dX0_takeOut_34 rfl (fun c_34 => ?_) (fun c_34 => ?_)
        · refine sn_q_inc4 sn_bc_85 dX0_takeOut_57 rfl (by omega) (by omega) ?_
          refine sn_q_goto (t := 13) sn_bc_85 dX0_takeOut_60 rfl ?_
          first
            | exact ihe (e - 1) (by omega) (m + 1) _ _ (by omega) (by omega) hκ0 (by omega) (sk_kp_no hkp c_34)
            | exact ihe (e - 1) (by omega) (m + 1) _ _ (by omega) (by omega) (by omega) (by omega) (sk_kp_yes hkp hκ0 hκ c_34)
        · refine sn_q_aloadn sn_bc_85 dX0_takeOut_37 rfl ?_
          refine sn_q_getr (v := 19) sn_bc_85 dX0_takeOut_38 sn_oc_85 sn_pf_0_11 (by decide) rfl rfl (by decide) ?_
          refine sn_q_iloadn sn_bc_85 dX0_takeOut_41 rfl ?_
          refine sn_q_aald sn_bc_85 dX0_takeOut_42 sn_a19 (by omega) (by omega) ?_
          refine sn_q_iloadn sn_bc_85 dX0_takeOut_43 rfl ?_
          refine sn_q_aloadn sn_bc_85 dX0_takeOut_44 rfl ?_
          refine sn_q_getr (v := 19) sn_bc_85 dX0_takeOut_45 sn_oc_85 sn_pf_0_11 (by decide) rfl rfl (by decide) ?_
          refine sn_q_iloadn sn_bc_85 dX0_takeOut_48 rfl ?_
          refine sn_q_aald sn_bc_85 dX0_takeOut_49 sn_a19 (by omega) (by omega) ?_
          refine sn_q_iload sn_bc_85 dX0_takeOut_50 rfl ?_
          refine sn_q_iald sn_bc_85 dX0_takeOut_52 (sn_b19 (by omega) (by omega)) (sn_p19 (by omega)) (by omega) (by omega) ?_
          rw [tR]
          refine sn_q_iast sn_bc_85 dX0_takeOut_53 (sn_b19 (by omega) (by omega)) (sn_p19 (by omega)) (by omega) (by omega) ?_
          refine sn_q_inc3 sn_bc_85 dX0_takeOut_54 rfl (by omega) (by omega) ?_
          refine sn_q_inc4 sn_bc_85 dX0_takeOut_57 rfl (by omega) (by omega) ?_
          refine sn_q_goto (t := 13) sn_bc_85 dX0_takeOut_60 rfl ?_
          first
            | exact ihe (e - 1) (by omega) (m + 1) _ _ (by omega) (by omega) hκ0 (by omega) (sk_kp_no hkp c_34)
            | exact ihe (e - 1) (by omega) (m + 1) _ _ (by omega) (by omega) (by omega) (by omega) (sk_kp_yes hkp hκ0 hκ c_34)
    refine sn_q_iloadn sn_bc_85 dX0_takeOut_2 rfl ?_
    refine sn_q_bipush sn_bc_85 dX0_takeOut_3 rfl ?_
    refine sn_q_icge (t := 76) sn_bc_85 dX0_takeOut_5 rfl (fun c_5 => ?_) (fun c_5 => ?_)
    · refine sn_q_vret sn_bc_85 dX0_takeOut_76 rfl ?_
      exact kk ω (fun a c g1 g2 => hg a c (by omega) (by omega)) (fun b a1 a2 => ht b a1 (by omega))
    · refine sn_q_iconst sn_bc_85 dX0_takeOut_8 rfl ?_
      refine sn_q_istn3 sn_bc_85 dX0_takeOut_9 rfl ?_
      refine sn_q_iconst sn_bc_85 dX0_takeOut_10 rfl ?_
      refine sn_q_ist4 sn_bc_85 dX0_takeOut_11 rfl ?_
      have hs8 := hsz i (by omega) (by omega)
      exact inner (by omega) 8 0 0 ω rfl (by omega) (by omega) (by omega) ⟨fun _ _ _ => rfl, fun x a1 a2 => by omega, fun m' a1 a2 => by omega, fun _ _ => rfl⟩
  refine sn_q_iconst sn_bc_85 dX0_takeOut_0 rfl ?_
  refine sn_q_istn2 sn_bc_85 dX0_takeOut_1 rfl ?_
  exact outer 40 0 _ _ σ rfl (fun _ _ _ _ => rfl) (fun b a1 a2 => by omega)
