/-! the stage -/
/-- the delay of the row f, over m neighbours -/
def sn_dx (σ : Int → Int → Int) (f : Int → Int) (m : Nat) : Int := sn_sum (fun i => if 0 < σ 13 (f i) + σ 13 (f (i + 1)) - 6 then σ 13 (f i) + σ 13 (f (i + 1)) - 6 else 0) m
theorem sn_dx_c {σ τ : Int → Int → Int} {f g : Int → Int} {m : Nat} (e : ∀ x, τ 13 x = σ 13 x) (h : ∀ i, 0 ≤ i → i ≤ (m : Int) → g i = f i) : sn_dx τ g m = sn_dx σ f m := sn_sum_c m (fun i hi => by
  rw [e, e, h i (by omega) (by omega), h (i + 1) (by omega) (by omega)])
def sn_p9 (σ : Int → Int → Int) : Prop := ∀ s, 0 ≤ s → s < 8 → 0 ≤ σ 13 s ∧ σ 13 s ≤ 9
theorem sp_delayOf {n k : Nat} {Y : Nat → Nat × Nat} {X : Nat → Nat → sn_V} {σ : Int → Int → Int} {Q : Option sn_V → sn_H → Prop} {q : Nat} {P : Int} (ha : sn_ai q 8) (hP : (q : Int) = P) (h1 : 0 ≤ σ 15 3) (h2 : σ 15 3 ≤ 8) (hr : ∀ i, 0 ≤ i → i < σ 15 3 → 0 ≤ σ P i ∧ σ P i < 8) (hp9 : sn_p9 σ) (kk : Q (some (sn_i (sn_dx σ (σ P) (σ 15 3 - 1).toNat))) (sn_hh n k Y σ X)) : sn_Wp 57 0 [sn_r 15, sn_r q, sn_u, sn_u, sn_u] [] (sn_hh n k Y σ X) Q := by
  have loop : ∀ (d : Nat) (m : Nat) (u : sn_V), m + d = 7 → ((m : Int) + 1 ≤ σ 15 3 ∨ m = 0) → sn_Wp 57 4 [sn_r 15, sn_r q, sn_i (sn_dx σ (σ P) m), sn_i ((m : Int) + 1), u] [] (sn_hh n k Y σ X) Q := by
    refine sn_ind (fun d ih => ?_)
    intro m u hi hz
    have hb := fun g : (m : Int) + 1 ≤ σ 15 3 => sn_sum_b (f := fun i => if 0 < σ 13 (σ P i) + σ 13 (σ P (i + 1)) - 6 then σ 13 (σ P i) + σ 13 (σ P (i + 1)) - 6 else 0) (B := 12) m (fun j g2 => by
      have r1 := hr j (by omega) (by omega)
      have r2 := hr (j + 1) (by omega) (by omega)
      have q1 := hp9 _ r1.1 r1.2
      have q2 := hp9 _ r2.1 r2.2
      (try dsimp only)
      split <;> omega)
    refine sn_q_iloadn sn_bc_57 dX8_delayOf_4 rfl ?_
    refine sn_q_aloadn sn_bc_57 dX8_delayOf_5 rfl ?_
    refine sn_q_geti (P := 15) (J := 3) sn_bc_57 dX8_delayOf_6 sn_oc_57 sn_pf_8_18 (by decide) rfl rfl rfl rfl ?_
    refine sn_q_icge (t := 57) sn_bc_57 dX8_delayOf_9 rfl (fun c_9 => ?_) (fun c_9 => ?_)
    · refine sn_q_iloadn sn_bc_57 dX8_delayOf_57 rfl ?_
      refine sn_q_iret sn_bc_57 dX8_delayOf_58 rfl ?_
      obtain e : (σ 15 3 - 1).toNat = m := by omega
      rw [e] at kk
      exact kk
    · have hb' := hb (by omega)
      have hb2 : 0 ≤ sn_dx σ (σ P) m ∧ sn_dx σ (σ P) m ≤ (m : Int) * 12 := hb'
      have r1 := hr m (by omega) (by omega)
      have r2 := hr ((m : Int) + 1) (by omega) (by omega)
      have q1 := hp9 _ r1.1 r1.2
      have q2 := hp9 _ r2.1 r2.2
      refine sn_q_aloadn sn_bc_57 dX8_delayOf_12 rfl ?_
      refine sn_q_getr (v := 9) sn_bc_57 dX8_delayOf_13 sn_oc_57 sn_pf_8_25 (by decide) rfl rfl (by decide) ?_
      refine sn_q_getr (v := 13) sn_bc_57 dX8_delayOf_16 sn_oc_57 sn_pf_8_62 (by decide) rfl rfl (by decide) ?_
      refine sn_q_aloadn sn_bc_57 dX8_delayOf_19 rfl ?_
      refine sn_q_iloadn sn_bc_57 dX8_delayOf_20 rfl ?_
      refine sn_q_iconst sn_bc_57 dX8_delayOf_21 rfl ?_
      refine sn_q_isub sn_bc_57 dX8_delayOf_22 (by omega) (by omega) ?_
      rw [show (m : Int) + 1 - 1 = (m : Int) from by omega]
      refine sn_q_iald sn_bc_57 dX8_delayOf_23 ha hP (by omega) (by omega) ?_
      refine sn_q_iald (P := 13) sn_bc_57 dX8_delayOf_24 sn_a13 rfl (by omega) (by omega) ?_
      refine sn_q_aloadn sn_bc_57 dX8_delayOf_25 rfl ?_
      refine sn_q_getr (v := 9) sn_bc_57 dX8_delayOf_26 sn_oc_57 sn_pf_8_25 (by decide) rfl rfl (by decide) ?_
      refine sn_q_getr (v := 13) sn_bc_57 dX8_delayOf_29 sn_oc_57 sn_pf_8_62 (by decide) rfl rfl (by decide) ?_
      refine sn_q_aloadn sn_bc_57 dX8_delayOf_32 rfl ?_
      refine sn_q_iloadn sn_bc_57 dX8_delayOf_33 rfl ?_
      refine sn_q_iald sn_bc_57 dX8_delayOf_34 ha hP (by omega) (by omega) ?_
      refine sn_q_iald (P := 13) sn_bc_57 dX8_delayOf_35 sn_a13 rfl (by omega) (by omega) ?_
      refine sn_q_iadd sn_bc_57 dX8_delayOf_36 (by omega) (by omega) ?_
      refine sn_q_ist4 sn_bc_57 dX8_delayOf_37 rfl ?_
      refine sn_q_iloadn sn_bc_57 dX8_delayOf_39 rfl ?_
      refine sn_q_iconst sn_bc_57 dX8_delayOf_40 rfl ?_
      refine sn_q_iload sn_bc_57 dX8_delayOf_41 rfl ?_
      refine sn_q_bipush sn_bc_57 dX8_delayOf_43 rfl ?_
      refine sn_q_isub sn_bc_57 dX8_delayOf_45 (by omega) (by omega) ?_
      refine sn_q_max sn_bc_57 dX8_delayOf_46 sn_oc_57 sn_px_8_65 rfl ?_
      refine sn_q_iadd sn_bc_57 dX8_delayOf_49 (by omega) (by omega) ?_
      refine sn_q_istn2 sn_bc_57 dX8_delayOf_50 rfl ?_
      refine sn_q_inc3 sn_bc_57 dX8_delayOf_51 rfl (by omega) (by omega) ?_
      refine sn_q_goto (t := 4) sn_bc_57 dX8_delayOf_54 rfl ?_
      exact ih (d - 1) (by omega) (m + 1) _ (by omega) (Or.inl (by omega))
  refine sn_q_iconst sn_bc_57 dX8_delayOf_0 rfl ?_
  refine sn_q_istn2 sn_bc_57 dX8_delayOf_1 rfl ?_
  refine sn_q_iconst sn_bc_57 dX8_delayOf_2 rfl ?_
  refine sn_q_istn3 sn_bc_57 dX8_delayOf_3 rfl ?_
  exact loop 7 0 _ rfl (Or.inr rfl)
theorem sp_delay {n k : Nat} {Y : Nat → Nat × Nat} {X : Nat → Nat → sn_V} {σ : Int → Int → Int} {Q : Option sn_V → sn_H → Prop} (h1 : 0 ≤ σ 15 3) (h2 : σ 15 3 ≤ 8) (hr : ∀ i, 0 ≤ i → i < σ 15 3 → 0 ≤ σ 16 i ∧ σ 16 i < 8) (hp9 : sn_p9 σ) (kk : Q (some (sn_i (sn_dx σ (σ 16) (σ 15 3 - 1).toNat))) (sn_hh n k Y σ X)) : sn_Wp 56 0 [sn_r 15] [] (sn_hh n k Y σ X) Q := by
  refine sn_q_aloadn sn_bc_56 dX8_delay_0 rfl ?_
  refine sn_q_aloadn sn_bc_56 dX8_delay_1 rfl ?_
  refine sn_q_getr (v := 16) sn_bc_56 dX8_delay_2 sn_oc_56 sn_pf_8_9 (by decide) rfl rfl (by decide) ?_
  refine sn_q_invV sn_bc_56 dX8_delay_5 sn_oc_56 sn_pv_8_42 (by decide) rfl (by decide) (sn_h1 (by decide)) rfl rfl rfl rfl (sp_delayOf (P := 16) sn_a16 rfl h1 h2 hr hp9 ?_)
  refine sn_q_iret sn_bc_56 dX8_delay_8 rfl ?_
  exact kk
/-- the order with the song s, at p now, at pl -/
def sk_tr (σ : Int → Int → Int) (s p pl i : Int) : Int := if i = pl then s else if (if i < pl then i else i - 1) < p then σ 16 (if i < pl then i else i - 1) else σ 16 ((if i < pl then i else i - 1) + 1)
theorem sk_tr_pl {σ : Int → Int → Int} {s p pl : Int} : sk_tr σ s p pl pl = s := if_pos rfl
theorem sk_tr_lo {σ : Int → Int → Int} {s p pl i r : Int} (h : i ≠ pl) (hr : (i < pl ∧ r = i) ∨ (pl < i ∧ r = i - 1)) (hp : r < p) : sk_tr σ s p pl i = σ 16 r := by
  unfold sk_tr
  rw [if_neg h]
  rcases hr with ⟨a, rfl⟩ | ⟨a, rfl⟩
  · rw [if_pos a, if_pos hp]
  · rw [if_neg (show ¬ i < pl by omega), if_pos hp]
theorem sk_tr_hi {σ : Int → Int → Int} {s p pl i r : Int} (h : i ≠ pl) (hr : (i < pl ∧ r = i) ∨ (pl < i ∧ r = i - 1)) (hp : p ≤ r) : sk_tr σ s p pl i = σ 16 (r + 1) := by
  unfold sk_tr
  rw [if_neg h]
  rcases hr with ⟨a, rfl⟩ | ⟨a, rfl⟩
  · rw [if_pos a, if_neg (by omega)]
  · rw [if_neg (show ¬ i < pl by omega), if_neg (by omega)]
theorem sk_tr_t {σ τ : Int → Int → Int} {s p pl i : Int} (e : ∀ x, τ 16 x = σ 16 x) : sk_tr τ s p pl i = sk_tr σ s p pl i := by
  unfold sk_tr
  simp only [e]
/-- each entry of the new order is one of the old one's, and the other way round -/
theorem sk_tr_in {σ : Int → Int → Int} {s p pl c : Int} (hp0 : 0 ≤ p) (hpc : p < c) (hs : σ 16 p = s) (hl0 : 0 ≤ pl) (hlc : pl < c) (i : Int) (h0 : 0 ≤ i) (h1 : i < c) : ∃ j, 0 ≤ j ∧ j < c ∧ sk_tr σ s p pl i = σ 16 j ∧ ((i = pl ∧ j = p) ∨ (i < pl ∧ i < p ∧ j = i) ∨ (i < pl ∧ p ≤ i ∧ j = i + 1) ∨ (pl < i ∧ i - 1 < p ∧ j = i - 1) ∨ (pl < i ∧ p ≤ i - 1 ∧ j = i)) := by
  rcases Int.lt_trichotomy i pl with h | h | h
  · by_cases g : i < p
    · exact ⟨i, h0, h1, sk_tr_lo (by omega) (Or.inl ⟨h, rfl⟩) g, by omega⟩
    · exact ⟨i + 1, by omega, by omega, sk_tr_hi (by omega) (Or.inl ⟨h, rfl⟩) (by omega), by omega⟩
  · exact ⟨p, hp0, hpc, by rw [h, sk_tr_pl, hs], by omega⟩
  · by_cases g : i - 1 < p
    · exact ⟨i - 1, by omega, by omega, sk_tr_lo (by omega) (Or.inr ⟨h, rfl⟩) g, by omega⟩
    · refine ⟨i, h0, h1, ?_, by omega⟩
      rw [sk_tr_hi (r := i - 1) (by omega) (Or.inr ⟨h, rfl⟩) (by omega), show i - 1 + 1 = i by omega]
theorem sk_tr_on {σ : Int → Int → Int} {s p pl c : Int} (hp0 : 0 ≤ p) (hpc : p < c) (hs : σ 16 p = s) (hl0 : 0 ≤ pl) (hlc : pl < c) (j : Int) (h0 : 0 ≤ j) (h1 : j < c) : ∃ i, 0 ≤ i ∧ i < c ∧ sk_tr σ s p pl i = σ 16 j := by
  rcases Int.lt_trichotomy j p with h | h | h
  · by_cases g : j < pl
    · exact ⟨j, h0, h1, sk_tr_lo (by omega) (Or.inl ⟨g, rfl⟩) h⟩
    · exact ⟨j + 1, by omega, by omega, sk_tr_lo (by omega) (Or.inr ⟨by omega, by omega⟩) h⟩
  · exact ⟨pl, hl0, hlc, by rw [sk_tr_pl, h, hs]⟩
  · by_cases g : j - 1 < pl
    · refine ⟨j - 1, by omega, by omega, ?_⟩
      rw [sk_tr_hi (r := j - 1) (by omega) (Or.inl ⟨g, rfl⟩) (by omega), show j - 1 + 1 = j by omega]
    · refine ⟨j, h0, h1, ?_⟩
      rw [sk_tr_hi (r := j - 1) (by omega) (Or.inr ⟨by omega, rfl⟩) (by omega), show j - 1 + 1 = j by omega]
/-- the order's rows stand one by one -/
def sn_od (σ : Int → Int → Int) : Prop := ∀ i j, 0 ≤ i → i < j → j < σ 15 3 → σ 16 i ≠ σ 16 j
theorem sp_writeTrial {n k : Nat} {Y : Nat → Nat × Nat} {X : Nat → Nat → sn_V} {σ : Int → Int → Int} {Q : Option sn_V → sn_H → Prop} {s p pl : Int} (h1 : 0 ≤ σ 15 3) (h2 : σ 15 3 ≤ 8) (hp0 : 0 ≤ p) (hpc : p < σ 15 3) (hs : σ 16 p = s) (hd : sn_od σ) (hl0 : 0 ≤ pl) (hlc : pl < σ 15 3) (kk : ∀ τ, (∀ a c, a ≠ 17 → τ a c = σ a c) → (∀ i, 0 ≤ i → i < σ 15 3 → τ 17 i = sk_tr σ s p pl i) → Q none (sn_hh n k Y τ X)) : sn_Wp 65 0 [sn_r 15, sn_i s, sn_i pl, sn_u, sn_u] [] (sn_hh n k Y σ X) Q := by
  have hq : ∀ f, 0 ≤ f → f < σ 15 3 → (σ 16 f = s ↔ f = p) := fun f g1 g2 => by
    constructor
    · intro e
      rcases Int.lt_trichotomy f p with h | h | h
      · exact absurd (e.trans hs.symm) (hd f p g1 h hpc)
      · exact h
      · exact absurd (hs.trans e.symm) (hd p f hp0 h g2)
    · intro e; rw [e]; exact hs
  have loop : ∀ (d : Nat) (i : Nat) (f r : Int) (τ : Int → Int → Int), i + d = 8 → (i : Int) ≤ σ 15 3 → (((i : Int) ≤ pl ∧ r = i) ∨ (pl < i ∧ r = (i : Int) - 1)) → ((r ≤ p ∧ f = r) ∨ (p < r ∧ f = r + 1)) → (∀ a c, a ≠ 17 → τ a c = σ a c) → (∀ m, 0 ≤ m → m < (i : Int) → τ 17 m = sk_tr σ s p pl m) → sn_Wp 65 5 [sn_r 15, sn_i s, sn_i pl, sn_i f, sn_i (i : Int)] [] (sn_hh n k Y τ X) Q := by
    refine sn_ind (fun d ih => ?_)
    intro i f r τ hi hz hr hf hg hv
    have e15 := hg 15 3 (by omega)
    refine sn_q_iload sn_bc_65 dX8_writeTrial_5 rfl ?_
    refine sn_q_aloadn sn_bc_65 dX8_writeTrial_7 rfl ?_
    refine sn_q_geti (P := 15) (J := 3) sn_bc_65 dX8_writeTrial_8 sn_oc_65 sn_pf_8_18 (by decide) rfl rfl rfl rfl ?_
    refine sn_q_icge (t := 86) sn_bc_65 dX8_writeTrial_11 rfl (fun c_11 => ?_) (fun c_11 => ?_)
    · refine sn_q_vret sn_bc_65 dX8_writeTrial_86 rfl ?_
      exact kk τ hg (fun m a1 a2 => hv m a1 (by omega))
    · refine sn_q_iload sn_bc_65 dX8_writeTrial_14 rfl ?_
      refine sn_q_iloadn sn_bc_65 dX8_writeTrial_16 rfl ?_
      refine sn_q_icne (t := 31) sn_bc_65 dX8_writeTrial_17 rfl (fun c_17 => ?_) (fun c_17 => ?_)
      · have hq1 := hq f (by omega)
        refine sn_q_iloadn sn_bc_65 dX8_writeTrial_31 rfl ?_
        refine sn_q_aloadn sn_bc_65 dX8_writeTrial_32 rfl ?_
        refine sn_q_geti (P := 15) (J := 3) sn_bc_65 dX8_writeTrial_33 sn_oc_65 sn_pf_8_18 (by decide) rfl rfl rfl rfl ?_
        refine sn_q_icge (t := 52) sn_bc_65 dX8_writeTrial_36 rfl (fun c_36 => ?_) (fun c_36 => ?_)
        · refine sn_q_aloadn sn_bc_65 dX8_writeTrial_52 rfl ?_
          refine sn_q_getr (v := 17) sn_bc_65 dX8_writeTrial_53 sn_oc_65 sn_pf_8_15 (by decide) rfl rfl (by decide) ?_
          refine sn_q_iload sn_bc_65 dX8_writeTrial_56 rfl ?_
          refine sn_q_iloadn sn_bc_65 dX8_writeTrial_58 rfl ?_
          refine sn_q_aloadn sn_bc_65 dX8_writeTrial_59 rfl ?_
          refine sn_q_geti (P := 15) (J := 3) sn_bc_65 dX8_writeTrial_60 sn_oc_65 sn_pf_8_18 (by decide) rfl rfl rfl rfl ?_
          refine sn_q_icge (t := 75) sn_bc_65 dX8_writeTrial_63 rfl (fun c_63 => ?_) (fun c_63 => ?_)
          · refine sn_q_iloadn sn_bc_65 dX8_writeTrial_75 rfl ?_
            refine sn_q_iast (P := 17) sn_bc_65 dX8_writeTrial_76 sn_a17 rfl (by omega) (by omega) ?_
            refine sn_q_inc3 sn_bc_65 dX8_writeTrial_77 rfl (by omega) (by omega) ?_
            refine sn_q_inc4 sn_bc_65 dX8_writeTrial_80 rfl (by omega) (by omega) ?_
            refine sn_q_goto (t := 5) sn_bc_65 dX8_writeTrial_83 rfl ?_
            first
              | (exfalso; omega)
              | (refine ih (d - 1) (by omega) (i + 1) _ (if pl = (i : Int) then r else r + 1) _ (by omega) (by omega) (by split <;> omega) (by split <;> omega) (fun a c g => (sn_s_p g).trans (hg a c g)) (fun m a1 a2 => ?_)
                 by_cases e : m = (i : Int)
                 · rw [e, sn_s_e]
                   rcases hf with hf | hf <;> first
                     | (exfalso; omega)
                     | (rw [show pl = (i : Int) from by omega]; exact sk_tr_pl.symm)
                     | exact (sk_tr_lo (r := r) (by omega) (by omega) (by omega)).symm
                     | (rw [show f = r by omega]; exact (sk_tr_lo (r := r) (by omega) (by omega) (by omega)).symm)
                     | (rw [show f = r + 1 by omega]; exact (sk_tr_hi (r := r) (by omega) (by omega) (by omega)).symm)
                     | (rw [show f + 1 = r + 1 by omega]; exact (sk_tr_hi (r := r) (by omega) (by omega) (by omega)).symm)
                 · rw [sn_s_j e]; exact hv m a1 (by omega))
          · refine sn_q_aloadn sn_bc_65 dX8_writeTrial_66 rfl ?_
            refine sn_q_getr (v := 16) sn_bc_65 dX8_writeTrial_67 sn_oc_65 sn_pf_8_9 (by decide) rfl rfl (by decide) ?_
            refine sn_q_iloadn sn_bc_65 dX8_writeTrial_70 rfl ?_
            refine sn_q_iald (P := 16) sn_bc_65 dX8_writeTrial_71 sn_a16 rfl (by omega) (by omega) ?_
            rw [hg 16 _ (by omega)]
            refine sn_q_goto (t := 76) sn_bc_65 dX8_writeTrial_72 rfl ?_
            refine sn_q_iast (P := 17) sn_bc_65 dX8_writeTrial_76 sn_a17 rfl (by omega) (by omega) ?_
            refine sn_q_inc3 sn_bc_65 dX8_writeTrial_77 rfl (by omega) (by omega) ?_
            refine sn_q_inc4 sn_bc_65 dX8_writeTrial_80 rfl (by omega) (by omega) ?_
            refine sn_q_goto (t := 5) sn_bc_65 dX8_writeTrial_83 rfl ?_
            first
              | (exfalso; omega)
              | (refine ih (d - 1) (by omega) (i + 1) _ (if pl = (i : Int) then r else r + 1) _ (by omega) (by omega) (by split <;> omega) (by split <;> omega) (fun a c g => (sn_s_p g).trans (hg a c g)) (fun m a1 a2 => ?_)
                 by_cases e : m = (i : Int)
                 · rw [e, sn_s_e]
                   rcases hf with hf | hf <;> first
                     | (exfalso; omega)
                     | (rw [show pl = (i : Int) from by omega]; exact sk_tr_pl.symm)
                     | exact (sk_tr_lo (r := r) (by omega) (by omega) (by omega)).symm
                     | (rw [show f = r by omega]; exact (sk_tr_lo (r := r) (by omega) (by omega) (by omega)).symm)
                     | (rw [show f = r + 1 by omega]; exact (sk_tr_hi (r := r) (by omega) (by omega) (by omega)).symm)
                     | (rw [show f + 1 = r + 1 by omega]; exact (sk_tr_hi (r := r) (by omega) (by omega) (by omega)).symm)
                 · rw [sn_s_j e]; exact hv m a1 (by omega))
        · refine sn_q_aloadn sn_bc_65 dX8_writeTrial_39 rfl ?_
          refine sn_q_getr (v := 16) sn_bc_65 dX8_writeTrial_40 sn_oc_65 sn_pf_8_9 (by decide) rfl rfl (by decide) ?_
          refine sn_q_iloadn sn_bc_65 dX8_writeTrial_43 rfl ?_
          refine sn_q_iald (P := 16) sn_bc_65 dX8_writeTrial_44 sn_a16 rfl (by omega) (by omega) ?_
          rw [hg 16 _ (by omega)]
          have hq2 := hq1 (by omega)
          refine sn_q_iloadn sn_bc_65 dX8_writeTrial_45 rfl ?_
          refine sn_q_icne (t := 52) sn_bc_65 dX8_writeTrial_46 rfl (fun c_46 => ?_) (fun c_46 => ?_)
          · refine sn_q_aloadn sn_bc_65 dX8_writeTrial_52 rfl ?_
            refine sn_q_getr (v := 17) sn_bc_65 dX8_writeTrial_53 sn_oc_65 sn_pf_8_15 (by decide) rfl rfl (by decide) ?_
            refine sn_q_iload sn_bc_65 dX8_writeTrial_56 rfl ?_
            refine sn_q_iloadn sn_bc_65 dX8_writeTrial_58 rfl ?_
            refine sn_q_aloadn sn_bc_65 dX8_writeTrial_59 rfl ?_
            refine sn_q_geti (P := 15) (J := 3) sn_bc_65 dX8_writeTrial_60 sn_oc_65 sn_pf_8_18 (by decide) rfl rfl rfl rfl ?_
            refine sn_q_icge (t := 75) sn_bc_65 dX8_writeTrial_63 rfl (fun c_63 => ?_) (fun c_63 => ?_)
            · refine sn_q_iloadn sn_bc_65 dX8_writeTrial_75 rfl ?_
              refine sn_q_iast (P := 17) sn_bc_65 dX8_writeTrial_76 sn_a17 rfl (by omega) (by omega) ?_
              refine sn_q_inc3 sn_bc_65 dX8_writeTrial_77 rfl (by omega) (by omega) ?_
              refine sn_q_inc4 sn_bc_65 dX8_writeTrial_80 rfl (by omega) (by omega) ?_
              refine sn_q_goto (t := 5) sn_bc_65 dX8_writeTrial_83 rfl ?_
              first
                | (exfalso; omega)
                | (refine ih (d - 1) (by omega) (i + 1) _ (if pl = (i : Int) then r else r + 1) _ (by omega) (by omega) (by split <;> omega) (by split <;> omega) (fun a c g => (sn_s_p g).trans (hg a c g)) (fun m a1 a2 => ?_)
                   by_cases e : m = (i : Int)
                   · rw [e, sn_s_e]
                     rcases hf with hf | hf <;> first
                       | (exfalso; omega)
                       | (rw [show pl = (i : Int) from by omega]; exact sk_tr_pl.symm)
                       | exact (sk_tr_lo (r := r) (by omega) (by omega) (by omega)).symm
                       | (rw [show f = r by omega]; exact (sk_tr_lo (r := r) (by omega) (by omega) (by omega)).symm)
                       | (rw [show f = r + 1 by omega]; exact (sk_tr_hi (r := r) (by omega) (by omega) (by omega)).symm)
                       | (rw [show f + 1 = r + 1 by omega]; exact (sk_tr_hi (r := r) (by omega) (by omega) (by omega)).symm)
                   · rw [sn_s_j e]; exact hv m a1 (by omega))
            · refine sn_q_aloadn sn_bc_65 dX8_writeTrial_66 rfl ?_
              refine sn_q_getr (v := 16) sn_bc_65 dX8_writeTrial_67 sn_oc_65 sn_pf_8_9 (by decide) rfl rfl (by decide) ?_
              refine sn_q_iloadn sn_bc_65 dX8_writeTrial_70 rfl ?_
              refine sn_q_iald (P := 16) sn_bc_65 dX8_writeTrial_71 sn_a16 rfl (by omega) (by omega) ?_
              rw [hg 16 _ (by omega)]
              refine sn_q_goto (t := 76) sn_bc_65 dX8_writeTrial_72 rfl ?_
              refine sn_q_iast (P := 17) sn_bc_65 dX8_writeTrial_76 sn_a17 rfl (by omega) (by omega) ?_
              refine sn_q_inc3 sn_bc_65 dX8_writeTrial_77 rfl (by omega) (by omega) ?_
              refine sn_q_inc4 sn_bc_65 dX8_writeTrial_80 rfl (by omega) (by omega) ?_
              refine sn_q_goto (t := 5) sn_bc_65 dX8_writeTrial_83 rfl ?_
              first
                | (exfalso; omega)
                | (refine ih (d - 1) (by omega) (i + 1) _ (if pl = (i : Int) then r else r + 1) _ (by omega) (by omega) (by split <;> omega) (by split <;> omega) (fun a c g => (sn_s_p g).trans (hg a c g)) (fun m a1 a2 => ?_)
                   by_cases e : m = (i : Int)
                   · rw [e, sn_s_e]
                     rcases hf with hf | hf <;> first
                       | (exfalso; omega)
                       | (rw [show pl = (i : Int) from by omega]; exact sk_tr_pl.symm)
                       | exact (sk_tr_lo (r := r) (by omega) (by omega) (by omega)).symm
                       | (rw [show f = r by omega]; exact (sk_tr_lo (r := r) (by omega) (by omega) (by omega)).symm)
                       | (rw [show f = r + 1 by omega]; exact (sk_tr_hi (r := r) (by omega) (by omega) (by omega)).symm)
                       | (rw [show f + 1 = r + 1 by omega]; exact (sk_tr_hi (r := r) (by omega) (by omega) (by omega)).symm)
                   · rw [sn_s_j e]; exact hv m a1 (by omega))
          · refine sn_q_inc3 sn_bc_65 dX8_writeTrial_49 rfl (by omega) (by omega) ?_
            refine sn_q_aloadn sn_bc_65 dX8_writeTrial_52 rfl ?_
            refine sn_q_getr (v := 17) sn_bc_65 dX8_writeTrial_53 sn_oc_65 sn_pf_8_15 (by decide) rfl rfl (by decide) ?_
            refine sn_q_iload sn_bc_65 dX8_writeTrial_56 rfl ?_
            refine sn_q_iloadn sn_bc_65 dX8_writeTrial_58 rfl ?_
            refine sn_q_aloadn sn_bc_65 dX8_writeTrial_59 rfl ?_
            refine sn_q_geti (P := 15) (J := 3) sn_bc_65 dX8_writeTrial_60 sn_oc_65 sn_pf_8_18 (by decide) rfl rfl rfl rfl ?_
            refine sn_q_icge (t := 75) sn_bc_65 dX8_writeTrial_63 rfl (fun c_63 => ?_) (fun c_63 => ?_)
            · refine sn_q_iloadn sn_bc_65 dX8_writeTrial_75 rfl ?_
              refine sn_q_iast (P := 17) sn_bc_65 dX8_writeTrial_76 sn_a17 rfl (by omega) (by omega) ?_
              refine sn_q_inc3 sn_bc_65 dX8_writeTrial_77 rfl (by omega) (by omega) ?_
              refine sn_q_inc4 sn_bc_65 dX8_writeTrial_80 rfl (by omega) (by omega) ?_
              refine sn_q_goto (t := 5) sn_bc_65 dX8_writeTrial_83 rfl ?_
              first
                | (exfalso; omega)
                | (refine ih (d - 1) (by omega) (i + 1) _ (if pl = (i : Int) then r else r + 1) _ (by omega) (by omega) (by split <;> omega) (by split <;> omega) (fun a c g => (sn_s_p g).trans (hg a c g)) (fun m a1 a2 => ?_)
                   by_cases e : m = (i : Int)
                   · rw [e, sn_s_e]
                     rcases hf with hf | hf <;> first
                       | (exfalso; omega)
                       | (rw [show pl = (i : Int) from by omega]; exact sk_tr_pl.symm)
                       | exact (sk_tr_lo (r := r) (by omega) (by omega) (by omega)).symm
                       | (rw [show f = r by omega]; exact (sk_tr_lo (r := r) (by omega) (by omega) (by omega)).symm)
                       | (rw [show f = r + 1 by omega]; exact (sk_tr_hi (r := r) (by omega) (by omega) (by omega)).symm)
                       | (rw [show f + 1 = r + 1 by omega]; exact (sk_tr_hi (r := r) (by omega) (by omega) (by omega)).symm)
                   · rw [sn_s_j e]; exact hv m a1 (by omega))
            · refine sn_q_aloadn sn_bc_65 dX8_writeTrial_66 rfl ?_
              refine sn_q_getr (v := 16) sn_bc_65 dX8_writeTrial_67 sn_oc_65 sn_pf_8_9 (by decide) rfl rfl (by decide) ?_
              refine sn_q_iloadn sn_bc_65 dX8_writeTrial_70 rfl ?_
              refine sn_q_iald (P := 16) sn_bc_65 dX8_writeTrial_71 sn_a16 rfl (by omega) (by omega) ?_
              rw [hg 16 _ (by omega)]
              refine sn_q_goto (t := 76) sn_bc_65 dX8_writeTrial_72 rfl ?_
              refine sn_q_iast (P := 17) sn_bc_65 dX8_writeTrial_76 sn_a17 rfl (by omega) (by omega) ?_
              refine sn_q_inc3 sn_bc_65 dX8_writeTrial_77 rfl (by omega) (by omega) ?_
              refine sn_q_inc4 sn_bc_65 dX8_writeTrial_80 rfl (by omega) (by omega) ?_
              refine sn_q_goto (t := 5) sn_bc_65 dX8_writeTrial_83 rfl ?_
              first
                | (exfalso; omega)
                | (refine ih (d - 1) (by omega) (i + 1) _ (if pl = (i : Int) then r else r + 1) _ (by omega) (by omega) (by split <;> omega) (by split <;> omega) (fun a c g => (sn_s_p g).trans (hg a c g)) (fun m a1 a2 => ?_)
                   by_cases e : m = (i : Int)
                   · rw [e, sn_s_e]
                     rcases hf with hf | hf <;> first
                       | (exfalso; omega)
                       | (rw [show pl = (i : Int) from by omega]; exact sk_tr_pl.symm)
                       | exact (sk_tr_lo (r := r) (by omega) (by omega) (by omega)).symm
                       | (rw [show f = r by omega]; exact (sk_tr_lo (r := r) (by omega) (by omega) (by omega)).symm)
                       | (rw [show f = r + 1 by omega]; exact (sk_tr_hi (r := r) (by omega) (by omega) (by omega)).symm)
                       | (rw [show f + 1 = r + 1 by omega]; exact (sk_tr_hi (r := r) (by omega) (by omega) (by omega)).symm)
                   · rw [sn_s_j e]; exact hv m a1 (by omega))
      · refine sn_q_aloadn sn_bc_65 dX8_writeTrial_20 rfl ?_
        refine sn_q_getr (v := 17) sn_bc_65 dX8_writeTrial_21 sn_oc_65 sn_pf_8_15 (by decide) rfl rfl (by decide) ?_
        refine sn_q_iload sn_bc_65 dX8_writeTrial_24 rfl ?_
        refine sn_q_iloadn sn_bc_65 dX8_writeTrial_26 rfl ?_
        refine sn_q_iast (P := 17) sn_bc_65 dX8_writeTrial_27 sn_a17 rfl (by omega) (by omega) ?_
        refine sn_q_goto (t := 80) sn_bc_65 dX8_writeTrial_28 rfl ?_
        refine sn_q_inc4 sn_bc_65 dX8_writeTrial_80 rfl (by omega) (by omega) ?_
        refine sn_q_goto (t := 5) sn_bc_65 dX8_writeTrial_83 rfl ?_
        first
          | (exfalso; omega)
          | (refine ih (d - 1) (by omega) (i + 1) _ (if pl = (i : Int) then r else r + 1) _ (by omega) (by omega) (by split <;> omega) (by split <;> omega) (fun a c g => (sn_s_p g).trans (hg a c g)) (fun m a1 a2 => ?_)
             by_cases e : m = (i : Int)
             · rw [e, sn_s_e]
               rcases hf with hf | hf <;> first
                 | (exfalso; omega)
                 | (rw [show pl = (i : Int) from by omega]; exact sk_tr_pl.symm)
                 | exact (sk_tr_lo (r := r) (by omega) (by omega) (by omega)).symm
                 | (rw [show f = r by omega]; exact (sk_tr_lo (r := r) (by omega) (by omega) (by omega)).symm)
                 | (rw [show f = r + 1 by omega]; exact (sk_tr_hi (r := r) (by omega) (by omega) (by omega)).symm)
                 | (rw [show f + 1 = r + 1 by omega]; exact (sk_tr_hi (r := r) (by omega) (by omega) (by omega)).symm)
             · rw [sn_s_j e]; exact hv m a1 (by omega))
  refine sn_q_iconst sn_bc_65 dX8_writeTrial_0 rfl ?_
  refine sn_q_istn3 sn_bc_65 dX8_writeTrial_1 rfl ?_
  refine sn_q_iconst sn_bc_65 dX8_writeTrial_2 rfl ?_
  refine sn_q_ist4 sn_bc_65 dX8_writeTrial_3 rfl ?_
  exact loop 8 0 0 0 σ rfl (by omega) (by omega) (by omega) (fun _ _ _ => rfl) (fun m a1 a2 => by omega)
theorem sp_delayWith {n k : Nat} {Y : Nat → Nat × Nat} {X : Nat → Nat → sn_V} {σ : Int → Int → Int} {Q : Option sn_V → sn_H → Prop} {s p pl : Int} (h1 : 0 ≤ σ 15 3) (h2 : σ 15 3 ≤ 8) (hp0 : 0 ≤ p) (hpc : p < σ 15 3) (hs : σ 16 p = s) (hd : sn_od σ) (hl0 : 0 ≤ pl) (hlc : pl < σ 15 3) (hr : ∀ i, 0 ≤ i → i < σ 15 3 → 0 ≤ σ 16 i ∧ σ 16 i < 8) (hp9 : sn_p9 σ) (kk : ∀ τ, (∀ a c, a ≠ 17 → τ a c = σ a c) → Q (some (sn_i (sn_dx σ (sk_tr σ s p pl) (σ 15 3 - 1).toNat))) (sn_hh n k Y τ X)) : sn_Wp 64 0 [sn_r 15, sn_i s, sn_i pl] [] (sn_hh n k Y σ X) Q := by
  refine sn_q_aloadn sn_bc_64 dX8_delayWith_0 rfl ?_
  refine sn_q_iloadn sn_bc_64 dX8_delayWith_1 rfl ?_
  refine sn_q_iloadn sn_bc_64 dX8_delayWith_2 rfl ?_
  refine sn_q_invV sn_bc_64 dX8_delayWith_3 sn_oc_64 sn_pv_8_38 (by decide) rfl (by decide) (sn_h1 (by decide)) rfl rfl rfl rfl (sp_writeTrial (p := p) h1 h2 hp0 hpc hs hd hl0 hlc (fun τ hg hv => ?_))
  refine sn_q_aloadn sn_bc_64 dX8_delayWith_6 rfl ?_
  refine sn_q_aloadn sn_bc_64 dX8_delayWith_7 rfl ?_
  refine sn_q_getr (v := 17) sn_bc_64 dX8_delayWith_8 sn_oc_64 sn_pf_8_15 (by decide) rfl rfl (by decide) ?_
  refine sn_q_invV sn_bc_64 dX8_delayWith_11 sn_oc_64 sn_pv_8_42 (by decide) rfl (by decide) (sn_h1 (by decide)) rfl rfl rfl rfl (sp_delayOf (P := 17) sn_a17 rfl (by rw [hg 15 3 (by omega)]; exact h1) (by rw [hg 15 3 (by omega)]; exact h2) (fun i a1 a2 => by rw [hg 15 3 (by omega)] at a2; rw [hv i a1 a2]; obtain ⟨j, b1, b2, b3, -⟩ := sk_tr_in hp0 hpc hs hl0 hlc i a1 a2; rw [b3]; exact hr j b1 b2) (fun x a1 a2 => by rw [hg 13 x (by omega)]; exact hp9 x a1 a2) ?_)
  refine sn_q_iret sn_bc_64 dX8_delayWith_14 rfl ?_
  have e : sn_dx τ (τ 17) (τ 15 3 - 1).toNat = sn_dx σ (sk_tr σ s p pl) (σ 15 3 - 1).toNat := by
    rw [hg 15 3 (by omega)]
    exact sn_dx_c (fun x => hg 13 x (by omega)) (fun i a1 a2 => hv i a1 (by omega))
  rw [e]
  exact kk τ hg
theorem sp_shift {n k : Nat} {Y : Nat → Nat × Nat} {X : Nat → Nat → sn_V} {σ : Int → Int → Int} {Q : Option sn_V → sn_H → Prop} {s p pl : Int} (h1 : 0 ≤ σ 15 3) (h2 : σ 15 3 ≤ 8) (hp0 : 0 ≤ p) (hpc : p < σ 15 3) (hs : σ 16 p = s) (hd : sn_od σ) (hl0 : 0 ≤ pl) (hlc : pl < σ 15 3) (kk : ∀ τ, (∀ a c, a ≠ 16 → a ≠ 17 → τ a c = σ a c) → (∀ i, 0 ≤ i → i < σ 15 3 → τ 16 i = sk_tr σ s p pl i) → Q none (sn_hh n k Y τ X)) : sn_Wp 67 0 [sn_r 15, sn_i s, sn_i pl, sn_u] [] (sn_hh n k Y σ X) Q := by
  have loop : ∀ (τ : Int → Int → Int), (∀ a c, a ≠ 17 → τ a c = σ a c) → (∀ i, 0 ≤ i → i < σ 15 3 → τ 17 i = sk_tr σ s p pl i) → ∀ (d : Nat) (i : Nat) (ρ : Int → Int → Int), i + d = 8 → (i : Int) ≤ σ 15 3 → (∀ a c, a ≠ 16 → ρ a c = τ a c) → (∀ m, 0 ≤ m → m < (i : Int) → ρ 16 m = sk_tr σ s p pl m) → sn_Wp 67 8 [sn_r 15, sn_i s, sn_i pl, sn_i (i : Int)] [] (sn_hh n k Y ρ X) Q := by
    intro τ hg hv
    refine sn_ind (fun d ih => ?_)
    intro i ρ hi hz hρ hw
    have e15 := (hρ 15 3 (by omega)).trans (hg 15 3 (by omega))
    refine sn_q_iloadn sn_bc_67 dX8_shift_8 rfl ?_
    refine sn_q_aloadn sn_bc_67 dX8_shift_9 rfl ?_
    refine sn_q_geti (P := 15) (J := 3) sn_bc_67 dX8_shift_10 sn_oc_67 sn_pf_8_18 (by decide) rfl rfl rfl rfl ?_
    refine sn_q_icge (t := 34) sn_bc_67 dX8_shift_13 rfl (fun c_13 => ?_) (fun c_13 => ?_)
    · refine sn_q_vret sn_bc_67 dX8_shift_34 rfl ?_
      exact kk ρ (fun a c g1 g2 => (hρ a c g1).trans (hg a c g2)) (fun m a1 a2 => hw m a1 (by omega))
    · refine sn_q_aloadn sn_bc_67 dX8_shift_16 rfl ?_
      refine sn_q_getr (v := 16) sn_bc_67 dX8_shift_17 sn_oc_67 sn_pf_8_9 (by decide) rfl rfl (by decide) ?_
      refine sn_q_iloadn sn_bc_67 dX8_shift_20 rfl ?_
      refine sn_q_aloadn sn_bc_67 dX8_shift_21 rfl ?_
      refine sn_q_getr (v := 17) sn_bc_67 dX8_shift_22 sn_oc_67 sn_pf_8_15 (by decide) rfl rfl (by decide) ?_
      refine sn_q_iloadn sn_bc_67 dX8_shift_25 rfl ?_
      refine sn_q_iald (P := 17) sn_bc_67 dX8_shift_26 sn_a17 rfl (by omega) (by omega) ?_
      rw [hρ 17 _ (by omega), hv _ (by omega) (by omega)]
      refine sn_q_iast (P := 16) sn_bc_67 dX8_shift_27 sn_a16 rfl (by omega) (by omega) ?_
      refine sn_q_inc3 sn_bc_67 dX8_shift_28 rfl (by omega) (by omega) ?_
      refine sn_q_goto (t := 8) sn_bc_67 dX8_shift_31 rfl ?_
      refine ih (d - 1) (by omega) (i + 1) _ (by omega) (by omega) (fun a c g => (sn_s_p g).trans (hρ a c g)) (fun m a1 a2 => ?_)
      by_cases e : m = (i : Int)
      · rw [e, sn_s_e]
      · rw [sn_s_j e]; exact hw m a1 (by omega)
  refine sn_q_aloadn sn_bc_67 dX8_shift_0 rfl ?_
  refine sn_q_iloadn sn_bc_67 dX8_shift_1 rfl ?_
  refine sn_q_iloadn sn_bc_67 dX8_shift_2 rfl ?_
  refine sn_q_invV sn_bc_67 dX8_shift_3 sn_oc_67 sn_pv_8_38 (by decide) rfl (by decide) (sn_h1 (by decide)) rfl rfl rfl rfl (sp_writeTrial (p := p) h1 h2 hp0 hpc hs hd hl0 hlc (fun τ hg hv => ?_))
  refine sn_q_iconst sn_bc_67 dX8_shift_6 rfl ?_
  refine sn_q_istn3 sn_bc_67 dX8_shift_7 rfl ?_
  exact loop τ hg hv 8 0 τ rfl (by omega) (fun _ _ _ => rfl) (fun m a1 a2 => by omega)
theorem sp_insert {n k : Nat} {Y : Nat → Nat × Nat} {X : Nat → Nat → sn_V} {σ : Int → Int → Int} {Q : Option sn_V → sn_H → Prop} {s : Int} (h1 : 0 ≤ σ 15 3) (h2 : σ 15 3 < 8) (h3 : 0 ≤ σ 15 4) (h4 : σ 15 4 ≤ σ 15 3) (h5 : 0 ≤ s) (h6 : s < 8) (kk : ∀ (τ : Int → Int → Int) (z f : Int), ((σ 14 s = 0 ∧ z = 1 ∧ f = σ 15 4) ∨ (σ 14 s ≠ 0 ∧ z = 0 ∧ f = σ 15 3)) → (∀ a c, a ≠ 16 → ¬ (a = 15 ∧ (c = 3 ∨ c = 4)) → τ a c = σ a c) → τ 15 3 = σ 15 3 + 1 → τ 15 4 = σ 15 4 + z → τ 16 f = s → (∀ i, i < f → τ 16 i = σ 16 i) → (∀ i, f < i → i ≤ σ 15 3 → τ 16 i = σ 16 (i - 1)) → Q none (sn_hh n k Y τ X)) : sn_Wp 20 0 [sn_r 15, sn_i s, sn_u, sn_u, sn_u] [] (sn_hh n k Y σ X) Q := by
  have loop : ∀ (z f : Int), 0 ≤ f → f ≤ σ 15 3 → (∀ (τ : Int → Int → Int), (∀ a c, a ≠ 16 → ¬ (a = 15 ∧ (c = 3 ∨ c = 4)) → τ a c = σ a c) → τ 15 3 = σ 15 3 + 1 → τ 15 4 = σ 15 4 + z → τ 16 f = s → (∀ i, i < f → τ 16 i = σ 16 i) → (∀ i, f < i → i ≤ σ 15 3 → τ 16 i = σ 16 (i - 1)) → Q none (sn_hh n k Y τ X)) → (z = 0 ∨ z = 1) → ∀ (i : Nat) (τ : Int → Int → Int), f ≤ (i : Int) → (i : Int) ≤ σ 15 3 → (∀ a c, a ≠ 16 → τ a c = σ a c) → (∀ j, j ≤ (i : Int) → j < σ 15 3 ∨ j < (i : Int) → τ 16 j = σ 16 j) → (∀ j, (i : Int) < j → j ≤ σ 15 3 → τ 16 j = σ 16 (j - 1)) → sn_Wp 20 50 [sn_r 15, sn_i s, sn_i z, sn_i f, sn_i (i : Int)] [] (sn_hh n k Y τ X) Q := by
    intro z f hf0 hfc kk2 hz01
    refine sn_ind (fun i ih => ?_)
    intro τ hfi hic hg h1 h2
    refine sn_q_iload sn_bc_20 dX8_insert_50 rfl ?_
    refine sn_q_iloadn sn_bc_20 dX8_insert_52 rfl ?_
    refine sn_q_icle (t := 78) sn_bc_20 dX8_insert_53 rfl (fun c_53 => ?_) (fun c_53 => ?_)
    · refine sn_q_aloadn sn_bc_20 dX8_insert_78 rfl ?_
      refine sn_q_getr (v := 16) sn_bc_20 dX8_insert_79 sn_oc_20 sn_pf_8_9 (by decide) rfl rfl (by decide) ?_
      refine sn_q_iloadn sn_bc_20 dX8_insert_82 rfl ?_
      refine sn_q_iloadn sn_bc_20 dX8_insert_83 rfl ?_
      refine sn_q_iast (P := 16) sn_bc_20 dX8_insert_84 sn_a16 rfl (by omega) (by omega) ?_
      refine sn_q_aloadn sn_bc_20 dX8_insert_85 rfl ?_
      refine sn_q_dup sn_bc_20 dX8_insert_86 rfl ?_
      refine sn_q_geti (P := 15) (J := 3) sn_bc_20 dX8_insert_87 sn_oc_20 sn_pf_8_18 (by decide) rfl rfl rfl rfl ?_
      rw [sn_s_p (by omega)]
      rw [hg 15 3 (by omega)]
      refine sn_q_iconst sn_bc_20 dX8_insert_90 rfl ?_
      refine sn_q_iadd sn_bc_20 dX8_insert_91 (by omega) (by omega) ?_
      refine sn_q_puti (P := 15) (J := 3) sn_bc_20 dX8_insert_92 sn_oc_20 sn_pf_8_18 (by decide) rfl rfl rfl rfl rfl rfl ?_
      refine sn_q_aloadn sn_bc_20 dX8_insert_95 rfl ?_
      refine sn_q_dup sn_bc_20 dX8_insert_96 rfl ?_
      refine sn_q_geti (P := 15) (J := 4) sn_bc_20 dX8_insert_97 sn_oc_20 sn_pf_8_22 (by decide) rfl rfl rfl rfl ?_
      rw [sn_s_j (by omega), sn_s_p (by omega), hg 15 4 (by omega)]
      refine sn_q_iloadn sn_bc_20 dX8_insert_100 rfl ?_
      refine sn_q_ifeq (t := 108) sn_bc_20 dX8_insert_101 rfl (fun c_101 => ?_) (fun c_101 => ?_)
      · refine sn_q_iconst sn_bc_20 dX8_insert_108 rfl ?_
        refine sn_q_iadd sn_bc_20 dX8_insert_109 (by omega) (by omega) ?_
        refine sn_q_puti (P := 15) (J := 4) sn_bc_20 dX8_insert_110 sn_oc_20 sn_pf_8_22 (by decide) rfl rfl rfl rfl rfl rfl ?_
        refine sn_q_vret sn_bc_20 dX8_insert_113 rfl ?_
        refine kk2 _ (fun a c g1 g2 => ?_) ?_ ?_ ?_ (fun j g => ?_) (fun j g1 g2 => ?_)
        · unfold sn_s; rw [if_neg (by omega), if_neg (by omega), if_neg (by omega)]; exact hg a c g1
        · rw [sn_s_j (by omega), sn_s_e]
        · rw [sn_s_e]; omega
        · rw [sn_s_p (by omega), sn_s_p (by omega), sn_s_e]
        · rw [sn_s_p (by omega), sn_s_p (by omega), sn_s_j (by omega)]; exact h1 j (by omega) (by omega)
        · rw [sn_s_p (by omega), sn_s_p (by omega), sn_s_j (by omega)]; exact h2 j (by omega) (by omega)
      · refine sn_q_iconst sn_bc_20 dX8_insert_104 rfl ?_
        refine sn_q_goto (t := 109) sn_bc_20 dX8_insert_105 rfl ?_
        refine sn_q_iadd sn_bc_20 dX8_insert_109 (by omega) (by omega) ?_
        refine sn_q_puti (P := 15) (J := 4) sn_bc_20 dX8_insert_110 sn_oc_20 sn_pf_8_22 (by decide) rfl rfl rfl rfl rfl rfl ?_
        refine sn_q_vret sn_bc_20 dX8_insert_113 rfl ?_
        refine kk2 _ (fun a c g1 g2 => ?_) ?_ ?_ ?_ (fun j g => ?_) (fun j g1 g2 => ?_)
        · unfold sn_s; rw [if_neg (by omega), if_neg (by omega), if_neg (by omega)]; exact hg a c g1
        · rw [sn_s_j (by omega), sn_s_e]
        · rw [sn_s_e]; omega
        · rw [sn_s_p (by omega), sn_s_p (by omega), sn_s_e]
        · rw [sn_s_p (by omega), sn_s_p (by omega), sn_s_j (by omega)]; exact h1 j (by omega) (by omega)
        · rw [sn_s_p (by omega), sn_s_p (by omega), sn_s_j (by omega)]; exact h2 j (by omega) (by omega)
    · refine sn_q_aloadn sn_bc_20 dX8_insert_56 rfl ?_
      refine sn_q_getr (v := 16) sn_bc_20 dX8_insert_57 sn_oc_20 sn_pf_8_9 (by decide) rfl rfl (by decide) ?_
      refine sn_q_iload sn_bc_20 dX8_insert_60 rfl ?_
      refine sn_q_aloadn sn_bc_20 dX8_insert_62 rfl ?_
      refine sn_q_getr (v := 16) sn_bc_20 dX8_insert_63 sn_oc_20 sn_pf_8_9 (by decide) rfl rfl (by decide) ?_
      refine sn_q_iload sn_bc_20 dX8_insert_66 rfl ?_
      refine sn_q_iconst sn_bc_20 dX8_insert_68 rfl ?_
      refine sn_q_isub sn_bc_20 dX8_insert_69 (by omega) (by omega) ?_
      refine sn_q_iald (P := 16) sn_bc_20 dX8_insert_70 sn_a16 rfl (by omega) (by omega) ?_
      refine sn_q_iast (P := 16) sn_bc_20 dX8_insert_71 sn_a16 rfl (by omega) (by omega) ?_
      refine sn_q_inc4 sn_bc_20 dX8_insert_72 rfl (by omega) (by omega) ?_
      refine sn_q_goto (t := 50) sn_bc_20 dX8_insert_75 rfl ?_
      obtain ⟨i', rfl⟩ : ∃ x : Nat, i = x + 1 := ⟨i - 1, by omega⟩
      have e9 : (((i' + 1 : Nat) : Int) + -1) = (i' : Int) := by omega
      rw [e9]
      refine ih i' (by omega) _ (by omega) (by omega) (fun a c g => (sn_s_p g).trans (hg a c g)) (fun j g1 g2 => ?_) (fun j g1 g2 => ?_)
      · rw [sn_s_j (by omega)]; exact h1 j (by omega) (by omega)
      · by_cases e : j = ((i' + 1 : Nat) : Int)
        · rw [e, sn_s_e]; exact h1 _ (by omega) (by omega)
        · rw [sn_s_j e]; exact h2 j (by omega) g2
  refine sn_q_aloadn sn_bc_20 dX8_insert_0 rfl ?_
  refine sn_q_geti (P := 15) (J := 3) sn_bc_20 dX8_insert_1 sn_oc_20 sn_pf_8_18 (by decide) rfl rfl rfl rfl ?_
  refine sn_q_bipush sn_bc_20 dX8_insert_4 rfl ?_
  refine sn_q_iclt (t := 10) sn_bc_20 dX8_insert_6 rfl (fun c_6 => ?_) (fun c_6 => ?_)
  · refine sn_q_aloadn sn_bc_20 dX8_insert_10 rfl ?_
    refine sn_q_getr (v := 9) sn_bc_20 dX8_insert_11 sn_oc_20 sn_pf_8_25 (by decide) rfl rfl (by decide) ?_
    refine sn_q_getr (v := 14) sn_bc_20 dX8_insert_14 sn_oc_20 sn_pf_8_29 (by decide) rfl rfl (by decide) ?_
    refine sn_q_iloadn sn_bc_20 dX8_insert_17 rfl ?_
    refine sn_q_iald (P := 14) sn_bc_20 dX8_insert_18 sn_a14 rfl (by omega) (by omega) ?_
    refine sn_q_ifne (t := 26) sn_bc_20 dX8_insert_19 rfl (fun c_19 => ?_) (fun c_19 => ?_)
    · refine sn_q_iconst sn_bc_20 dX8_insert_26 rfl ?_
      refine sn_q_istn2 sn_bc_20 dX8_insert_27 rfl ?_
      refine sn_q_iloadn sn_bc_20 dX8_insert_28 rfl ?_
      refine sn_q_ifeq (t := 39) sn_bc_20 dX8_insert_29 rfl (fun _ => ?_) (fun c => absurd (by decide) c)
      refine sn_q_aloadn sn_bc_20 dX8_insert_39 rfl ?_
      refine sn_q_geti (P := 15) (J := 3) sn_bc_20 dX8_insert_40 sn_oc_20 sn_pf_8_18 (by decide) rfl rfl rfl rfl ?_
      refine sn_q_istn3 sn_bc_20 dX8_insert_43 rfl ?_
      refine sn_q_aloadn sn_bc_20 dX8_insert_44 rfl ?_
      refine sn_q_geti (P := 15) (J := 3) sn_bc_20 dX8_insert_45 sn_oc_20 sn_pf_8_18 (by decide) rfl rfl rfl rfl ?_
      refine sn_q_ist4 sn_bc_20 dX8_insert_48 rfl ?_
      obtain ⟨c, hc⟩ : ∃ c : Nat, (c : Int) = σ 15 3 := ⟨(σ 15 3).toNat, by omega⟩
      rw [← hc]
      first
        | exact loop 1 (σ 15 4) (by omega) (by omega) (fun τ g1 g2 g3 g4 g5 g6 => kk τ _ _ (Or.inl ⟨by omega, rfl, rfl⟩) g1 g2 g3 g4 g5 g6) (by omega) c σ (by omega) (by omega) (fun _ _ _ => rfl) (fun _ _ _ => rfl) (fun j g1 g2 => by omega)
        | (rw [hc]; have q := loop 0 (σ 15 3) (by omega) (by omega) (fun τ g1 g2 g3 g4 g5 g6 => kk τ _ _ (Or.inr ⟨by omega, rfl, rfl⟩) g1 g2 g3 g4 g5 g6) (by omega) c σ (by omega) (by omega) (fun _ _ _ => rfl) (fun _ _ _ => rfl) (fun j g1 g2 => by omega); rw [hc] at q; exact q)
    · refine sn_q_iconst sn_bc_20 dX8_insert_22 rfl ?_
      refine sn_q_goto (t := 27) sn_bc_20 dX8_insert_23 rfl ?_
      refine sn_q_istn2 sn_bc_20 dX8_insert_27 rfl ?_
      refine sn_q_iloadn sn_bc_20 dX8_insert_28 rfl ?_
      refine sn_q_ifeq (t := 39) sn_bc_20 dX8_insert_29 rfl (fun c => absurd c (by decide)) (fun _ => ?_)
      refine sn_q_aloadn sn_bc_20 dX8_insert_32 rfl ?_
      refine sn_q_geti (P := 15) (J := 4) sn_bc_20 dX8_insert_33 sn_oc_20 sn_pf_8_22 (by decide) rfl rfl rfl rfl ?_
      refine sn_q_goto (t := 43) sn_bc_20 dX8_insert_36 rfl ?_
      refine sn_q_istn3 sn_bc_20 dX8_insert_43 rfl ?_
      refine sn_q_aloadn sn_bc_20 dX8_insert_44 rfl ?_
      refine sn_q_geti (P := 15) (J := 3) sn_bc_20 dX8_insert_45 sn_oc_20 sn_pf_8_18 (by decide) rfl rfl rfl rfl ?_
      refine sn_q_ist4 sn_bc_20 dX8_insert_48 rfl ?_
      obtain ⟨c, hc⟩ : ∃ c : Nat, (c : Int) = σ 15 3 := ⟨(σ 15 3).toNat, by omega⟩
      rw [← hc]
      first
        | exact loop 1 (σ 15 4) (by omega) (by omega) (fun τ g1 g2 g3 g4 g5 g6 => kk τ _ _ (Or.inl ⟨by omega, rfl, rfl⟩) g1 g2 g3 g4 g5 g6) (by omega) c σ (by omega) (by omega) (fun _ _ _ => rfl) (fun _ _ _ => rfl) (fun j g1 g2 => by omega)
        | (rw [hc]; have q := loop 0 (σ 15 3) (by omega) (by omega) (fun τ g1 g2 g3 g4 g5 g6 => kk τ _ _ (Or.inr ⟨by omega, rfl, rfl⟩) g1 g2 g3 g4 g5 g6) (by omega) c σ (by omega) (by omega) (fun _ _ _ => rfl) (fun _ _ _ => rfl) (fun j g1 g2 => by omega); rw [hc] at q; exact q)
  · refine sn_q_vret sn_bc_20 dX8_insert_9 rfl ?_
    exfalso; omega
