/-! calls of the contest, second lot -/
theorem sk_sum_upd {f g : Int → Int} {w : Int} : ∀ m : Nat, 0 ≤ w → w < (m : Int) → (∀ i : Int, 0 ≤ i → i < (m : Int) → i ≠ w → g i = f i) → sn_sum g m = sn_sum f m + (g w - f w)
  | 0, h0, h1, _ => by omega
  | m + 1, h0, h1, h => by
    show sn_sum g m + g m = sn_sum f m + f m + (g w - f w)
    by_cases e : w = (m : Int)
    · have := sn_sum_c (f := g) (g := f) m (fun i q => h i (by omega) (by omega) (by omega))
      rw [e]; omega
    · have h2 := sk_sum_upd m h0 (by omega) (fun i a1 a2 a3 => h i a1 (by omega) a3)
      have h3 := h m (by omega) (by omega) (by omega)
      omega
theorem sk_St_ins {σ τ : Int → Int → Int} {w f : Int} (h : sk_St σ) (h0 : 0 ≤ w) (h8 : w < 8) (hn : σ 10 w = 0) (f0 : 0 ≤ f) (f1 : f ≤ σ 15 3) (ef : τ 16 f = w) (lo : ∀ i, i < f → τ 16 i = σ 16 i) (hi : ∀ i, f < i → i ≤ σ 15 3 → τ 16 i = σ 16 (i - 1)) (e15 : τ 15 3 = σ 15 3 + 1) (e9 : τ 9 0 = σ 9 0 + 1) (e4 : 0 ≤ τ 15 4 ∧ τ 15 4 ≤ τ 15 3) (e10 : τ 10 w ≠ 0) (e10' : ∀ c, c ≠ w → τ 10 c = σ 10 c) (hp : sn_p9 τ) : sk_St τ := by
  obtain ⟨a1, a2, a3, a4, a5, a6⟩ := h
  have old : ∀ i, 0 ≤ i → i < τ 15 3 → i ≠ f → ∃ j, 0 ≤ j ∧ j < σ 15 3 ∧ τ 16 i = σ 16 j ∧ ((i < f ∧ j = i) ∨ (f < i ∧ j = i - 1)) := fun i b1 b2 b3 => by
    by_cases e : i < f
    · exact ⟨i, b1, by omega, lo i e, by omega⟩
    · exact ⟨i - 1, by omega, by omega, hi i (by omega) (by omega), by omega⟩
  have neq : ∀ j, 0 ≤ j → j < σ 15 3 → σ 16 j ≠ w := fun j b1 b2 z => by
    have := (a3 j b1 b2).2.2
    rw [z] at this
    exact this hn
  refine ⟨by omega, e4, fun i b1 b2 => ?_, fun i j b1 b2 b3 => ?_, fun s b1 b2 b3 => ?_, hp⟩
  · by_cases e : i = f
    · rw [e, ef]; exact ⟨h0, h8, e10⟩
    · obtain ⟨j, c1, c2, c3, -⟩ := old i b1 b2 e
      rw [c3, e10' _ (neq j c1 c2)]
      exact a3 j c1 c2
  · by_cases e : i = f
    · obtain ⟨m, c1, c2, c3, -⟩ := old j (by omega) b3 (by omega)
      rw [e, ef, c3]
      exact fun z => neq m c1 c2 z.symm
    · obtain ⟨m, c1, c2, c3, c4⟩ := old i b1 (by omega) e
      by_cases e2 : j = f
      · rw [e2, ef, c3]; exact neq m c1 c2
      · obtain ⟨m', d1, d2, d3, d4⟩ := old j (by omega) b3 e2
        rw [c3, d3]
        exact a4 m m' c1 (by omega) d2
  · by_cases e : s = w
    · exact ⟨f, f0, by omega, by rw [ef, e]⟩
    · rw [e10' s e] at b3
      obtain ⟨p, c1, c2, c3⟩ := a5 s b1 b2 b3
      by_cases e2 : p < f
      · exact ⟨p, c1, by omega, (lo p e2).trans c3⟩
      · exact ⟨p + 1, by omega, by omega, by rw [hi (p + 1) (by omega) (by omega), show p + 1 - 1 = p by omega]; exact c3⟩
theorem sk_A_in {σ τ : Int → Int → Int} {w : Int} (h : sk_A σ) (h0 : 0 ≤ w) (h8 : w < 8) (hn : σ 10 w = 0) (hl : w < σ 3 0) (e3 : τ 3 0 = σ 3 0) (e9 : τ 9 0 = σ 9 0 + 1) (e91 : τ 9 1 = σ 9 1) (e10 : τ 10 w ≠ 0) (e10' : ∀ c, c ≠ w → τ 10 c = σ 10 c) (e11 : ∀ c, τ 11 c = σ 11 c) : sk_A τ := by
  obtain ⟨a1, a2, a3, a4⟩ := h
  have hout := a4 w h0 h8 hn
  refine ⟨fun s b1 b2 b3 => ?_, ?_, ?_, fun s b1 b2 b3 => ?_⟩
  · by_cases e : s = w
    · omega
    · rw [e10' s e] at b3; rw [e3]; exact a1 s b1 b2 b3
  · have := sk_sum_upd (f := fun s => if σ 10 s = 0 then (0 : Int) else 1) (g := fun s => if τ 10 s = 0 then (0 : Int) else 1) (w := w) 8 h0 h8 (fun i _ _ b => by rw [e10' i b])
    rw [if_pos hn, if_neg e10] at this
    rw [e9, a2]
    exact this.symm
  · have := sk_sum_upd (f := fun s => if σ 10 s ≠ 0 ∧ σ 11 s = 0 then (1 : Int) else 0) (g := fun s => if τ 10 s ≠ 0 ∧ τ 11 s = 0 then (1 : Int) else 0) (w := w) 8 h0 h8 (fun i _ _ b => by rw [e10' i b, e11])
    rw [if_pos (show τ 10 w ≠ 0 ∧ τ 11 w = 0 from ⟨e10, by rw [e11]; exact hout⟩), if_neg (show ¬ (σ 10 w ≠ 0 ∧ σ 11 w = 0) from fun z => z.1 hn)] at this
    have h2 : sn_rn τ 8 = sn_rn σ 8 + (1 - 0) := this
    omega
  · by_cases e : s = w
    · rw [e] at b3; exact absurd b3 e10
    · rw [e10' s e] at b3; rw [e11]; exact a4 s b1 b2 b3
theorem sk_enter_end {σ τ : Int → Int → Int} {w x z0 hlf u z f : Int} (hI : sk_Iv σ) (h1 : 0 ≤ w) (h2 : w < σ 3 0) (hn : σ 10 w = 0) (hng : ∀ b, 0 ≤ b → b < 40 → σ 61 b = 0) (hz0 : 0 ≤ z0 ∧ z0 ≤ 9) (hz : (z = 1 ∧ f = σ 15 4) ∨ (z = 0 ∧ f = σ 15 3)) (hf : ∀ a c, a ≠ 16 → ¬ (a = 15 ∧ (c = 3 ∨ c = 4)) → τ a c = (sn_s (sn_s (sn_s (sn_s (sn_s σ 10 w 1) 12 w x) 13 w z0) 14 w hlf) 9 0 (σ 9 0 + 1)) a c) (e153 : τ 15 3 = σ 15 3 + 1) (e154 : τ 15 4 = σ 15 4 + z) (e16 : τ 16 f = w) (hlo : ∀ i, i < f → τ 16 i = σ 16 i) (hhi : ∀ i, f < i → i ≤ σ 15 3 → τ 16 i = σ 16 (i - 1)) (hc8 : σ 9 0 < 8) : sk_Iv (sn_s (sn_s τ 6 w u) 2 15 0) ∧ (∀ a c, a ≠ 16 → ¬ (a = 15 ∧ (c = 3 ∨ c = 4)) → ¬ ((a = 10 ∨ a = 12 ∨ a = 13 ∨ a = 14 ∨ a = 6) ∧ c = w) → ¬ (a = 9 ∧ c = 0) → ¬ (a = 2 ∧ c = 15) → sn_s (sn_s τ 6 w u) 2 15 0 a c = σ a c) ∧ sn_s (sn_s τ 6 w u) 2 15 0 10 w = 1 ∧ sn_s (sn_s τ 6 w u) 2 15 0 9 0 = σ 9 0 + 1 := by
  have fr : ∀ a c, a ≠ 16 → ¬ (a = 15 ∧ (c = 3 ∨ c = 4)) → ¬ ((a = 10 ∨ a = 12 ∨ a = 13 ∨ a = 14 ∨ a = 6) ∧ c = w) → ¬ (a = 9 ∧ c = 0) → ¬ (a = 2 ∧ c = 15) → sn_s (sn_s τ 6 w u) 2 15 0 a c = σ a c := fun a c g1 g2 g3 g4 g5 => by
    rw [show sn_s (sn_s τ 6 w u) 2 15 0 a c = τ a c from by unfold sn_s; rw [if_neg g5, if_neg (by omega)], hf a c g1 g2]
    unfold sn_s
    rw [if_neg g4, if_neg (by omega), if_neg (by omega), if_neg (by omega), if_neg (by omega)]
  have t : ∀ a c, a ≠ 6 → a ≠ 2 → sn_s (sn_s τ 6 w u) 2 15 0 a c = τ a c := fun a c g1 g2 => by rw [sn_s_p g2, sn_s_p g1]
  have e10 : sn_s (sn_s τ 6 w u) 2 15 0 10 w = 1 := by
    rw [t _ _ (by omega) (by omega), hf _ _ (by omega) (by omega), sn_s_p (by omega), sn_s_p (by omega), sn_s_p (by omega), sn_s_p (by omega), sn_s_e]
  have e13 : sn_s (sn_s τ 6 w u) 2 15 0 13 w = z0 := by
    rw [t _ _ (by omega) (by omega), hf _ _ (by omega) (by omega), sn_s_p (by omega), sn_s_p (by omega), sn_s_e]
  have e9 : sn_s (sn_s τ 6 w u) 2 15 0 9 0 = σ 9 0 + 1 := by
    rw [t _ _ (by omega) (by omega), hf _ _ (by omega) (by omega), sn_s_e]
  obtain ⟨q1, q2, q3, q4, q5, q6⟩ := hI
  have h15 := q1.2.2.2.1
  have h38 := q1.1.2
  have q31 := q3.1
  have q32 := q3.2.1
  have hC : sk_C (sn_s (sn_s τ 6 w u) 2 15 0) := ⟨fun l j a1 a2 a3 a4 a5 => by rw [fr 61 _ (by omega) (by omega) (by omega) (by omega) (by omega), hng _ (by omega) (by omega)] at a5; exact absurd rfl a5, fun b a1 a2 => by rw [fr 60 _ (by omega) (by omega) (by omega) (by omega) (by omega)]; exact q4.2 b a1 a2⟩
  refine ⟨⟨sk_In_0 q1 (fun a c g => fr a c (by omega) (by omega) (by omega) (by omega) (by omega)) (by rw [fr 3 0 (by omega) (by omega) (by omega) (by omega) (by omega)]; omega) (by rw [fr 3 0 (by omega) (by omega) (by omega) (by omega) (by omega)]; exact h38) hC (by rw [t _ _ (by omega) (by omega), e153]; omega) sn_s_e, ?_, ?_, hC, sk_D_t q5 (fun a c g => fr a c (by omega) (by omega) (by omega) (by omega) (by omega)), sk_E_t q6 (fun a c g => fr a c (by omega) (by omega) (by omega) (by omega) (by omega))⟩, fr, e10, e9⟩
  · exact sk_A_in q2 h1 (by omega) hn h2 (fr 3 0 (by omega) (by omega) (by omega) (by omega) (by omega)) e9 (fr 9 1 (by omega) (by omega) (by omega) (by omega) (by omega)) (by rw [e10]; decide) (fun c g => fr 10 c (by omega) (by omega) (by omega) (by omega) (by omega)) (fun c => fr 11 c (by omega) (by omega) (by omega) (by omega) (by omega))
  · refine sk_St_ins (w := w) (f := f) q3 h1 (by omega) hn (by omega) (by omega) (by rw [t _ _ (by omega) (by omega)]; exact e16) (fun i g => by rw [t _ _ (by omega) (by omega)]; exact hlo i g) (fun i g1 g2 => by rw [t _ _ (by omega) (by omega)]; exact hhi i g1 g2) (by rw [t _ _ (by omega) (by omega)]; exact e153) e9 (by rw [t _ _ (by omega) (by omega), t _ _ (by omega) (by omega)]; omega) (by rw [e10]; decide) (fun c g => fr 10 c (by omega) (by omega) (by omega) (by omega) (by omega)) (fun s a1 a2 => ?_)
    by_cases e : s = w
    · rw [e, e13]; exact hz0
    · rw [fr 13 s (by omega) (by omega) (by omega) (by omega) (by omega)]; exact q3.2.2.2.2.2 s a1 a2
theorem sk_enter {n k : Nat} {Y : Nat → Nat × Nat} {X : Nat → Nat → sn_V} {σ : Int → Int → Int} {Q : Option sn_V → sn_H → Prop} {w x y z0 : Int} (hI : sk_Iv σ) (hph : σ 2 10 = 0) (h1 : 0 ≤ w) (h2 : w < σ 3 0) (hn : σ 10 w = 0) (h3 : 1 ≤ x) (h4 : x ≤ 600) (hx : x ≤ σ 211 0) (h5 : 1 ≤ y) (h6 : y ≤ 20) (hy : y ≤ σ 211 1) (h7 : 0 ≤ z0) (h8 : z0 ≤ 9) (hyr : 0 ≤ σ 2 9) (hyr2 : σ 2 9 ≤ 20) (hng : ∀ b, 0 ≤ b → b < 40 → σ 61 b = 0) (kk : ∀ (r : Int) (τ : Int → Int → Int), 0 ≤ r → sk_Iv τ → (∀ a c, a ≠ 16 → ¬ (a = 15 ∧ (c = 3 ∨ c = 4)) → ¬ ((a = 10 ∨ a = 12 ∨ a = 13 ∨ a = 14 ∨ a = 6) ∧ c = w) → ¬ (a = 9 ∧ c = 0) → ¬ (a = 2 ∧ c = 15) → τ a c = σ a c) → τ 10 w = 1 → τ 9 0 = σ 9 0 + 1 → Q (some (sn_i r)) (sn_hh n k Y τ X)) : sn_Wp 17 0 [sn_r 2, sn_i w, sn_i x, sn_i y, sn_i z0, sn_u] [] (sn_hh n k Y σ X) Q := by
  have h38 := hI.1.1.2
  have hA := sk_A_bd hI.2.1
  have hS1 := hI.2.2.1.1
  have hS2 := hI.2.2.1.2.1
  have h15 := hI.1.2.2.2.1
  have hc8 : σ 9 0 < 8 := by
    have h2 := sk_sum_le (f := fun s => if σ 10 s = 0 then (0 : Int) else 1) (g := fun s => if s = w then (0 : Int) else 1) 8 (fun i _ => if e : (i : Int) = w then (by rw [e, if_pos hn, if_pos rfl]; decide) else (by rw [if_neg e]; split <;> decide))
    have h3 := sk_sum_upd (f := fun _ => (1 : Int)) (g := fun s => if s = w then (0 : Int) else 1) (w := w) 8 h1 (by omega) (fun i _ _ b => if_neg b)
    have h4 : sn_sum (fun _ => (1 : Int)) 8 = 8 := rfl
    have h5 : σ 9 0 = sn_sum (fun s => if σ 10 s = 0 then (0 : Int) else 1) 8 := hI.2.1.2.1
    rw [if_pos rfl] at h3
    omega
  refine sn_q_aloadn sn_bc_17 dX9_enter_0 rfl ?_
  refine sn_q_iloadn sn_bc_17 dX9_enter_1 rfl ?_
  refine sn_q_invV sn_bc_17 dX9_enter_2 sn_oc_17 sn_pv_9_152 (by decide) rfl (by decide) (sn_h1 (by decide)) rfl rfl rfl rfl (sp_needLand h1 h2 hI.1.1.2 ?_)
  refine sn_q_iloadn sn_bc_17 dX9_enter_5 rfl ?_
  refine sn_q_iconst sn_bc_17 dX9_enter_6 rfl ?_
  refine sn_q_sipush sn_bc_17 dX9_enter_7 rfl ?_
  refine sn_q_invS sn_bc_17 dX9_enter_10 sn_oc_17 sn_px_9_103 sn_ps_9_103 (by decide) rfl rfl rfl (sp_isWithin (fun w1 w2 => ?_) (fun w => ?_))
  · refine sn_q_ifeq (t := 37) sn_bc_17 dX9_enter_13 rfl (fun c => absurd c (by decide)) (fun _ => ?_)
    refine sn_q_iloadn sn_bc_17 dX9_enter_16 rfl ?_
    refine sn_q_iconst sn_bc_17 dX9_enter_17 rfl ?_
    refine sn_q_bipush sn_bc_17 dX9_enter_18 rfl ?_
    refine sn_q_invS sn_bc_17 dX9_enter_20 sn_oc_17 sn_px_9_103 sn_ps_9_103 (by decide) rfl rfl rfl (sp_isWithin (fun w1 w2 => ?_) (fun w => ?_))
    · refine sn_q_ifeq (t := 37) sn_bc_17 dX9_enter_23 rfl (fun c => absurd c (by decide)) (fun _ => ?_)
      refine sn_q_iload sn_bc_17 dX9_enter_26 rfl ?_
      refine sn_q_iconst sn_bc_17 dX9_enter_28 rfl ?_
      refine sn_q_bipush sn_bc_17 dX9_enter_29 rfl ?_
      refine sn_q_invS sn_bc_17 dX9_enter_31 sn_oc_17 sn_px_9_103 sn_ps_9_103 (by decide) rfl rfl rfl (sp_isWithin (fun w1 w2 => ?_) (fun w => ?_))
      · refine sn_q_ifne (t := 47) sn_bc_17 dX9_enter_34 rfl (fun _ => ?_) (fun c => absurd (by decide) c)
        refine sn_q_aloadn sn_bc_17 dX9_enter_47 rfl ?_
        refine sn_q_iconst sn_bc_17 dX9_enter_48 rfl ?_
        refine sn_q_invV sn_bc_17 dX9_enter_49 sn_oc_17 sn_pv_9_114 (by decide) rfl (by decide) (sn_h1 (by decide)) rfl rfl rfl rfl (sp_needPhase hph ?_)
        refine sn_q_aloadn sn_bc_17 dX9_enter_52 rfl ?_
        refine sn_q_getr (v := 9) sn_bc_17 dX9_enter_53 sn_oc_17 sn_pf_9_42 (by decide) rfl rfl (by decide) ?_
        refine sn_q_getr (v := 10) sn_bc_17 dX9_enter_56 sn_oc_17 sn_pf_9_157 (by decide) rfl rfl (by decide) ?_
        refine sn_q_iloadn sn_bc_17 dX9_enter_59 rfl ?_
        refine sn_q_bald (P := 10) sn_bc_17 dX9_enter_60 sn_a10 rfl (by omega) (by omega) ?_
        refine sn_q_ifeq (t := 74) sn_bc_17 dX9_enter_61 rfl (fun c_61 => ?_) (fun c_61 => ?_)
        · refine sn_q_iloadn sn_bc_17 dX9_enter_74 rfl ?_
          refine sn_q_aloadn sn_bc_17 dX9_enter_75 rfl ?_
          refine sn_q_getr (v := 211) sn_bc_17 dX9_enter_76 sn_oc_17 sn_pf_9_32 (by decide) rfl rfl (by decide) ?_
          refine sn_q_geti (P := 211) (J := 0) sn_bc_17 dX9_enter_79 sn_oc_17 sn_pf_9_137 (by decide) rfl rfl rfl rfl ?_
          refine sn_q_icle (t := 88) sn_bc_17 dX9_enter_82 rfl (fun c_82 => ?_) (fun c_82 => ?_)
          · refine sn_q_iloadn sn_bc_17 dX9_enter_88 rfl ?_
            refine sn_q_aloadn sn_bc_17 dX9_enter_89 rfl ?_
            refine sn_q_getr (v := 211) sn_bc_17 dX9_enter_90 sn_oc_17 sn_pf_9_32 (by decide) rfl rfl (by decide) ?_
            refine sn_q_geti (P := 211) (J := 1) sn_bc_17 dX9_enter_93 sn_oc_17 sn_pf_9_140 (by decide) rfl rfl rfl rfl ?_
            refine sn_q_icle (t := 102) sn_bc_17 dX9_enter_96 rfl (fun c_96 => ?_) (fun c_96 => ?_)
            · refine sn_q_bipush sn_bc_17 dX9_enter_102 rfl ?_
              refine sn_q_iloadn sn_bc_17 dX9_enter_104 rfl ?_
              refine sn_q_imul sn_bc_17 dX9_enter_105 (by omega) (by omega) ?_
              refine sn_q_iconst sn_bc_17 dX9_enter_106 rfl ?_
              refine sn_q_aloadn sn_bc_17 dX9_enter_107 rfl ?_
              refine sn_q_geti (P := 2) (J := 9) sn_bc_17 dX9_enter_108 sn_oc_17 sn_pf_9_80 (by decide) rfl rfl rfl rfl ?_
              refine sn_q_imul sn_bc_17 dX9_enter_111 (by omega) (by omega) ?_
              refine sn_q_iadd sn_bc_17 dX9_enter_112 (by omega) (by omega) ?_
              refine sn_q_iloadn sn_bc_17 dX9_enter_113 rfl ?_
              refine sn_q_iadd sn_bc_17 dX9_enter_114 (by omega) (by omega) ?_
              refine sn_q_iconst sn_bc_17 dX9_enter_115 rfl ?_
              refine sn_q_irem sn_bc_17 dX9_enter_116 (by omega) (by omega) (by omega) (by omega) ?_
              refine sn_q_ist5 sn_bc_17 dX9_enter_117 rfl ?_
              refine sn_q_aloadn sn_bc_17 dX9_enter_119 rfl ?_
              refine sn_q_getr (v := 9) sn_bc_17 dX9_enter_120 sn_oc_17 sn_pf_9_42 (by decide) rfl rfl (by decide) ?_
              refine sn_q_iloadn sn_bc_17 dX9_enter_123 rfl ?_
              refine sn_q_iloadn sn_bc_17 dX9_enter_124 rfl ?_
              refine sn_q_iload sn_bc_17 dX9_enter_125 rfl ?_
              refine sn_q_iload sn_bc_17 dX9_enter_127 rfl ?_
              refine sn_q_invV sn_bc_17 dX9_enter_129 sn_oc_17 sn_pv_9_163 (by decide) rfl (by decide) (sn_h1 (by decide)) rfl rfl rfl rfl (sp_Songs_add h1 (by omega) (by omega) (by omega) ?_)
              have s1 : ∀ a c, ¬ (a = 9 ∧ c = 0) → ¬ (10 ≤ a ∧ a ≤ 14) → (sn_s (sn_s (sn_s (sn_s (sn_s σ 10 w 1) 12 w x) 13 w z0) 14 w ((7 * w + 3 * σ 2 9 + x) % 2)) 9 0 (σ 9 0 + 1)) a c = σ a c := fun a c g1 g2 => by
                unfold sn_s
                rw [if_neg g1, if_neg (by omega), if_neg (by omega), if_neg (by omega), if_neg (by omega)]
              refine sn_q_aloadn sn_bc_17 dX9_enter_132 rfl ?_
              refine sn_q_getr (v := 15) sn_bc_17 dX9_enter_133 sn_oc_17 sn_pf_9_46 (by decide) rfl rfl (by decide) ?_
              refine sn_q_iloadn sn_bc_17 dX9_enter_136 rfl ?_
              refine sn_q_invV sn_bc_17 dX9_enter_137 sn_oc_17 sn_pv_9_166 (by decide) rfl (by decide) (sn_h1 (by decide)) rfl rfl rfl rfl (sp_insert (by rw [s1 15 3 (by omega) (by omega)]; omega) (by rw [s1 15 3 (by omega) (by omega)]; omega) (by rw [s1 15 4 (by omega) (by omega)]; omega) (by rw [s1 15 4 (by omega) (by omega), s1 15 3 (by omega) (by omega)]; omega) h1 (by omega) (fun τ z f hz hf e153 e154 e16 hlo hhi => ?_))
              refine sn_q_aloadn sn_bc_17 dX9_enter_140 rfl ?_
              refine sn_q_getr (v := 3) sn_bc_17 dX9_enter_141 sn_oc_17 sn_pf_9_38 (by decide) rfl rfl (by decide) ?_
              refine sn_q_getr (v := 6) sn_bc_17 dX9_enter_144 sn_oc_17 sn_pf_9_169 (by decide) rfl rfl (by decide) ?_
              refine sn_q_iloadn sn_bc_17 dX9_enter_147 rfl ?_
              refine sn_q_dup2 sn_bc_17 dX9_enter_148 rfl ?_
              refine sn_q_iald (P := 6) sn_bc_17 dX9_enter_149 sn_a6 rfl (by omega) (by omega) ?_
              refine sn_q_bipush sn_bc_17 dX9_enter_150 rfl ?_
              refine sn_q_isubW sn_bc_17 dX9_enter_152 ?_
              refine sn_q_iast (P := 6) sn_bc_17 dX9_enter_153 sn_a6 rfl (by omega) (by omega) ?_
              refine sn_q_aloadn sn_bc_17 dX9_enter_154 rfl ?_
              refine sn_q_iconst sn_bc_17 dX9_enter_155 rfl ?_
              refine sn_q_puti (P := 2) (J := 15) sn_bc_17 dX9_enter_156 sn_oc_17 sn_pf_9_99 (by decide) rfl rfl rfl rfl (sn_fz (by omega)) rfl ?_
              refine sn_q_iload sn_bc_17 dX9_enter_159 rfl ?_
              refine sn_q_iret sn_bc_17 dX9_enter_161 rfl ?_
              first
                | (exfalso; omega)
                | (obtain ⟨g1, g2, g3, g4⟩ := sk_enter_end (u := sn_wr (τ 6 w - 10)) (z := z) (f := f) hI h1 h2 hn hng ⟨h7, h8⟩ (by rw [s1 15 3 (by omega) (by omega), s1 15 4 (by omega) (by omega)] at hz; omega) hf (by rw [e153, s1 15 3 (by omega) (by omega)]) (by rw [e154, s1 15 4 (by omega) (by omega)]) e16 (fun i g => (hlo i g).trans (s1 16 i (by omega) (by omega))) (fun i g gg => (hhi i g (by rw [s1 15 3 (by omega) (by omega)]; exact gg)).trans (s1 16 _ (by omega) (by omega))) hc8
                   exact kk _ _ (by omega) g1 g2 g3 g4)
            · refine sn_q_bipush sn_bc_17 dX9_enter_99 rfl ?_
              refine sn_q_iret sn_bc_17 dX9_enter_101 rfl ?_
              first
                | (exfalso; omega)
                | (obtain ⟨g1, g2, g3, g4⟩ := sk_enter_end (u := sn_wr (τ 6 w - 10)) (z := z) (f := f) hI h1 h2 hn hng ⟨h7, h8⟩ (by rw [s1 15 3 (by omega) (by omega), s1 15 4 (by omega) (by omega)] at hz; omega) hf (by rw [e153, s1 15 3 (by omega) (by omega)]) (by rw [e154, s1 15 4 (by omega) (by omega)]) e16 (fun i g => (hlo i g).trans (s1 16 i (by omega) (by omega))) (fun i g gg => (hhi i g (by rw [s1 15 3 (by omega) (by omega)]; exact gg)).trans (s1 16 _ (by omega) (by omega))) hc8
                   exact kk _ _ (by omega) g1 g2 g3 g4)
          · refine sn_q_bipush sn_bc_17 dX9_enter_85 rfl ?_
            refine sn_q_iret sn_bc_17 dX9_enter_87 rfl ?_
            first
              | (exfalso; omega)
              | (obtain ⟨g1, g2, g3, g4⟩ := sk_enter_end (u := sn_wr (τ 6 w - 10)) (z := z) (f := f) hI h1 h2 hn hng ⟨h7, h8⟩ (by rw [s1 15 3 (by omega) (by omega), s1 15 4 (by omega) (by omega)] at hz; omega) hf (by rw [e153, s1 15 3 (by omega) (by omega)]) (by rw [e154, s1 15 4 (by omega) (by omega)]) e16 (fun i g => (hlo i g).trans (s1 16 i (by omega) (by omega))) (fun i g gg => (hhi i g (by rw [s1 15 3 (by omega) (by omega)]; exact gg)).trans (s1 16 _ (by omega) (by omega))) hc8
                 exact kk _ _ (by omega) g1 g2 g3 g4)
        · exfalso; omega
      · refine sn_q_ifne (t := 47) sn_bc_17 dX9_enter_34 rfl (fun c => absurd c (by decide)) (fun _ => ?_)
        exfalso; omega
    · refine sn_q_ifeq (t := 37) sn_bc_17 dX9_enter_23 rfl (fun _ => ?_) (fun c => absurd (by decide) c)
      exfalso; omega
  · refine sn_q_ifeq (t := 37) sn_bc_17 dX9_enter_13 rfl (fun _ => ?_) (fun c => absurd (by decide) c)
    exfalso; omega
theorem sk_St_sh {σ τ : Int → Int → Int} {s p pl : Int} (h : sk_St σ) (hp0 : 0 ≤ p) (hpc : p < σ 15 3) (hs : σ 16 p = s) (hl0 : 0 ≤ pl) (hlc : pl < σ 15 3) (e : ∀ a c, (a = 9 ∨ a = 10 ∨ a = 13 ∨ a = 15) → τ a c = σ a c) (ht : ∀ i, 0 ≤ i → i < σ 15 3 → τ 16 i = sk_tr σ s p pl i) : sk_St τ := by
  obtain ⟨a1, a2, a3, a4, a5, a6⟩ := h
  unfold sk_St sn_od sn_p9
  rw [e 15 3 (by omega), e 15 4 (by omega), e 9 0 (by omega)]
  refine ⟨a1, a2, fun i b1 b2 => ?_, fun i j b1 b2 b3 => ?_, fun x b1 b2 b3 => ?_, fun x b1 b2 => by rw [e 13 x (by omega)]; exact a6 x b1 b2⟩
  · obtain ⟨j, c1, c2, c3, -⟩ := sk_tr_in hp0 hpc hs hl0 hlc i b1 b2
    rw [ht i b1 b2, c3, e 10 _ (by omega)]
    exact a3 j c1 c2
  · obtain ⟨m, c1, c2, c3, c4⟩ := sk_tr_in hp0 hpc hs hl0 hlc i b1 (by omega)
    obtain ⟨m', d1, d2, d3, d4⟩ := sk_tr_in hp0 hpc hs hl0 hlc j (by omega) b3
    rw [ht i b1 (by omega), ht j (by omega) b3, c3, d3]
    rcases Int.lt_trichotomy m m' with g | g | g
    · exact a4 m m' c1 g d2
    · omega
    · exact fun z => a4 m' m d1 g c2 z.symm
  · rw [e 10 x (by omega)] at b3
    obtain ⟨j, c1, c2, c3⟩ := a5 x b1 b2 b3
    obtain ⟨i, d1, d2, d3⟩ := sk_tr_on hp0 hpc hs hl0 hlc j c1 c2
    exact ⟨i, d1, d2, by rw [ht i d1 d2, d3]; exact c3⟩
theorem sk_move {n k : Nat} {Y : Nat → Nat × Nat} {X : Nat → Nat → sn_V} {σ : Int → Int → Int} {Q : Option sn_V → sn_H → Prop} {s p pl : Int} (hI : sk_Iv σ) (hph : σ 2 10 = 0 ∨ σ 2 10 = 1) (h1 : 0 ≤ s) (h2 : s < σ 3 0) (hn : σ 10 s ≠ 0) (hh : sk_hf σ s pl) (h3 : 0 ≤ pl) (h4 : pl < σ 15 3) (hp0 : 0 ≤ p) (hpc : p < σ 15 3) (hps : σ 16 p = s) (kk : ∀ τ, sk_Iv τ → (∀ a c, a ≠ 16 → a ≠ 17 → ¬ (a = 2 ∧ c = 15) → τ a c = σ a c) → Q (some (sn_i (sn_dx σ (sk_tr σ s p pl) (σ 15 3 - 1).toNat))) (sn_hh n k Y τ X)) : sn_Wp 66 0 [sn_r 2, sn_i s, sn_i pl] [] (sn_hh n k Y σ X) Q := by
  have h15 := hI.1.2.2.2.1
  have hS1 := hI.2.2.1.1
  have h38 := hI.1.1.2
  refine sn_q_aloadn sn_bc_66 dX9_move_0 rfl ?_
  refine sn_q_iloadn sn_bc_66 dX9_move_1 rfl ?_
  refine sn_q_invV sn_bc_66 dX9_move_2 sn_oc_66 sn_pv_9_152 (by decide) rfl (by decide) (sn_h1 (by decide)) rfl rfl rfl rfl (sp_needLand h1 h2 hI.1.1.2 ?_)
  refine sn_q_iloadn sn_bc_66 dX9_move_5 rfl ?_
  refine sn_q_iconst sn_bc_66 dX9_move_6 rfl ?_
  refine sn_q_aloadn sn_bc_66 dX9_move_7 rfl ?_
  refine sn_q_getr (v := 9) sn_bc_66 dX9_move_8 sn_oc_66 sn_pf_9_42 (by decide) rfl rfl (by decide) ?_
  refine sn_q_geti (P := 9) (J := 0) sn_bc_66 dX9_move_11 sn_oc_66 sn_pf_9_134 (by decide) rfl rfl rfl rfl ?_
  refine sn_q_iconst sn_bc_66 dX9_move_14 rfl ?_
  refine sn_q_isub sn_bc_66 dX9_move_15 (by omega) (by omega) ?_
  have hA := sk_A_bd hI.2.1
  refine sn_q_invS sn_bc_66 dX9_move_16 sn_oc_66 sn_px_9_103 sn_ps_9_103 (by decide) rfl rfl rfl (sp_isWithin (fun w1 w2 => ?_) (fun w => ?_))
  · refine sn_q_ifne (t := 32) sn_bc_66 dX9_move_19 rfl (fun _ => ?_) (fun c => absurd (by decide) c)
    refine sn_q_aloadn sn_bc_66 dX9_move_32 rfl ?_
    refine sn_q_invV sn_bc_66 dX9_move_33 sn_oc_66 sn_pv_9_181 (by decide) rfl (by decide) (sn_h1 (by decide)) rfl rfl rfl rfl (sp_canMove (fun w1 => ?_) (fun w => ?_))
    · refine sn_q_ifeq (t := 63) sn_bc_66 dX9_move_36 rfl (fun c => absurd c (by decide)) (fun _ => ?_)
      refine sn_q_aloadn sn_bc_66 dX9_move_39 rfl ?_
      refine sn_q_getr (v := 9) sn_bc_66 dX9_move_40 sn_oc_66 sn_pf_9_42 (by decide) rfl rfl (by decide) ?_
      refine sn_q_getr (v := 10) sn_bc_66 dX9_move_43 sn_oc_66 sn_pf_9_157 (by decide) rfl rfl (by decide) ?_
      refine sn_q_iloadn sn_bc_66 dX9_move_46 rfl ?_
      refine sn_q_bald (P := 10) sn_bc_66 dX9_move_47 sn_a10 rfl (by omega) (by omega) ?_
      refine sn_q_ifeq (t := 63) sn_bc_66 dX9_move_48 rfl (fun c_48 => ?_) (fun c_48 => ?_)
      · exfalso
        unfold sk_hf at hh
        omega
      · refine sn_q_aloadn sn_bc_66 dX9_move_51 rfl ?_
        refine sn_q_getr (v := 15) sn_bc_66 dX9_move_52 sn_oc_66 sn_pf_9_46 (by decide) rfl rfl (by decide) ?_
        refine sn_q_iloadn sn_bc_66 dX9_move_55 rfl ?_
        refine sn_q_iloadn sn_bc_66 dX9_move_56 rfl ?_
        refine sn_q_invV sn_bc_66 dX9_move_57 sn_oc_66 sn_pv_9_185 (by decide) rfl (by decide) (sn_h1 (by decide)) rfl rfl rfl rfl (sp_isOfHalf h1 (by omega) (fun w1 => ?_) (fun w => ?_))
        · refine sn_q_ifne (t := 73) sn_bc_66 dX9_move_60 rfl (fun _ => ?_) (fun c => absurd (by decide) c)
          refine sn_q_aloadn sn_bc_66 dX9_move_73 rfl ?_
          refine sn_q_getr (v := 15) sn_bc_66 dX9_move_74 sn_oc_66 sn_pf_9_46 (by decide) rfl rfl (by decide) ?_
          refine sn_q_iloadn sn_bc_66 dX9_move_77 rfl ?_
          refine sn_q_iloadn sn_bc_66 dX9_move_78 rfl ?_
          refine sn_q_invV sn_bc_66 dX9_move_79 sn_oc_66 sn_pv_9_191 (by decide) rfl (by decide) (sn_h1 (by decide)) rfl rfl rfl rfl (sp_shift (p := p) hI.1.2.2.2.1.1 hI.1.2.2.2.1.2 hp0 hpc hps hI.2.2.1.2.2.2.1 h3 h4 (fun τ hg hv => ?_))
          refine sn_q_aloadn sn_bc_66 dX9_move_82 rfl ?_
          refine sn_q_iconst sn_bc_66 dX9_move_83 rfl ?_
          refine sn_q_puti (P := 2) (J := 15) sn_bc_66 dX9_move_84 sn_oc_66 sn_pf_9_99 (by decide) rfl rfl rfl rfl (sn_fz (by omega)) rfl ?_
          have g2 : ∀ a c, a ≠ 16 → a ≠ 17 → a ≠ 2 → sn_s τ 2 15 0 a c = σ a c := fun a c z1 z2 z3 => by rw [sn_s_p z3]; exact hg a c z1 z2
          have hI2 : sk_Iv (sn_s τ 2 15 0) := by
            obtain ⟨q1, q2, q3, q4, q5, q6⟩ := hI
            have hC := sk_C_t q4 (fun a c g => g2 a c (by omega) (by omega) (by omega))
            exact ⟨sk_In_0 q1 (fun a c g => g2 a c (by omega) (by omega) (by omega)) (by rw [g2 3 0 (by omega) (by omega) (by omega)]; omega) (by rw [g2 3 0 (by omega) (by omega) (by omega)]; exact q1.1.2) hC (by rw [g2 15 3 (by omega) (by omega) (by omega)]; exact q1.2.2.2.1) sn_s_e, sk_A_t q2 (fun a c g => g2 a c (by omega) (by omega) (by omega)), sk_St_sh q3 hp0 hpc hps h3 h4 (fun a c g => g2 a c (by omega) (by omega) (by omega)) (fun i a1 a2 => by rw [sn_s_p (by omega)]; exact hv i a1 a2), hC, sk_D_t q5 (fun a c g => g2 a c (by omega) (by omega) (by omega)), sk_E_t q6 (fun a c g => g2 a c (by omega) (by omega) (by omega))⟩
          refine sn_q_aloadn sn_bc_66 dX9_move_87 rfl ?_
          refine sn_q_getr (v := 15) sn_bc_66 dX9_move_88 sn_oc_66 sn_pf_9_46 (by decide) rfl rfl (by decide) ?_
          refine sn_q_invV sn_bc_66 dX9_move_91 sn_oc_66 sn_pv_9_195 (by decide) rfl (by decide) (sn_h1 (by decide)) rfl rfl rfl rfl (sp_delay (by rw [g2 15 3 (by omega) (by omega) (by omega)]; exact h15.1) (by rw [g2 15 3 (by omega) (by omega) (by omega)]; exact h15.2) (fun i a1 a2 => ⟨(hI2.2.2.1.2.2.1 i a1 a2).1, (hI2.2.2.1.2.2.1 i a1 a2).2.1⟩) hI2.2.2.1.2.2.2.2.2 ?_)
          refine sn_q_iret sn_bc_66 dX9_move_94 rfl ?_
          have ed : sn_dx (sn_s τ 2 15 0) (sn_s τ 2 15 0 16) (sn_s τ 2 15 0 15 3 - 1).toNat = sn_dx σ (sk_tr σ s p pl) (σ 15 3 - 1).toNat := by
            rw [g2 15 3 (by omega) (by omega) (by omega)]
            exact sn_dx_c (fun x => g2 13 x (by omega) (by omega) (by omega)) (fun i a1 a2 => by rw [sn_s_p (by omega)]; exact hv i a1 (by omega))
          rw [ed]
          exact kk _ hI2 (fun a c z1 z2 z3 => by unfold sn_s; rw [if_neg z3]; exact hg a c z1 z2)
        · refine sn_q_ifne (t := 73) sn_bc_66 dX9_move_60 rfl (fun c => absurd c (by decide)) (fun _ => ?_)
          exfalso
          unfold sk_hf at hh
          omega
    · refine sn_q_ifeq (t := 63) sn_bc_66 dX9_move_36 rfl (fun _ => ?_) (fun c => absurd (by decide) c)
      exfalso
      unfold sk_hf at hh
      omega
  · refine sn_q_ifne (t := 32) sn_bc_66 dX9_move_19 rfl (fun c => absurd c (by decide)) (fun _ => ?_)
    exfalso; omega
theorem sk_jury {n k : Nat} {Y : Nat → Nat × Nat} {X : Nat → Nat → sn_V} {σ : Int → Int → Int} {Q : Option sn_V → sn_H → Prop} {w j nn : Int} (hI : sk_Iv σ) (hph : σ 2 10 = 1) (h1 : 0 ≤ w) (h2 : w < σ 3 0) (h3 : 0 ≤ j) (h4 : j < 5) (h5 : 0 ≤ nn) (h6 : nn ≤ 1) (h7 : 3 ≤ σ 9 0 - σ 9 1) (kk : ∀ (r : Int) (τ : Int → Int → Int), r ≠ w → sk_Iv τ → (∀ a c, ¬ (20 ≤ a ∧ a ≤ 62) → ¬ (a = 2 ∧ c = 15) → τ a c = σ a c) → Q (some (sn_i r)) (sn_hh n k Y τ X)) : sn_Wp 70 0 [sn_r 2, sn_i w, sn_i j, sn_i nn] [] (sn_hh n k Y σ X) Q := by
  have h38 := hI.1.1.2
  have hA := sk_A_bd hI.2.1
  have h3r := hI.2.1.2.2.1
  refine sn_q_aloadn sn_bc_70 dX9_jury_0 rfl ?_
  refine sn_q_iloadn sn_bc_70 dX9_jury_1 rfl ?_
  refine sn_q_invV sn_bc_70 dX9_jury_2 sn_oc_70 sn_pv_9_152 (by decide) rfl (by decide) (sn_h1 (by decide)) rfl rfl rfl rfl (sp_needLand h1 h2 hI.1.1.2 ?_)
  refine sn_q_iloadn sn_bc_70 dX9_jury_5 rfl ?_
  refine sn_q_iconst sn_bc_70 dX9_jury_6 rfl ?_
  refine sn_q_iconst sn_bc_70 dX9_jury_7 rfl ?_
  refine sn_q_invS sn_bc_70 dX9_jury_8 sn_oc_70 sn_px_9_103 sn_ps_9_103 (by decide) rfl rfl rfl (sp_isWithin (fun w1 w2 => ?_) (fun w => ?_))
  · refine sn_q_ifne (t := 24) sn_bc_70 dX9_jury_11 rfl (fun _ => ?_) (fun c => absurd (by decide) c)
    refine sn_q_iloadn sn_bc_70 dX9_jury_24 rfl ?_
    refine sn_q_iconst sn_bc_70 dX9_jury_25 rfl ?_
    refine sn_q_aloadn sn_bc_70 dX9_jury_26 rfl ?_
    refine sn_q_getr (v := 9) sn_bc_70 dX9_jury_27 sn_oc_70 sn_pf_9_42 (by decide) rfl rfl (by decide) ?_
    refine sn_q_iloadn sn_bc_70 dX9_jury_30 rfl ?_
    refine sn_q_invV sn_bc_70 dX9_jury_31 sn_oc_70 sn_pv_9_206 (by decide) rfl (by decide) (sn_h1 (by decide)) rfl rfl rfl rfl (sp_candidatesOf h1 (by omega) hA.1 hA.2.1 hA.2.2.1 (by omega) (fun cn hcn => ?_))
    refine sn_q_invS sn_bc_70 dX9_jury_34 sn_oc_70 sn_px_9_210 sn_ps_9_210 (by decide) rfl rfl rfl (sp_ordersOf (by omega) (by omega) (fun od od1 od2 od3 => ?_))
    refine sn_q_iconst sn_bc_70 dX9_jury_37 rfl ?_
    refine sn_q_isub sn_bc_70 dX9_jury_38 (by omega) (by omega) ?_
    refine sn_q_invS sn_bc_70 dX9_jury_39 sn_oc_70 sn_px_9_103 sn_ps_9_103 (by decide) rfl rfl rfl (sp_isWithin (fun w1 w2 => ?_) (fun w => ?_))
    · refine sn_q_ifne (t := 55) sn_bc_70 dX9_jury_42 rfl (fun _ => ?_) (fun c => absurd (by decide) c)
      refine sn_q_aloadn sn_bc_70 dX9_jury_55 rfl ?_
      refine sn_q_iconst sn_bc_70 dX9_jury_56 rfl ?_
      refine sn_q_invV sn_bc_70 dX9_jury_57 sn_oc_70 sn_pv_9_114 (by decide) rfl (by decide) (sn_h1 (by decide)) rfl rfl rfl rfl (sp_needPhase hph ?_)
      refine sn_q_aloadn sn_bc_70 dX9_jury_60 rfl ?_
      refine sn_q_getr (v := 18) sn_bc_70 dX9_jury_61 sn_oc_70 sn_pf_9_50 (by decide) rfl rfl (by decide) ?_
      refine sn_q_iloadn sn_bc_70 dX9_jury_64 rfl ?_
      refine sn_q_iloadn sn_bc_70 dX9_jury_65 rfl ?_
      refine sn_q_iloadn sn_bc_70 dX9_jury_66 rfl ?_
      refine sn_q_invV sn_bc_70 dX9_jury_67 sn_oc_70 sn_pv_9_215 (by decide) rfl (by decide) (sn_h1 (by decide)) rfl rfl rfl rfl (sp_write h1 (by omega) h3 h4 h5 (by omega) (fun τ hf e61 hfb => ?_))
      refine sn_q_aloadn sn_bc_70 dX9_jury_70 rfl ?_
      refine sn_q_iconst sn_bc_70 dX9_jury_71 rfl ?_
      refine sn_q_puti (P := 2) (J := 15) sn_bc_70 dX9_jury_72 sn_oc_70 sn_pf_9_99 (by decide) rfl rfl rfl rfl (sn_fz (by omega)) rfl ?_
      refine sn_q_aloadn sn_bc_70 dX9_jury_75 rfl ?_
      refine sn_q_getr (v := 18) sn_bc_70 dX9_jury_76 sn_oc_70 sn_pf_9_50 (by decide) rfl rfl (by decide) ?_
      refine sn_q_iloadn sn_bc_70 dX9_jury_79 rfl ?_
      refine sn_q_iloadn sn_bc_70 dX9_jury_80 rfl ?_
      refine sn_q_invV sn_bc_70 dX9_jury_81 sn_oc_70 sn_pv_9_219 (by decide) rfl (by decide) (sn_h1 (by decide)) rfl rfl rfl rfl (sp_firstOn h1 (by omega) h3 h4 ?_)
      refine sn_q_iret sn_bc_70 dX9_jury_84 rfl ?_
      have g2 : ∀ a c, ¬ (20 ≤ a ∧ a ≤ 62) → a ≠ 2 → sn_s τ 2 15 0 a c = σ a c := fun a c z1 z2 => by rw [sn_s_p z2]; exact hf a c (by omega) (by omega) (by omega)
      have g3 : ∀ a c, a ≠ 2 → sn_s τ 2 15 0 a c = τ a c := fun a c z => sn_s_p z
      refine kk _ _ ?_ ?_ (fun a c z1 z2 => by unfold sn_s; rw [if_neg z2]; exact hf a c (by omega) (by omega) (by omega))
      · rw [g3 _ _ (by omega), g3 _ _ (by omega)]
        split
        · have := (hfb.2.2.1 0 (by omega) (by omega)).2.2.1; exact this
        · omega
      · obtain ⟨q1, q2, q3, q4, q5, q6⟩ := hI
        have hC : sk_C (sn_s τ 2 15 0) := by
          refine ⟨fun l m a1 a2 a3 a4 a5 => ?_, fun b a1 a2 => ?_⟩
          · by_cases e : l * 5 + m = w * 5 + j
            · obtain rfl : l = w := by omega
              rw [e]
              exact sk_fb_t hfb (fun _ => g3 _ _ (by omega)) (fun _ => g3 _ _ (by omega)) (g3 _ _ (by omega)) (fun _ => g3 _ _ (by omega))
            · have e6 : ∀ a c, a ≠ 2 → a ≠ 62 → a ≠ 20 + (w * 5 + j) → ¬ ((a = 60 ∨ a = 61) ∧ c = w * 5 + j) → sn_s τ 2 15 0 a c = σ a c := fun a c z1 z2 z3 z4 => (g3 a c z1).trans (hf a c z2 z3 z4)
              rw [e6 61 _ (by omega) (by omega) (by omega) (by omega)] at a5
              exact sk_fb_t (q4.1 l m a1 a2 a3 a4 a5) (fun _ => e6 _ _ (by omega) (by omega) (by omega) (by omega)) (fun _ => e6 _ _ (by omega) (by omega) (by omega) (by omega)) (e6 _ _ (by omega) (by omega) (by omega) (by omega)) (fun _ => e6 _ _ (by omega) (by omega) (by omega) (by omega))
          · by_cases e : b = w * 5 + j
            · rw [g3 _ _ (by omega), e]; exact ⟨hfb.1, hfb.2.1⟩
            · rw [g3 _ _ (by omega), hf 60 b (by omega) (by omega) (by omega)]; exact q4.2 b a1 a2
        exact ⟨sk_In_0 q1 (fun a c g => g2 a c (by omega) (by omega)) (by rw [g2 3 0 (by omega) (by omega)]; omega) (by rw [g2 3 0 (by omega) (by omega)]; exact q1.1.2) hC (by rw [g2 15 3 (by omega) (by omega)]; exact q1.2.2.2.1) sn_s_e, sk_A_t q2 (fun a c g => g2 a c (by omega) (by omega)), sk_St_t q3 (fun a c g => g2 a c (by omega) (by omega)), hC, sk_D_t q5 (fun a c g => g2 a c (by omega) (by omega)), sk_E_t q6 (fun a c g => g2 a c (by omega) (by omega))⟩
    · refine sn_q_ifne (t := 55) sn_bc_70 dX9_jury_42 rfl (fun c => absurd c (by decide)) (fun _ => ?_)
      exfalso; omega
  · refine sn_q_ifne (t := 24) sn_bc_70 dX9_jury_11 rfl (fun c => absurd c (by decide)) (fun _ => ?_)
    exfalso; omega
theorem sk_call {n k : Nat} {Y : Nat → Nat × Nat} {X : Nat → Nat → sn_V} {σ : Int → Int → Int} {Q : Option sn_V → sn_H → Prop} {l c s m : Int} (hI : sk_Iv σ) (hph : σ 2 10 = 1) (h1 : 0 ≤ l) (h2 : l < σ 3 0) (h3 : 0 ≤ c) (h4 : c < 10) (h5 : 0 ≤ s) (h6 : s < 8) (h7 : σ 10 s ≠ 0) (hso : σ 11 s = 0) (hsl : s ≠ l) (h8 : 1 ≤ m) (h9 : m ≤ 99) (kk : ∀ (t : Int) (τ : Int → Int → Int), 0 ≤ t → t ≤ m → σ 178 (l * 10 + c) + t ≤ σ 211 2 → (t < m → σ 178 (l * 10 + c) + t = σ 211 2) → τ 178 (l * 10 + c) = σ 178 (l * 10 + c) + t → sk_Iv τ → (∀ a d, ¬ (98 ≤ a ∧ a < 178) → ¬ (a = 178 ∧ d = l * 10 + c) → ¬ (a = 2 ∧ d = 15) → τ a d = σ a d) → Q (some (sn_i t)) (sn_hh n k Y τ X)) : sn_Wp 80 0 [sn_r 2, sn_i l, sn_i c, sn_i s, sn_i m] [] (sn_hh n k Y σ X) Q := by
  have h38 := hI.1.1.2
  have hE := hI.2.2.2.2.2
  refine sn_q_aloadn sn_bc_80 dX9_call_0 rfl ?_
  refine sn_q_iloadn sn_bc_80 dX9_call_1 rfl ?_
  refine sn_q_invV sn_bc_80 dX9_call_2 sn_oc_80 sn_pv_9_152 (by decide) rfl (by decide) (sn_h1 (by decide)) rfl rfl rfl rfl (sp_needLand h1 h2 hI.1.1.2 ?_)
  refine sn_q_aloadn sn_bc_80 dX9_call_5 rfl ?_
  refine sn_q_iloadn sn_bc_80 dX9_call_6 rfl ?_
  refine sn_q_invV sn_bc_80 dX9_call_7 sn_oc_80 sn_pv_9_222 (by decide) rfl (by decide) (sn_h1 (by decide)) rfl rfl rfl rfl (sp_needSong h5 h6 h7 ?_)
  refine sn_q_iloadn sn_bc_80 dX9_call_10 rfl ?_
  refine sn_q_iconst sn_bc_80 dX9_call_11 rfl ?_
  refine sn_q_bipush sn_bc_80 dX9_call_12 rfl ?_
  refine sn_q_invS sn_bc_80 dX9_call_14 sn_oc_80 sn_px_9_103 sn_ps_9_103 (by decide) rfl rfl rfl (sp_isWithin (fun w1 w2 => ?_) (fun w => ?_))
  · refine sn_q_ifne (t := 30) sn_bc_80 dX9_call_17 rfl (fun _ => ?_) (fun c => absurd (by decide) c)
    refine sn_q_aloadn sn_bc_80 dX9_call_30 rfl ?_
    refine sn_q_getr (v := 9) sn_bc_80 dX9_call_31 sn_oc_80 sn_pf_9_42 (by decide) rfl rfl (by decide) ?_
    refine sn_q_iloadn sn_bc_80 dX9_call_34 rfl ?_
    refine sn_q_iloadn sn_bc_80 dX9_call_35 rfl ?_
    refine sn_q_invV sn_bc_80 dX9_call_36 sn_oc_80 sn_pv_9_227 (by decide) rfl (by decide) (sn_h1 (by decide)) rfl rfl rfl rfl (sp_isCandidate (by omega) (by omega) (fun w1 w2 w3 => ?_) (fun w => ?_))
    · refine sn_q_ifeq (t := 53) sn_bc_80 dX9_call_39 rfl (fun c => absurd c (by decide)) (fun _ => ?_)
      refine sn_q_iload sn_bc_80 dX9_call_42 rfl ?_
      refine sn_q_iconst sn_bc_80 dX9_call_44 rfl ?_
      refine sn_q_bipush sn_bc_80 dX9_call_45 rfl ?_
      refine sn_q_invS sn_bc_80 dX9_call_47 sn_oc_80 sn_px_9_103 sn_ps_9_103 (by decide) rfl rfl rfl (sp_isWithin (fun w1 w2 => ?_) (fun w => ?_))
      · refine sn_q_ifne (t := 63) sn_bc_80 dX9_call_50 rfl (fun _ => ?_) (fun c => absurd (by decide) c)
        refine sn_q_aloadn sn_bc_80 dX9_call_63 rfl ?_
        refine sn_q_iconst sn_bc_80 dX9_call_64 rfl ?_
        refine sn_q_invV sn_bc_80 dX9_call_65 sn_oc_80 sn_pv_9_114 (by decide) rfl (by decide) (sn_h1 (by decide)) rfl rfl rfl rfl (sp_needPhase hph ?_)
        refine sn_q_aloadn sn_bc_80 dX9_call_68 rfl ?_
        refine sn_q_iconst sn_bc_80 dX9_call_69 rfl ?_
        refine sn_q_puti (P := 2) (J := 15) sn_bc_80 dX9_call_70 sn_oc_80 sn_pf_9_99 (by decide) rfl rfl rfl rfl (sn_fz (by omega)) rfl ?_
        refine sn_q_aloadn sn_bc_80 dX9_call_73 rfl ?_
        refine sn_q_getr (v := 96) sn_bc_80 dX9_call_74 sn_oc_80 sn_pf_9_58 (by decide) rfl rfl (by decide) ?_
        refine sn_q_iloadn sn_bc_80 dX9_call_77 rfl ?_
        refine sn_q_iloadn sn_bc_80 dX9_call_78 rfl ?_
        refine sn_q_iloadn sn_bc_80 dX9_call_79 rfl ?_
        refine sn_q_iload sn_bc_80 dX9_call_80 rfl ?_
        refine sn_q_aloadn sn_bc_80 dX9_call_82 rfl ?_
        refine sn_q_getr (v := 211) sn_bc_80 dX9_call_83 sn_oc_80 sn_pf_9_32 (by decide) rfl rfl (by decide) ?_
        refine sn_q_geti (P := 211) (J := 2) sn_bc_80 dX9_call_86 sn_oc_80 sn_pf_9_143 (by decide) rfl rfl rfl rfl ?_
        rw [sn_s_p (by omega)]
        refine sn_q_invV sn_bc_80 dX9_call_89 sn_oc_80 sn_pv_9_232 (by decide) rfl (by decide) (sn_h1 (by decide)) rfl rfl rfl rfl (sp_take h1 (by omega) h3 h4 h5 h6 h8 h9 (by rw [sn_s_p (by omega)]; exact (hE.1 _ (by omega) (by omega)).1) (by rw [sn_s_p (by omega)]; exact (hE.1 _ (by omega) (by omega)).2) hE.2.2 (fun t τ t1 t2 t3 t4 t5 hf => ?_))
        refine sn_q_iret sn_bc_80 dX9_call_92 rfl ?_
        rw [sn_s_p (by omega)] at t3 t4 t5
        have g2 : ∀ a d, ¬ (98 ≤ a ∧ a < 178) → ¬ (a = 178 ∧ d = l * 10 + c) → a ≠ 2 → τ a d = σ a d := fun a d z1 z2 z3 => by rw [hf a d (by omega) z2, sn_s_p z3]
        refine kk t τ t1 t2 t3 t4 t5 ?_ (fun a d z1 z2 z3 => by rw [hf a d (by omega) z2]; unfold sn_s; rw [if_neg z3])
        obtain ⟨q1, q2, q3, q4, q5, q6⟩ := hI
        have hC := sk_C_t q4 (fun a c g => g2 a c (by omega) (by omega) (by omega))
        refine ⟨sk_In_0 q1 (fun a c g => g2 a c (by omega) (by omega) (by omega)) (by rw [g2 3 0 (by omega) (by omega) (by omega)]; omega) (by rw [g2 3 0 (by omega) (by omega) (by omega)]; exact q1.1.2) hC (by rw [g2 15 3 (by omega) (by omega) (by omega)]; exact q1.2.2.2.1) (by rw [hf 2 15 (by omega) (by omega), sn_s_e]), sk_A_t q2 (fun a c g => g2 a c (by omega) (by omega) (by omega)), sk_St_t q3 (fun a c g => g2 a c (by omega) (by omega) (by omega)), hC, sk_D_t q5 (fun a c g => g2 a c (by omega) (by omega) (by omega)), ?_, ?_, ?_⟩
        · intro m a1 a2
          rw [g2 211 2 (by omega) (by omega) (by omega)]
          by_cases e : m = l * 10 + c
          · have := q6.1 (l * 10 + c) (by omega) (by omega); rw [e, t5]; omega
          · rw [g2 178 m (by omega) (by omega) (by omega)]; exact q6.1 m a1 a2
        · rw [g2 211 2 (by omega) (by omega) (by omega)]; exact q6.2.1
        · rw [g2 211 2 (by omega) (by omega) (by omega)]; exact q6.2.2
      · refine sn_q_ifne (t := 63) sn_bc_80 dX9_call_50 rfl (fun c => absurd c (by decide)) (fun _ => ?_)
        exfalso; omega
    · refine sn_q_ifeq (t := 53) sn_bc_80 dX9_call_39 rfl (fun _ => ?_) (fun c => absurd (by decide) c)
      exfalso; omega
  · refine sn_q_ifne (t := 30) sn_bc_80 dX9_call_17 rfl (fun c => absurd c (by decide)) (fun _ => ?_)
    exfalso; omega
