/-! the end of a year, the next one -/
theorem sk_Iv_678 {τ ω : Int → Int → Int} (hI : sk_Iv τ) (f : ∀ a c, a ≠ 2 → a ≠ 6 → a ≠ 7 → a ≠ 8 → ω a c = τ a c) (e2 : ω 2 15 ≠ 0 → τ 2 15 ≠ 0) : sk_Iv ω := by
  obtain ⟨q1, q2, q3, q4, q5, q6⟩ := hI
  exact ⟨sk_In_t q1 (fun a c g => f a c (by unfold sk_S at g; omega) (by unfold sk_S at g; omega) (by unfold sk_S at g; omega) (by unfold sk_S at g; omega)) (f _ _ (by omega) (by omega) (by omega) (by omega)) e2, sk_A_t q2 (fun a c g => f a c (by omega) (by omega) (by omega) (by omega)), sk_St_t q3 (fun a c g => f a c (by omega) (by omega) (by omega) (by omega)), sk_C_t q4 (fun a c g => f a c (by omega) (by omega) (by omega) (by omega)), sk_D_t q5 (fun a c g => f a c (by omega) (by omega) (by omega) (by omega)), sk_E_t q6 (fun a c g => f a c (by omega) (by omega) (by omega) (by omega))⟩
/-- who hosts -/
def sk_ho (τ : Int → Int → Int) (r : Int) : Prop := (r = -1 ∧ ∀ m, 0 ≤ m → m < τ 212 8 → τ 5 (τ 215 m) < 40 * τ 9 0) ∨ ∃ m, 0 ≤ m ∧ m < τ 212 8 ∧ r = τ 215 m ∧ 40 * τ 9 0 ≤ τ 5 (τ 215 m) ∧ ∀ mm, 0 ≤ mm → mm < m → τ 5 (τ 215 mm) < 40 * τ 9 0
set_option maxHeartbeats 1000000 in
theorem sk_end {n k : Nat} {Y : Nat → Nat × Nat} {X : Nat → Nat → sn_V} {σ : Int → Int → Int} {Q : Option sn_V → sn_H → Prop} (hYX : sn_YX Y X) (hI : sk_Iv σ) (hph : σ 2 10 = 2) (h1 : σ 3 0 ≤ σ 217 7) (hall : ∀ s, 0 ≤ s → s < 8 → sn_run σ s → σ 230 s ≠ 0) (h2 : 1 ≤ σ 9 0 - σ 9 1) (kk : ∀ (τ ω : Int → Int → Int) (r : Int), sk_q σ τ → sk_Iv ω → ω 2 15 ≠ 0 → (∀ a c, a ≠ 6 → ¬ (a = 2 ∧ (c = 10 ∨ c = 11 ∨ c = 13)) → ¬ (a = 7 ∧ c = τ 215 0) → ¬ (a = 8 ∧ c = r) → ω a c = τ a c) → ω 2 10 = 3 → ω 2 11 = τ 215 0 → ω 2 13 = r → ω 7 (τ 215 0) = sn_wr (τ 7 (τ 215 0) + 1) → (r ≠ -1 → ω 8 r = sn_wr (τ 8 r + 1)) → sk_ho τ r → Q (some (sn_i (τ 215 0))) (sn_hh n k Y ω X)) : sn_Wp 115 0 [sn_r 2] [] (sn_hh n k Y σ X) Q := by
  have hA := sk_A_bd hI.2.1
  refine sn_q_aloadn sn_bc_115 dX9_end_0 rfl ?_
  refine sn_q_iconst sn_bc_115 dX9_end_1 rfl ?_
  refine sn_q_invV sn_bc_115 dX9_end_2 sn_oc_115 sn_pv_9_114 (by decide) rfl (by decide) (sn_h1 (by decide)) rfl rfl rfl rfl (sp_needPhase hph ?_)
  refine sn_q_aloadn sn_bc_115 dX9_end_5 rfl ?_
  refine sn_q_getr (v := 217) sn_bc_115 dX9_end_6 sn_oc_115 sn_pf_9_76 (by decide) rfl rfl (by decide) ?_
  refine sn_q_geti (P := 217) (J := 7) sn_bc_115 dX9_end_9 sn_oc_115 sn_pf_9_291 (by decide) rfl rfl rfl rfl ?_
  refine sn_q_aloadn sn_bc_115 dX9_end_12 rfl ?_
  refine sn_q_getr (v := 3) sn_bc_115 dX9_end_13 sn_oc_115 sn_pf_9_38 (by decide) rfl rfl (by decide) ?_
  refine sn_q_geti (P := 3) (J := 0) sn_bc_115 dX9_end_16 sn_oc_115 sn_pf_9_118 (by decide) rfl rfl rfl rfl ?_
  refine sn_q_iclt (t := 33) sn_bc_115 dX9_end_19 rfl (fun c_19 => ?_) (fun c_19 => ?_)
  · exfalso
    first
      | omega
      | (rcases hr with ⟨z, _⟩ | ⟨z1, z2, z3, z4⟩
         · omega
         · exact hall r z1 z2 z3 z4)
  · refine sn_q_aloadn sn_bc_115 dX9_end_22 rfl ?_
    refine sn_q_getr (v := 217) sn_bc_115 dX9_end_23 sn_oc_115 sn_pf_9_76 (by decide) rfl rfl (by decide) ?_
    refine sn_q_invV sn_bc_115 dX9_end_26 sn_oc_115 sn_pv_9_288 (by decide) rfl (by decide) (sn_h1 (by decide)) rfl rfl rfl rfl (sp_nextSong hI.2.2.2.2.1.1 (fun r hr => ?_))
    refine sn_q_iconst sn_bc_115 dX9_end_29 rfl ?_
    refine sn_q_iceq (t := 44) sn_bc_115 dX9_end_30 rfl (fun c_30 => ?_) (fun c_30 => ?_)
    · refine sn_q_aloadn sn_bc_115 dX9_end_44 rfl ?_
      refine sn_q_invV sn_bc_115 dX9_end_45 sn_oc_115 sn_pv_9_255 (by decide) rfl (by decide) (sn_h1 (by decide)) rfl rfl rfl rfl (sk_count hYX hI (fun τ hq => ?_))
      have hc := hq.2.2.2.1.2.2.1
      have hrn := hq.2.2.1.2.1.2.2.1
      have t90 := hq.1 9 0 (by omega) (by omega)
      have t91 := hq.1 9 1 (by omega) (by omega)
      have hA2 := sk_A_bd hI.2.1
      have hw0 := hq.2.2.2.1.2.2.2.2.1 0 (by omega) (by omega)
      refine sn_q_aloadn sn_bc_115 dX9_end_48 rfl ?_
      refine sn_q_iconst sn_bc_115 dX9_end_49 rfl ?_
      refine sn_q_puti (P := 2) (J := 10) sn_bc_115 dX9_end_50 sn_oc_115 sn_pf_9_84 (by decide) rfl rfl rfl rfl rfl rfl ?_
      refine sn_q_aloadn sn_bc_115 dX9_end_53 rfl ?_
      refine sn_q_aloadn sn_bc_115 dX9_end_54 rfl ?_
      refine sn_q_getr (v := 212) sn_bc_115 dX9_end_55 sn_oc_115 sn_pf_9_67 (by decide) rfl rfl (by decide) ?_
      refine sn_q_iconst sn_bc_115 dX9_end_58 rfl ?_
      refine sn_q_invV sn_bc_115 dX9_end_59 sn_oc_115 sn_pv_9_310 (by decide) rfl (by decide) (sn_h1 (by decide)) rfl rfl rfl rfl (sp_songAt (by rw [sn_s_p (by omega)]; omega) (by rw [sn_s_p (by omega)]; omega) (fun w1 w2 => ?_) (fun w => ?_))
      · rw [sn_s_p (show (215 : Int) ≠ 2 by omega)]
        refine sn_q_puti (P := 2) (J := 11) sn_bc_115 dX9_end_62 sn_oc_115 sn_pf_9_87 (by decide) rfl rfl rfl rfl rfl rfl ?_
        refine sn_q_aloadn sn_bc_115 dX9_end_65 rfl ?_
        refine sn_q_geti (P := 2) (J := 11) sn_bc_115 dX9_end_66 sn_oc_115 sn_pf_9_87 (by decide) rfl rfl rfl rfl ?_
        rw [sn_s_e]
        refine sn_q_iconst sn_bc_115 dX9_end_69 rfl ?_
        refine sn_q_iceq (t := 106) sn_bc_115 dX9_end_70 rfl (fun c_70 => ?_) (fun c_70 => ?_)
        · exfalso; omega
        · refine sn_q_aloadn sn_bc_115 dX9_end_73 rfl ?_
          refine sn_q_getr (v := 3) sn_bc_115 dX9_end_74 sn_oc_115 sn_pf_9_38 (by decide) rfl rfl (by decide) ?_
          refine sn_q_getr (v := 6) sn_bc_115 dX9_end_77 sn_oc_115 sn_pf_9_169 (by decide) rfl rfl (by decide) ?_
          refine sn_q_aloadn sn_bc_115 dX9_end_80 rfl ?_
          refine sn_q_geti (P := 2) (J := 11) sn_bc_115 dX9_end_81 sn_oc_115 sn_pf_9_87 (by decide) rfl rfl rfl rfl ?_
          rw [sn_s_e]
          refine sn_q_dup2 sn_bc_115 dX9_end_84 rfl ?_
          refine sn_q_iald (P := 6) sn_bc_115 dX9_end_85 sn_a6 rfl (by omega) (by omega) ?_
          rw [sn_s_p (by omega), sn_s_p (by omega)]
          refine sn_q_bipush sn_bc_115 dX9_end_86 rfl ?_
          refine sn_q_iaddW sn_bc_115 dX9_end_88 ?_
          refine sn_q_iast (P := 6) sn_bc_115 dX9_end_89 sn_a6 rfl (by omega) (by omega) ?_
          refine sn_q_aloadn sn_bc_115 dX9_end_90 rfl ?_
          refine sn_q_getr (v := 3) sn_bc_115 dX9_end_91 sn_oc_115 sn_pf_9_38 (by decide) rfl rfl (by decide) ?_
          refine sn_q_getr (v := 7) sn_bc_115 dX9_end_94 sn_oc_115 sn_pf_9_313 (by decide) rfl rfl (by decide) ?_
          refine sn_q_aloadn sn_bc_115 dX9_end_97 rfl ?_
          refine sn_q_geti (P := 2) (J := 11) sn_bc_115 dX9_end_98 sn_oc_115 sn_pf_9_87 (by decide) rfl rfl rfl rfl ?_
          rw [sn_s_p (by omega)]
          rw [sn_s_e]
          refine sn_q_dup2 sn_bc_115 dX9_end_101 rfl ?_
          refine sn_q_iald (P := 7) sn_bc_115 dX9_end_102 sn_a7 rfl (by omega) (by omega) ?_
          rw [sn_s_p (by omega), sn_s_p (by omega), sn_s_p (by omega)]
          refine sn_q_iconst sn_bc_115 dX9_end_103 rfl ?_
          refine sn_q_iaddW sn_bc_115 dX9_end_104 ?_
          refine sn_q_iast (P := 7) sn_bc_115 dX9_end_105 sn_a7 rfl (by omega) (by omega) ?_
          obtain ⟨χ, hχ⟩ : ∃ x, x = sn_s (sn_s (sn_s (sn_s τ 2 10 3) 2 11 (τ 215 0)) 6 (τ 215 0) (sn_wr (τ 6 (τ 215 0) + 50))) 7 (τ 215 0) (sn_wr (τ 7 (τ 215 0) + 1)) := ⟨_, rfl⟩
          rw [← hχ]
          have fχ : ∀ a c, a ≠ 2 → a ≠ 6 → ¬ (a = 7 ∧ c = τ 215 0) → χ a c = τ a c := fun a c g1 g2 g3 => by
            rw [hχ]; unfold sn_s; rw [if_neg g3, if_neg (by omega), if_neg (by omega), if_neg (by omega)]
          have f2 : ∀ c, ¬ (c = 10 ∨ c = 11) → χ 2 c = τ 2 c := fun c g => by
            rw [hχ]; unfold sn_s; rw [if_neg (by omega), if_neg (by omega), if_neg (by omega), if_neg (by omega)]
          have e10 : χ 2 10 = 3 := by rw [hχ, sn_s_p (by omega), sn_s_p (by omega), sn_s_j (by omega), sn_s_e]
          have e11 : χ 2 11 = τ 215 0 := by rw [hχ, sn_s_p (by omega), sn_s_p (by omega), sn_s_e]
          have e15 : χ 2 15 = τ 2 15 := f2 15 (by omega)
          have e7 : χ 7 (τ 215 0) = sn_wr (τ 7 (τ 215 0) + 1) := by rw [hχ, sn_s_e]
          refine sn_q_aloadn sn_bc_115 dX9_end_106 rfl ?_
          refine sn_q_aloadn sn_bc_115 dX9_end_107 rfl ?_
          refine sn_q_invV sn_bc_115 dX9_end_108 sn_oc_115 sn_pv_9_316 (by decide) rfl (by decide) (sn_h1 (by decide)) rfl rfl rfl rfl (sp_findHost (by rw [fχ 9 0 (by omega) (by omega) (by omega)]; omega) (by rw [fχ 9 0 (by omega) (by omega) (by omega)]; omega) (by rw [fχ 9 1 (by omega) (by omega) (by omega)]; omega) (by rw [fχ 9 1 (by omega) (by omega) (by omega)]; omega) (by rw [fχ 212 8 (by omega) (by omega) (by omega), fχ 9 0 (by omega) (by omega) (by omega), fχ 9 1 (by omega) (by omega) (by omega)]; omega) (by rw [fχ 212 8 (by omega) (by omega) (by omega)]; omega) (fun m a1 a2 => by rw [fχ 212 8 (by omega) (by omega) (by omega)] at a2; rw [fχ 215 m (by omega) (by omega) (by omega)]; have := hq.2.2.2.1.2.2.2.2.1 m a1 a2; exact ⟨this.1, this.2.1⟩) (fun r hr => ?_))
          have hhost : sk_ho τ r := by
            unfold sk_ho
            rw [fχ 212 8 (by omega) (by omega) (by omega), fχ 9 0 (by omega) (by omega) (by omega)] at hr
            rcases hr with ⟨z1, z2⟩ | ⟨m, z1, z2, z3, z4, z5⟩
            · refine Or.inl ⟨z1, fun m a1 a2 => ?_⟩
              have := z2 m a1 a2
              rw [fχ 215 m (by omega) (by omega) (by omega), fχ 5 _ (by omega) (by omega) (by omega)] at this
              exact this
            · rw [fχ 215 m (by omega) (by omega) (by omega)] at z3 z4
              rw [fχ 5 _ (by omega) (by omega) (by omega)] at z4
              refine Or.inr ⟨m, z1, z2, z3, z4, fun mm a1 a2 => ?_⟩
              have := z5 mm a1 a2
              rw [fχ 215 mm (by omega) (by omega) (by omega), fχ 5 _ (by omega) (by omega) (by omega)] at this
              exact this
          have hr8 : r = -1 ∨ (0 ≤ r ∧ r < 8) := by
            rcases hhost with ⟨z, _⟩ | ⟨m, z1, z2, z3, _⟩
            · exact Or.inl z
            · have := hq.2.2.2.1.2.2.2.2.1 m z1 z2
              rw [← z3] at this
              exact Or.inr ⟨this.1, this.2.1⟩
          refine sn_q_puti (P := 2) (J := 13) sn_bc_115 dX9_end_111 sn_oc_115 sn_pf_9_93 (by decide) rfl rfl rfl rfl rfl rfl ?_
          refine sn_q_aloadn sn_bc_115 dX9_end_114 rfl ?_
          refine sn_q_geti (P := 2) (J := 13) sn_bc_115 dX9_end_115 sn_oc_115 sn_pf_9_93 (by decide) rfl rfl rfl rfl ?_
          rw [sn_s_e]
          refine sn_q_iconst sn_bc_115 dX9_end_118 rfl ?_
          refine sn_q_iceq (t := 155) sn_bc_115 dX9_end_119 rfl (fun c_119 => ?_) (fun c_119 => ?_)
          · refine sn_q_aloadn sn_bc_115 dX9_end_155 rfl ?_
            refine sn_q_geti (P := 2) (J := 11) sn_bc_115 dX9_end_156 sn_oc_115 sn_pf_9_87 (by decide) rfl rfl rfl rfl ?_
            rw [sn_s_j (by omega), e11]
            refine sn_q_iret sn_bc_115 dX9_end_159 rfl ?_
            have ec7 : ∀ a c, a ≠ 2 → a ≠ 6 → a ≠ 7 → χ a c = τ a c := fun a c g1 g2 g3 => fχ a c g1 g2 (by omega)
            first
              | (refine kk τ _ r hq ?_ ?_ (fun a c g1 g2 g3 g4 => ?_) ?_ ?_ ?_ ?_ (fun _ => ?_) hhost
                 · exact sk_Iv_678 hq.2.2.1 (fun a c g1 g2 g3 g4 => by unfold sn_s; rw [if_neg (by omega), if_neg (by omega), if_neg (by omega)]; exact ec7 a c g1 g2 g3) (fun _ => hq.2.2.2.2)
                 · rw [sn_s_p (by omega), sn_s_p (by omega), sn_s_j (by omega), e15]; exact hq.2.2.2.2
                 · unfold sn_s; rw [if_neg (by omega), if_neg (by omega), if_neg (by omega)]
                   by_cases e : a = 2
                   · rw [e]; exact f2 c (by omega)
                   · exact fχ a c e g1 (by omega)
                 · rw [sn_s_p (by omega), sn_s_p (by omega), sn_s_j (by omega)]; exact e10
                 · rw [sn_s_p (by omega), sn_s_p (by omega), sn_s_j (by omega)]; exact e11
                 · rw [sn_s_p (by omega), sn_s_p (by omega), sn_s_e]
                 · rw [sn_s_p (by omega), sn_s_p (by omega), sn_s_p (by omega)]; exact e7
                 · rw [sn_s_e, ec7 8 r (by omega) (by omega) (by omega)])
              | (refine kk τ _ r hq ?_ ?_ (fun a c g1 g2 g3 g4 => ?_) ?_ ?_ ?_ ?_ (fun z => absurd (by assumption) z) hhost
                 · exact sk_Iv_678 hq.2.2.1 (fun a c g1 g2 g3 g4 => by unfold sn_s; rw [if_neg (by omega)]; exact ec7 a c g1 g2 g3) (fun _ => hq.2.2.2.2)
                 · rw [sn_s_j (by omega), e15]; exact hq.2.2.2.2
                 · unfold sn_s; rw [if_neg (by omega)]
                   by_cases e : a = 2
                   · rw [e]; exact f2 c (by omega)
                   · exact fχ a c e g1 (by omega)
                 · rw [sn_s_j (by omega)]; exact e10
                 · rw [sn_s_j (by omega)]; exact e11
                 · rw [sn_s_e]
                 · rw [sn_s_p (by omega)]; exact e7)
          · refine sn_q_aloadn sn_bc_115 dX9_end_122 rfl ?_
            refine sn_q_getr (v := 3) sn_bc_115 dX9_end_123 sn_oc_115 sn_pf_9_38 (by decide) rfl rfl (by decide) ?_
            refine sn_q_getr (v := 6) sn_bc_115 dX9_end_126 sn_oc_115 sn_pf_9_169 (by decide) rfl rfl (by decide) ?_
            refine sn_q_aloadn sn_bc_115 dX9_end_129 rfl ?_
            refine sn_q_geti (P := 2) (J := 13) sn_bc_115 dX9_end_130 sn_oc_115 sn_pf_9_93 (by decide) rfl rfl rfl rfl ?_
            rw [sn_s_e]
            refine sn_q_dup2 sn_bc_115 dX9_end_133 rfl ?_
            refine sn_q_iald (P := 6) sn_bc_115 dX9_end_134 sn_a6 rfl (by omega) (by omega) ?_
            rw [sn_s_p (by omega)]
            refine sn_q_bipush sn_bc_115 dX9_end_135 rfl ?_
            refine sn_q_isubW sn_bc_115 dX9_end_137 ?_
            refine sn_q_iast (P := 6) sn_bc_115 dX9_end_138 sn_a6 rfl (by omega) (by omega) ?_
            refine sn_q_aloadn sn_bc_115 dX9_end_139 rfl ?_
            refine sn_q_getr (v := 3) sn_bc_115 dX9_end_140 sn_oc_115 sn_pf_9_38 (by decide) rfl rfl (by decide) ?_
            refine sn_q_getr (v := 8) sn_bc_115 dX9_end_143 sn_oc_115 sn_pf_9_319 (by decide) rfl rfl (by decide) ?_
            refine sn_q_aloadn sn_bc_115 dX9_end_146 rfl ?_
            refine sn_q_geti (P := 2) (J := 13) sn_bc_115 dX9_end_147 sn_oc_115 sn_pf_9_93 (by decide) rfl rfl rfl rfl ?_
            rw [sn_s_p (by omega)]
            rw [sn_s_e]
            refine sn_q_dup2 sn_bc_115 dX9_end_150 rfl ?_
            refine sn_q_iald (P := 8) sn_bc_115 dX9_end_151 sn_a8 rfl (by omega) (by omega) ?_
            rw [sn_s_p (by omega), sn_s_p (by omega)]
            refine sn_q_iconst sn_bc_115 dX9_end_152 rfl ?_
            refine sn_q_iaddW sn_bc_115 dX9_end_153 ?_
            refine sn_q_iast (P := 8) sn_bc_115 dX9_end_154 sn_a8 rfl (by omega) (by omega) ?_
            refine sn_q_aloadn sn_bc_115 dX9_end_155 rfl ?_
            refine sn_q_geti (P := 2) (J := 11) sn_bc_115 dX9_end_156 sn_oc_115 sn_pf_9_87 (by decide) rfl rfl rfl rfl ?_
            rw [sn_s_p (by omega), sn_s_p (by omega)]
            rw [sn_s_j (by omega), e11]
            refine sn_q_iret sn_bc_115 dX9_end_159 rfl ?_
            have ec7 : ∀ a c, a ≠ 2 → a ≠ 6 → a ≠ 7 → χ a c = τ a c := fun a c g1 g2 g3 => fχ a c g1 g2 (by omega)
            first
              | (refine kk τ _ r hq ?_ ?_ (fun a c g1 g2 g3 g4 => ?_) ?_ ?_ ?_ ?_ (fun _ => ?_) hhost
                 · exact sk_Iv_678 hq.2.2.1 (fun a c g1 g2 g3 g4 => by unfold sn_s; rw [if_neg (by omega), if_neg (by omega), if_neg (by omega)]; exact ec7 a c g1 g2 g3) (fun _ => hq.2.2.2.2)
                 · rw [sn_s_p (by omega), sn_s_p (by omega), sn_s_j (by omega), e15]; exact hq.2.2.2.2
                 · unfold sn_s; rw [if_neg (by omega), if_neg (by omega), if_neg (by omega)]
                   by_cases e : a = 2
                   · rw [e]; exact f2 c (by omega)
                   · exact fχ a c e g1 (by omega)
                 · rw [sn_s_p (by omega), sn_s_p (by omega), sn_s_j (by omega)]; exact e10
                 · rw [sn_s_p (by omega), sn_s_p (by omega), sn_s_j (by omega)]; exact e11
                 · rw [sn_s_p (by omega), sn_s_p (by omega), sn_s_e]
                 · rw [sn_s_p (by omega), sn_s_p (by omega), sn_s_p (by omega)]; exact e7
                 · rw [sn_s_e, ec7 8 r (by omega) (by omega) (by omega)])
              | (refine kk τ _ r hq ?_ ?_ (fun a c g1 g2 g3 g4 => ?_) ?_ ?_ ?_ ?_ (fun z => absurd (by assumption) z) hhost
                 · exact sk_Iv_678 hq.2.2.1 (fun a c g1 g2 g3 g4 => by unfold sn_s; rw [if_neg (by omega)]; exact ec7 a c g1 g2 g3) (fun _ => hq.2.2.2.2)
                 · rw [sn_s_j (by omega), e15]; exact hq.2.2.2.2
                 · unfold sn_s; rw [if_neg (by omega)]
                   by_cases e : a = 2
                   · rw [e]; exact f2 c (by omega)
                   · exact fχ a c e g1 (by omega)
                 · rw [sn_s_j (by omega)]; exact e10
                 · rw [sn_s_j (by omega)]; exact e11
                 · rw [sn_s_e]
                 · rw [sn_s_p (by omega)]; exact e7)
      · exfalso
        rw [sn_s_p (by omega)] at w
        omega
    · exfalso
      first
        | omega
        | (rcases hr with ⟨z, _⟩ | ⟨z1, z2, z3, z4⟩
           · omega
           · exact hall r z1 z2 z3 z4)
theorem sk_Songs_clear {n k : Nat} {Y : Nat → Nat × Nat} {X : Nat → Nat → sn_V} {σ : Int → Int → Int} {Q : Option sn_V → sn_H → Prop} (kk : ∀ τ, (∀ a c, a ≠ 9 → a ≠ 10 → a ≠ 11 → τ a c = σ a c) → (∀ s, 0 ≤ s → s < 8 → τ 10 s = 0 ∧ τ 11 s = 0) → τ 9 0 = 0 → τ 9 1 = 0 → Q none (sn_hh n k Y τ X)) : sn_Wp 118 0 [sn_r 9, sn_u] [] (sn_hh n k Y σ X) Q := sp_Songs_clear (kk _ (fun a c g1 g2 g3 => by (try dsimp only); rw [if_neg (by omega), if_neg (by omega)]) (fun s g1 g2 => ⟨by (try dsimp only); rw [if_pos (by omega)], by (try dsimp only); rw [if_pos (by omega)]⟩) (by (try dsimp only); rw [if_neg (by omega), if_pos (by omega)]) (by (try dsimp only); rw [if_neg (by omega), if_pos (by omega)]))
theorem sk_Stage_clear {n k : Nat} {Y : Nat → Nat × Nat} {X : Nat → Nat → sn_V} {σ : Int → Int → Int} {Q : Option sn_V → sn_H → Prop} (kk : ∀ τ, (∀ a c, a ≠ 15 → τ a c = σ a c) → τ 15 3 = 0 → τ 15 4 = 0 → Q none (sn_hh n k Y τ X)) : sn_Wp 119 0 [sn_r 15] [] (sn_hh n k Y σ X) Q := sp_Stage_clear (kk _ (fun a c g => by rw [sn_s_p g, sn_s_p g]) (by rw [sn_s_j (by omega), sn_s_e]) (by rw [sn_s_e]))
theorem sk_Ballots_clear {n k : Nat} {Y : Nat → Nat × Nat} {X : Nat → Nat → sn_V} {σ : Int → Int → Int} {Q : Option sn_V → sn_H → Prop} (kk : ∀ τ, (∀ a c, a ≠ 60 → a ≠ 61 → τ a c = σ a c) → (∀ s, 0 ≤ s → s < 40 → τ 60 s = 0 ∧ τ 61 s = 0) → Q none (sn_hh n k Y τ X)) : sn_Wp 120 0 [sn_r 18, sn_u] [] (sn_hh n k Y σ X) Q := sp_Ballots_clear (kk _ (fun a c g1 g2 => by (try dsimp only); rw [if_neg (by omega)]) (fun s g1 g2 => ⟨by (try dsimp only); rw [if_pos (by omega)], by (try dsimp only); rw [if_pos (by omega)]⟩))
theorem sk_Phones_clear {n k : Nat} {Y : Nat → Nat × Nat} {X : Nat → Nat → sn_V} {σ : Int → Int → Int} {Q : Option sn_V → sn_H → Prop} (kk : ∀ τ, (∀ a c, ¬ (98 ≤ a ∧ a ≤ 178) → τ a c = σ a c) → (∀ s, 0 ≤ s → s < 80 → τ 178 s = 0) → Q none (sn_hh n k Y τ X)) : sn_Wp 121 0 [sn_r 96, sn_u, sn_u] [] (sn_hh n k Y σ X) Q := sp_Phones_clear (kk _ (fun a c g1 => by (try dsimp only); rw [if_neg (by omega), if_neg (by omega)]) (fun s g1 g2 => by (try dsimp only); rw [if_pos (by omega)]))
theorem sk_Board_clear {n k : Nat} {Y : Nat → Nat × Nat} {X : Nat → Nat → sn_V} {σ : Int → Int → Int} {Q : Option sn_V → sn_H → Prop} (kk : ∀ τ, (∀ a c, ¬ (217 ≤ a ∧ a ≤ 230) → τ a c = σ a c) → (∀ a s, 219 ≤ a → a ≤ 230 → 0 ≤ s → s < 8 → τ a s = 0) → τ 217 7 = 0 → τ 217 8 = 0 → Q none (sn_hh n k Y τ X)) : sn_Wp 122 0 [sn_r 217, sn_u] [] (sn_hh n k Y σ X) Q := sp_Board_clear (kk _ (fun a c g1 => by (try dsimp only); rw [if_neg (by omega), if_neg (by omega)]) (fun a s g1 g2 g3 g4 => by (try dsimp only); rw [if_pos (by omega)]) (by (try dsimp only); rw [if_neg (by omega), if_pos (by omega)]) (by (try dsimp only); rw [if_neg (by omega), if_pos (by omega)]))
/-- a state with no songs, no ballots, no calls, nothing read -/
theorem sk_new {σ ω : Int → Int → Int} (hI : sk_Iv σ) (f : ∀ a c, (a = 3 ∨ a = 13 ∨ (62 ≤ a ∧ a < 97) ∨ (198 ≤ a ∧ a < 206) ∨ a = 211) → ω a c = σ a c) (e10 : ∀ s, 0 ≤ s → s < 8 → ω 10 s = 0 ∧ ω 11 s = 0) (e9 : ω 9 0 = 0 ∧ ω 9 1 = 0) (e15 : ω 15 3 = 0 ∧ ω 15 4 = 0) (e60 : ∀ b, 0 ≤ b → b < 40 → ω 60 b = 0 ∧ ω 61 b = 0) (e178 : ∀ t, 0 ≤ t → t < 80 → ω 178 t = 0) (eb : ∀ a s, 219 ≤ a → a ≤ 230 → 0 ≤ s → s < 8 → ω a s = 0) (e217 : ω 217 7 = 0 ∧ ω 217 8 = 0) (e2 : ω 2 15 = 0) : sk_Iv ω := by
  obtain ⟨q1, q2, q3, q4, q5, q6⟩ := hI
  have hC : sk_C ω := ⟨fun l j a1 a2 a3 a4 a5 => absurd (e60 _ (by omega) (by omega)).2 a5, fun b a1 a2 => by rw [(e60 b a1 a2).1]; omega⟩
  have z8 : sn_sum (fun _ => (0 : Int)) 8 = 0 := rfl
  refine ⟨sk_In_0 q1 (fun a c g => f a c (by omega)) (by rw [f 3 0 (by omega)]; omega) (by rw [f 3 0 (by omega)]; exact q1.1.2) hC (by rw [e15.1]; omega) e2, ⟨fun s a1 a2 a3 => absurd (e10 s a1 a2).1 a3, ?_, ?_, fun s a1 a2 _ => (e10 s a1 a2).2⟩, ⟨by rw [e15.1, e9.1], by rw [e15.1, e15.2]; omega, fun i a1 a2 => by rw [e15.1] at a2; omega, fun i j a1 a2 a3 => by rw [e15.1] at a3; omega, fun s a1 a2 a3 => absurd (e10 s a1 a2).1 a3, fun s a1 a2 => by rw [f 13 s (by omega)]; exact q3.2.2.2.2.2 s a1 a2⟩, hC, ⟨fun l s a1 a2 a3 a4 => by rw [eb _ _ (by omega) (by omega) a3 a4]; omega, fun s a1 a2 => by rw [eb _ _ (by omega) (by omega) a1 a2]; omega, fun l s a1 a2 a3 a4 _ => eb _ _ (by omega) (by omega) a3 a4, ?_, ?_, fun l a1 a2 => ?_, fun l a1 a2 => eb _ _ (by omega) (by omega) a1 a2⟩, ⟨fun t a1 a2 => by rw [e178 t a1 a2, f 211 2 (by omega)]; have := q6.2.1; omega, by rw [f 211 2 (by omega)]; exact q6.2.1, by rw [f 211 2 (by omega)]; exact q6.2.2⟩⟩
  · rw [e9.1]; exact ((sn_sum_c 8 (fun i g => if_pos (e10 i (by omega) (by omega)).1)).trans z8).symm
  · rw [e9.1, e9.2]; exact (sn_sum_c 8 (fun i g => if_neg (fun z => z.1 (e10 i (by omega) (by omega)).1))).trans z8
  · rw [e217.1]; exact ((sn_sum_c 8 (fun i g => if_pos (eb 228 i (by omega) (by omega) (by omega) (by omega)))).trans z8).symm
  · rw [e217.2]; exact ((sn_sum_c 8 (fun i g => if_pos (eb 230 i (by omega) (by omega) (by omega) (by omega)))).trans z8).symm
  · rw [f 3 0 (by omega)] at a1
    have := q1.1.1
    exact eb 228 l (by omega) (by omega) (by omega) a2
set_option maxHeartbeats 1000000 in
theorem sk_next {n k : Nat} {Y : Nat → Nat × Nat} {X : Nat → Nat → sn_V} {σ : Int → Int → Int} {Q : Option sn_V → sn_H → Prop} (hI : sk_Iv σ) (hph : σ 2 10 = 3) (h1 : 0 ≤ σ 2 9) (h2 : σ 2 9 < 20) (kk : ∀ ω, sk_Iv ω → (∀ a c, a ≠ 2 → a ≠ 9 → a ≠ 10 → a ≠ 11 → a ≠ 15 → ¬ ((60 ≤ a ∧ a ≤ 61) ∨ (98 ≤ a ∧ a ≤ 178) ∨ (217 ≤ a ∧ a ≤ 230)) → ω a c = σ a c) → ω 2 9 = σ 2 9 + 1 → ω 2 10 = 0 → ω 2 12 = σ 2 11 → (∀ s, 0 ≤ s → s < 8 → ω 10 s = 0 ∧ ω 11 s = 0) → ω 9 0 = 0 → ω 9 1 = 0 → (∀ b, 0 ≤ b → b < 40 → ω 61 b = 0) → (∀ t, 0 ≤ t → t < 80 → ω 178 t = 0) → (∀ a s, 219 ≤ a → a ≤ 230 → 0 ≤ s → s < 8 → ω a s = 0) → Q (some (sn_i (σ 2 9 + 1))) (sn_hh n k Y ω X)) : sn_Wp 117 0 [sn_r 2] [] (sn_hh n k Y σ X) Q := by
  refine sn_q_aloadn sn_bc_117 dX9_next_0 rfl ?_
  refine sn_q_iconst sn_bc_117 dX9_next_1 rfl ?_
  refine sn_q_invV sn_bc_117 dX9_next_2 sn_oc_117 sn_pv_9_114 (by decide) rfl (by decide) (sn_h1 (by decide)) rfl rfl rfl rfl (sp_needPhase hph ?_)
  refine sn_q_aloadn sn_bc_117 dX9_next_5 rfl ?_
  refine sn_q_geti (P := 2) (J := 9) sn_bc_117 dX9_next_6 sn_oc_117 sn_pf_9_80 (by decide) rfl rfl rfl rfl ?_
  refine sn_q_bipush sn_bc_117 dX9_next_9 rfl ?_
  refine sn_q_iclt (t := 25) sn_bc_117 dX9_next_11 rfl (fun c_11 => ?_) (fun c_11 => ?_)
  · refine sn_q_aloadn sn_bc_117 dX9_next_25 rfl ?_
    refine sn_q_dup sn_bc_117 dX9_next_26 rfl ?_
    refine sn_q_geti (P := 2) (J := 9) sn_bc_117 dX9_next_27 sn_oc_117 sn_pf_9_80 (by decide) rfl rfl rfl rfl ?_
    refine sn_q_iconst sn_bc_117 dX9_next_30 rfl ?_
    refine sn_q_iadd sn_bc_117 dX9_next_31 (by omega) (by omega) ?_
    refine sn_q_puti (P := 2) (J := 9) sn_bc_117 dX9_next_32 sn_oc_117 sn_pf_9_80 (by decide) rfl rfl rfl rfl rfl rfl ?_
    refine sn_q_aloadn sn_bc_117 dX9_next_35 rfl ?_
    refine sn_q_iconst sn_bc_117 dX9_next_36 rfl ?_
    refine sn_q_puti (P := 2) (J := 10) sn_bc_117 dX9_next_37 sn_oc_117 sn_pf_9_84 (by decide) rfl rfl rfl rfl rfl rfl ?_
    refine sn_q_aloadn sn_bc_117 dX9_next_40 rfl ?_
    refine sn_q_aloadn sn_bc_117 dX9_next_41 rfl ?_
    refine sn_q_geti (P := 2) (J := 11) sn_bc_117 dX9_next_42 sn_oc_117 sn_pf_9_87 (by decide) rfl rfl rfl rfl ?_
    rw [sn_s_j (by omega), sn_s_j (by omega)]
    refine sn_q_puti (P := 2) (J := 12) sn_bc_117 dX9_next_45 sn_oc_117 sn_pf_9_90 (by decide) rfl rfl rfl rfl rfl rfl ?_
    refine sn_q_aloadn sn_bc_117 dX9_next_48 rfl ?_
    refine sn_q_iconst sn_bc_117 dX9_next_49 rfl ?_
    refine sn_q_puti (P := 2) (J := 13) sn_bc_117 dX9_next_50 sn_oc_117 sn_pf_9_93 (by decide) rfl rfl rfl rfl rfl rfl ?_
    refine sn_q_aloadn sn_bc_117 dX9_next_53 rfl ?_
    refine sn_q_getr (v := 9) sn_bc_117 dX9_next_54 sn_oc_117 sn_pf_9_42 (by decide) rfl rfl (by decide) ?_
    refine sn_q_invV sn_bc_117 dX9_next_57 sn_oc_117 sn_pv_9_324 (by decide) rfl (by decide) (sn_h1 (by decide)) rfl rfl rfl rfl (sk_Songs_clear (fun τ1 s1 s2 s3 s4 => ?_))
    refine sn_q_aloadn sn_bc_117 dX9_next_60 rfl ?_
    refine sn_q_getr (v := 15) sn_bc_117 dX9_next_61 sn_oc_117 sn_pf_9_46 (by decide) rfl rfl (by decide) ?_
    refine sn_q_invV sn_bc_117 dX9_next_64 sn_oc_117 sn_pv_9_327 (by decide) rfl (by decide) (sn_h1 (by decide)) rfl rfl rfl rfl (sk_Stage_clear (fun τ2 t1 t2 t3 => ?_))
    refine sn_q_aloadn sn_bc_117 dX9_next_67 rfl ?_
    refine sn_q_getr (v := 18) sn_bc_117 dX9_next_68 sn_oc_117 sn_pf_9_50 (by decide) rfl rfl (by decide) ?_
    refine sn_q_invV sn_bc_117 dX9_next_71 sn_oc_117 sn_pv_9_328 (by decide) rfl (by decide) (sn_h1 (by decide)) rfl rfl rfl rfl (sk_Ballots_clear (fun τ3 b1 b2 => ?_))
    refine sn_q_aloadn sn_bc_117 dX9_next_74 rfl ?_
    refine sn_q_getr (v := 96) sn_bc_117 dX9_next_75 sn_oc_117 sn_pf_9_58 (by decide) rfl rfl (by decide) ?_
    refine sn_q_invV sn_bc_117 dX9_next_78 sn_oc_117 sn_pv_9_329 (by decide) rfl (by decide) (sn_h1 (by decide)) rfl rfl rfl rfl (sk_Phones_clear (fun τ4 p1 p2 => ?_))
    refine sn_q_aloadn sn_bc_117 dX9_next_81 rfl ?_
    refine sn_q_getr (v := 217) sn_bc_117 dX9_next_82 sn_oc_117 sn_pf_9_76 (by decide) rfl rfl (by decide) ?_
    refine sn_q_invV sn_bc_117 dX9_next_85 sn_oc_117 sn_pv_9_330 (by decide) rfl (by decide) (sn_h1 (by decide)) rfl rfl rfl rfl (sk_Board_clear (fun τ5 d1 d2 d3 d4 => ?_))
    have q22 : ∀ c, τ5 2 c = sn_s (sn_s (sn_s (sn_s σ 2 9 (σ 2 9 + 1)) 2 10 0) 2 12 (σ 2 11)) 2 13 (-1) 2 c := fun c => by rw [d1 _ _ (by omega), p1 _ _ (by omega), b1 _ _ (by omega) (by omega), t1 _ _ (by omega), s1 _ _ (by omega) (by omega) (by omega)]
    have e9y : τ5 2 9 = σ 2 9 + 1 := by rw [q22 9, sn_s_j (by omega), sn_s_j (by omega), sn_s_j (by omega), sn_s_e]
    refine sn_q_aloadn sn_bc_117 dX9_next_88 rfl ?_
    refine sn_q_iconst sn_bc_117 dX9_next_89 rfl ?_
    refine sn_q_puti (P := 2) (J := 15) sn_bc_117 dX9_next_90 sn_oc_117 sn_pf_9_99 (by decide) rfl rfl rfl rfl (sn_fz (by omega)) rfl ?_
    refine sn_q_aloadn sn_bc_117 dX9_next_93 rfl ?_
    refine sn_q_geti (P := 2) (J := 9) sn_bc_117 dX9_next_94 sn_oc_117 sn_pf_9_80 (by decide) rfl rfl rfl rfl ?_
    rw [sn_s_j (by omega), e9y]
    refine sn_q_iret sn_bc_117 dX9_next_97 rfl ?_
    have q5 : ∀ a c, a ≠ 2 → ¬ (217 ≤ a ∧ a ≤ 230) → sn_s τ5 2 15 0 a c = τ4 a c := fun a c g1 g2 => (sn_s_p g1).trans (d1 a c g2)
    have q4 : ∀ a c, a ≠ 2 → ¬ (217 ≤ a ∧ a ≤ 230) → ¬ (98 ≤ a ∧ a ≤ 178) → sn_s τ5 2 15 0 a c = τ3 a c := fun a c g1 g2 g3 => (q5 a c g1 g2).trans (p1 a c g3)
    have q3 : ∀ a c, a ≠ 2 → ¬ (217 ≤ a ∧ a ≤ 230) → ¬ (98 ≤ a ∧ a ≤ 178) → a ≠ 60 → a ≠ 61 → sn_s τ5 2 15 0 a c = τ2 a c := fun a c g1 g2 g3 g4 g5 => (q4 a c g1 g2 g3).trans (b1 a c g4 g5)
    have q2 : ∀ a c, a ≠ 2 → ¬ (217 ≤ a ∧ a ≤ 230) → ¬ (98 ≤ a ∧ a ≤ 178) → a ≠ 60 → a ≠ 61 → a ≠ 15 → sn_s τ5 2 15 0 a c = τ1 a c := fun a c g1 g2 g3 g4 g5 g6 => (q3 a c g1 g2 g3 g4 g5).trans (t1 a c g6)
    have f : ∀ a c, a ≠ 2 → a ≠ 9 → a ≠ 10 → a ≠ 11 → a ≠ 15 → ¬ ((60 ≤ a ∧ a ≤ 61) ∨ (98 ≤ a ∧ a ≤ 178) ∨ (217 ≤ a ∧ a ≤ 230)) → sn_s τ5 2 15 0 a c = σ a c := fun a c g1 g2 g3 g4 g5 g6 => by
      rw [q2 a c g1 (by omega) (by omega) (by omega) (by omega) g5, s1 a c g2 g3 g4, sn_s_p g1, sn_s_p g1, sn_s_p g1, sn_s_p g1]
    have hxb : ∀ a s, 219 ≤ a → a ≤ 230 → 0 ≤ s → s < 8 → sn_s τ5 2 15 0 a s = 0 := fun a s g1 g2 g3 g4 => (sn_s_p (by omega)).trans (d2 a s g1 g2 g3 g4)
    have hx10 : ∀ s, 0 ≤ s → s < 8 → sn_s τ5 2 15 0 10 s = 0 ∧ sn_s τ5 2 15 0 11 s = 0 := fun s g1 g2 => by rw [q2 10 s (by omega) (by omega) (by omega) (by omega) (by omega) (by omega), q2 11 s (by omega) (by omega) (by omega) (by omega) (by omega) (by omega)]; exact s2 s g1 g2
    have hx9 : sn_s τ5 2 15 0 9 0 = 0 ∧ sn_s τ5 2 15 0 9 1 = 0 := by rw [q2 9 0 (by omega) (by omega) (by omega) (by omega) (by omega) (by omega), q2 9 1 (by omega) (by omega) (by omega) (by omega) (by omega) (by omega)]; exact ⟨s3, s4⟩
    have hx15 : sn_s τ5 2 15 0 15 3 = 0 ∧ sn_s τ5 2 15 0 15 4 = 0 := by rw [q3 15 3 (by omega) (by omega) (by omega) (by omega) (by omega), q3 15 4 (by omega) (by omega) (by omega) (by omega) (by omega)]; exact ⟨t2, t3⟩
    have hx60 : ∀ s, 0 ≤ s → s < 40 → sn_s τ5 2 15 0 60 s = 0 ∧ sn_s τ5 2 15 0 61 s = 0 := fun s g1 g2 => by rw [q4 60 s (by omega) (by omega) (by omega), q4 61 s (by omega) (by omega) (by omega)]; exact b2 s g1 g2
    have hx178 : ∀ s, 0 ≤ s → s < 80 → sn_s τ5 2 15 0 178 s = 0 := fun s g1 g2 => by rw [q5 178 s (by omega) (by omega)]; exact p2 s g1 g2
    have hx217 : sn_s τ5 2 15 0 217 7 = 0 ∧ sn_s τ5 2 15 0 217 8 = 0 := by rw [sn_s_p (by omega), sn_s_p (by omega)]; exact ⟨d3, d4⟩
    refine kk _ (sk_new hI (fun a c g => f a c (by omega) (by omega) (by omega) (by omega) (by omega) (by omega)) hx10 hx9 hx15 hx60 hx178 hxb hx217 sn_s_e) f ?_ ?_ ?_ hx10 hx9.1 hx9.2 (fun b a1 a2 => (hx60 b a1 a2).2) hx178 hxb
    · rw [sn_s_j (by omega)]; exact e9y
    · rw [sn_s_j (by omega), q22 10, sn_s_j (by omega), sn_s_j (by omega), sn_s_e]
    · rw [sn_s_j (by omega), q22 12, sn_s_j (by omega), sn_s_e]
  · exfalso; omega
/-- no quotient of the contest is NaN -/
def sk_dv : Prop := ∀ a b : Int, 0 ≤ a → a ≤ 1536 → 1 ≤ b → b ≤ 8 → FP.ddiv (FP.i2d (Int32.ofInt a)) (FP.i2d (Int32.ofInt b)) &&& 0x7fffffffffffffff ≤ 0x7ff0000000000000
theorem sk_meanTotal {n k : Nat} {Y : Nat → Nat × Nat} {X : Nat → Nat → sn_V} {σ : Int → Int → Int} {Q : Option sn_V → sn_H → Prop} (hdv : sk_dv) (hYX : sn_YX Y X) (hI : sk_Iv σ) (h1 : 1 ≤ σ 9 0 - σ 9 1) (kk : ∀ τ, sk_q σ τ → Q (some (sn_d (FP.ddiv (FP.i2d (Int32.ofInt (sn_sum (fun s => τ 213 s + τ 214 s) 8))) (FP.i2d (Int32.ofInt (τ 9 0 - τ 9 1)))))) (sn_hh n k Y τ X)) : sn_Wp 94 0 [sn_r 2, sn_u] [] (sn_hh n k Y σ X) Q := by
  refine sn_q_aloadn sn_bc_94 dX9_meanTotal_0 rfl ?_
  refine sn_q_invV sn_bc_94 dX9_meanTotal_1 sn_oc_94 sn_pv_9_255 (by decide) rfl (by decide) (sn_h1 (by decide)) rfl rfl rfl rfl (sk_count hYX hI (fun τ hq => ?_))
  have hA := sk_A_bd hq.2.2.1.2.1
  have t90 := hq.1 9 0 (by omega) (by omega)
  have t91 := hq.1 9 1 (by omega) (by omega)
  refine sn_q_aloadn sn_bc_94 dX9_meanTotal_4 rfl ?_
  refine sn_q_getr (v := 9) sn_bc_94 dX9_meanTotal_5 sn_oc_94 sn_pf_9_42 (by decide) rfl rfl (by decide) ?_
  refine sn_q_invV sn_bc_94 dX9_meanTotal_8 sn_oc_94 sn_pv_9_241 (by decide) rfl (by decide) (sn_h1 (by decide)) rfl rfl rfl rfl (sp_running (by omega) (by omega) (by omega) (by omega) ?_)
  refine sn_q_istn1 sn_bc_94 dX9_meanTotal_11 rfl ?_
  refine sn_q_iloadn sn_bc_94 dX9_meanTotal_12 rfl ?_
  refine sn_q_ifgt (t := 18) sn_bc_94 dX9_meanTotal_13 rfl (fun c_13 => ?_) (fun c_13 => ?_)
  · have hS := sn_sum_b (f := fun s => τ 213 s + τ 214 s) (B := 192) 8 (fun j g2 => by have := sk_tot_bd hq.2.2.2.1 j (by omega) (by omega); omega)
    refine sn_q_aloadn sn_bc_94 dX9_meanTotal_18 rfl ?_
    refine sn_q_getr (v := 212) sn_bc_94 dX9_meanTotal_19 sn_oc_94 sn_pf_9_67 (by decide) rfl rfl (by decide) ?_
    refine sn_q_invV sn_bc_94 dX9_meanTotal_22 sn_oc_94 sn_pv_9_353 (by decide) rfl (by decide) (sn_h1 (by decide)) rfl rfl rfl rfl (sp_sumOfTotals (fun s a1 a2 => sk_tot_bd hq.2.2.2.1 s a1 a2) ?_)
    refine sn_q_i2d sn_bc_94 dX9_meanTotal_25 ?_
    refine sn_q_iloadn sn_bc_94 dX9_meanTotal_26 rfl ?_
    refine sn_q_i2d sn_bc_94 dX9_meanTotal_27 ?_
    refine sn_q_ddiv sn_bc_94 dX9_meanTotal_28 (hdv _ _ (by omega) (by omega) (by omega) (by omega)) ?_
    refine sn_q_dret sn_bc_94 dX9_meanTotal_29 rfl ?_
    first
      | (exfalso; omega)
      | exact kk τ hq
  · refine sn_q_dconst sn_bc_94 dX9_meanTotal_16 ?_
    refine sn_q_dret sn_bc_94 dX9_meanTotal_17 rfl ?_
    first
      | (exfalso; omega)
      | exact kk τ hq
