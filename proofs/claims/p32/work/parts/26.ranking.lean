/-! the ranking -/
def sn_PJ (σ : Int → Int → Int) (s : Int) : Int := sn_sum (fun l => σ (83 + l) s) 8
def sn_PK (σ : Int → Int → Int) (s : Int) : Int := sn_sum (fun l => σ (198 + l) s) 8
def sn_b12 (σ : Int → Int → Int) : Prop := ∀ l s, 0 ≤ l → l < 8 → 0 ≤ s → s < 8 → (0 ≤ σ (83 + l) s ∧ σ (83 + l) s ≤ 12) ∧ 0 ≤ σ (198 + l) s ∧ σ (198 + l) s ≤ 12
theorem sn_b12_t {σ τ : Int → Int → Int} (h : sn_b12 σ) (e : ∀ a c, 83 ≤ a → a < 206 → τ a c = σ a c) : sn_b12 τ := fun l s a1 a2 a3 a4 => by rw [e _ _ (by omega) (by omega), e _ _ (by omega) (by omega)]; exact h l s a1 a2 a3 a4
theorem sn_PJ_t {σ τ : Int → Int → Int} {s : Int} (e : ∀ a c, 83 ≤ a → a < 91 → τ a c = σ a c) : sn_PJ τ s = sn_PJ σ s := sn_sum_c 8 (fun i g => e _ _ (by omega) (by omega))
theorem sn_PK_t {σ τ : Int → Int → Int} {s : Int} (e : ∀ a c, 198 ≤ a → a < 206 → τ a c = σ a c) : sn_PK τ s = sn_PK σ s := sn_sum_c 8 (fun i g => e _ _ (by omega) (by omega))
theorem sn_PJ_bd {σ : Int → Int → Int} {s : Int} (h : sn_b12 σ) (h0 : 0 ≤ s) (h8 : s < 8) : 0 ≤ sn_PJ σ s ∧ sn_PJ σ s ≤ 96 := by
  have := sn_sum_b (f := fun l => σ (83 + l) s) (B := 12) 8 (fun i g => (h i s (by omega) (by omega) h0 h8).1)
  exact this
theorem sn_PK_bd {σ : Int → Int → Int} {s : Int} (h : sn_b12 σ) (h0 : 0 ≤ s) (h8 : s < 8) : 0 ≤ sn_PK σ s ∧ sn_PK σ s ≤ 96 := by
  have := sn_sum_b (f := fun l => σ (198 + l) s) (B := 12) 8 (fun i g => (h i s (by omega) (by omega) h0 h8).2)
  exact this
/-- it runs: it is in and not out -/
def sn_run (σ : Int → Int → Int) (s : Int) : Prop := σ 10 s ≠ 0 ∧ σ 11 s = 0
theorem sp_addPoints {n k : Nat} {Y : Nat → Nat × Nat} {X : Nat → Nat → sn_V} {σ : Int → Int → Int} {Q : Option sn_V → sn_H → Prop} {s : Int} (h1 : 0 ≤ s) (h2 : s < 8) (hb : sn_b12 σ) (z1 : σ 213 s = 0) (z2 : σ 214 s = 0) (kk : ∀ τ, (∀ a c, ¬ ((a = 213 ∨ a = 214) ∧ c = s) → τ a c = σ a c) → τ 213 s = sn_PJ σ s → τ 214 s = sn_PK σ s → Q none (sn_hh n k Y τ X)) : sn_Wp 52 0 [sn_r 212, sn_i s, sn_u] [] (sn_hh n k Y σ X) Q := by
  have loop : ∀ (d : Nat) (i : Nat) (τ : Int → Int → Int), i + d = 8 → (∀ a c, ¬ ((a = 213 ∨ a = 214) ∧ c = s) → τ a c = σ a c) → τ 213 s = sn_sum (fun l => σ (83 + l) s) i → τ 214 s = sn_sum (fun l => σ (198 + l) s) i → sn_Wp 52 2 [sn_r 212, sn_i s, sn_i (i : Int)] [] (sn_hh n k Y τ X) Q := by
    refine sn_ind (fun d ih => ?_)
    intro i τ hi hf e1 e2
    have hJ := fun g : i ≤ 8 => sn_sum_b (f := fun l => σ (83 + l) s) (B := 12) i (fun j g2 => (hb j s (by omega) (by omega) h1 h2).1)
    have hK := fun g : i ≤ 8 => sn_sum_b (f := fun l => σ (198 + l) s) (B := 12) i (fun j g2 => (hb j s (by omega) (by omega) h1 h2).2)
    refine sn_q_iloadn sn_bc_52 dX5_addPoints_2 rfl ?_
    refine sn_q_bipush sn_bc_52 dX5_addPoints_3 rfl ?_
    refine sn_q_icge (t := 54) sn_bc_52 dX5_addPoints_5 rfl (fun c_5 => ?_) (fun c_5 => ?_)
    · refine sn_q_vret sn_bc_52 dX5_addPoints_54 rfl ?_
      obtain rfl : i = 8 := by omega
      exact kk τ hf e1 e2
    · have hJ := hJ (by omega)
      have hK := hK (by omega)
      have hx := hb i s (by omega) (by omega) h1 h2
      refine sn_q_aloadn sn_bc_52 dX5_addPoints_8 rfl ?_
      refine sn_q_getr (v := 213) sn_bc_52 dX5_addPoints_9 sn_oc_52 sn_pf_5_9 (by decide) rfl rfl (by decide) ?_
      refine sn_q_iloadn sn_bc_52 dX5_addPoints_12 rfl ?_
      refine sn_q_dup2 sn_bc_52 dX5_addPoints_13 rfl ?_
      refine sn_q_iald (P := 213) sn_bc_52 dX5_addPoints_14 sn_a213 rfl (by omega) (by omega) ?_
      rw [e1]
      refine sn_q_aloadn sn_bc_52 dX5_addPoints_15 rfl ?_
      refine sn_q_getr (v := 63) sn_bc_52 dX5_addPoints_16 sn_oc_52 sn_pf_5_36 (by decide) rfl rfl (by decide) ?_
      refine sn_q_getr (v := 82) sn_bc_52 dX5_addPoints_19 sn_oc_52 sn_pf_5_62 (by decide) rfl rfl (by decide) ?_
      refine sn_q_iloadn sn_bc_52 dX5_addPoints_22 rfl ?_
      refine sn_q_aald sn_bc_52 dX5_addPoints_23 sn_a82 (by omega) (by omega) ?_
      refine sn_q_iloadn sn_bc_52 dX5_addPoints_24 rfl ?_
      refine sn_q_iald sn_bc_52 dX5_addPoints_25 (sn_b82 (by omega) (by omega)) (sn_p82 (by omega)) (by omega) (by omega) ?_
      rw [hf _ _ (by omega)]
      refine sn_q_iadd sn_bc_52 dX5_addPoints_26 (by omega) (by omega) ?_
      refine sn_q_iast (P := 213) sn_bc_52 dX5_addPoints_27 sn_a213 rfl (by omega) (by omega) ?_
      refine sn_q_aloadn sn_bc_52 dX5_addPoints_28 rfl ?_
      refine sn_q_getr (v := 214) sn_bc_52 dX5_addPoints_29 sn_oc_52 sn_pf_5_15 (by decide) rfl rfl (by decide) ?_
      refine sn_q_iloadn sn_bc_52 dX5_addPoints_32 rfl ?_
      refine sn_q_dup2 sn_bc_52 dX5_addPoints_33 rfl ?_
      refine sn_q_iald (P := 214) sn_bc_52 dX5_addPoints_34 sn_a214 rfl (by omega) (by omega) ?_
      rw [sn_s_p (by omega), e2]
      refine sn_q_aloadn sn_bc_52 dX5_addPoints_35 rfl ?_
      refine sn_q_getr (v := 96) sn_bc_52 dX5_addPoints_36 sn_oc_52 sn_pf_5_40 (by decide) rfl rfl (by decide) ?_
      refine sn_q_getr (v := 197) sn_bc_52 dX5_addPoints_39 sn_oc_52 sn_pf_5_68 (by decide) rfl rfl (by decide) ?_
      refine sn_q_iloadn sn_bc_52 dX5_addPoints_42 rfl ?_
      refine sn_q_aald sn_bc_52 dX5_addPoints_43 sn_a197 (by omega) (by omega) ?_
      refine sn_q_iloadn sn_bc_52 dX5_addPoints_44 rfl ?_
      refine sn_q_iald sn_bc_52 dX5_addPoints_45 (sn_b197 (by omega) (by omega)) (sn_p197 (by omega)) (by omega) (by omega) ?_
      rw [sn_s_p (by omega), hf _ _ (by omega)]
      refine sn_q_iadd sn_bc_52 dX5_addPoints_46 (by omega) (by omega) ?_
      refine sn_q_iast (P := 214) sn_bc_52 dX5_addPoints_47 sn_a214 rfl (by omega) (by omega) ?_
      refine sn_q_inc2 sn_bc_52 dX5_addPoints_48 rfl (by omega) (by omega) ?_
      refine sn_q_goto (t := 2) sn_bc_52 dX5_addPoints_51 rfl ?_
      exact ih (d - 1) (by omega) (i + 1) _ (by omega) (fun a c g => by unfold sn_s; rw [if_neg (by omega), if_neg (by omega)]; exact hf a c g) (by rw [sn_s_p (by omega), sn_s_e]; rfl) (by rw [sn_s_e]; rfl)
  refine sn_q_iconst sn_bc_52 dX5_addPoints_0 rfl ?_
  refine sn_q_istn2 sn_bc_52 dX5_addPoints_1 rfl ?_
  exact loop 8 0 σ rfl (fun _ _ _ => rfl) z1 z2
theorem sp_keyWithout {n k : Nat} {Y : Nat → Nat × Nat} {X : Nat → Nat → sn_V} {σ : Int → Int → Int} {Q : Option sn_V → sn_H → Prop} {s u : Int} (h1 : 0 ≤ s) (h2 : s < 8) (hb : sn_b12 σ) (h3 : 0 ≤ σ 15 3) (h4 : σ 15 3 ≤ 8) (kk : ∀ r : Int, (u = -1 → (sn_PJ σ s + sn_PK σ s) * 100000 ≤ r ∧ r < (sn_PJ σ s + sn_PK σ s + 1) * 100000) → Q (some (sn_i r)) (sn_hh n k Y σ X)) : sn_Wp 53 0 [sn_r 212, sn_i s, sn_i u, sn_u, sn_u, sn_u, sn_u, sn_u, sn_u] [] (sn_hh n k Y σ X) Q := by
  have loop : ∀ (d : Nat) (i : Nat) (t b g g2 : Int) (x : sn_V), i + d = 8 → 0 ≤ t → t ≤ 24 * (i : Int) → 0 ≤ b → b ≤ 12 * (i : Int) → 0 ≤ g → g ≤ (i : Int) → 0 ≤ g2 → g2 ≤ (i : Int) → (u = -1 → t = sn_sum (fun l => σ (83 + l) s) i + sn_sum (fun l => σ (198 + l) s) i) → sn_Wp 53 14 [sn_r 212, sn_i s, sn_i u, sn_i t, sn_i b, sn_i g, sn_i g2, sn_i (i : Int), x] [] (sn_hh n k Y σ X) Q := by
    refine sn_ind (fun d ih => ?_)
    intro i t b g g2 x hi t1 t2 b1 b2 g1 g3 g4 g5 ht
    refine sn_q_iload sn_bc_53 dX5_keyWithout_14 rfl ?_
    refine sn_q_bipush sn_bc_53 dX5_keyWithout_16 rfl ?_
    refine sn_q_icge (t := 104) sn_bc_53 dX5_keyWithout_18 rfl (fun c_18 => ?_) (fun c_18 => ?_)
    · refine sn_q_bipush sn_bc_53 dX5_keyWithout_104 rfl ?_
      refine sn_q_aloadn sn_bc_53 dX5_keyWithout_106 rfl ?_
      refine sn_q_getr (v := 15) sn_bc_53 dX5_keyWithout_107 sn_oc_53 sn_pf_5_32 (by decide) rfl rfl (by decide) ?_
      refine sn_q_iloadn sn_bc_53 dX5_keyWithout_110 rfl ?_
      refine sn_q_invV sn_bc_53 dX5_keyWithout_111 sn_oc_53 sn_pv_5_71 (by decide) rfl (by decide) (sn_h1 (by decide)) rfl rfl rfl rfl (sp_placeOf (by omega) (by omega) (fun r_111 hr_111 => ?_))
      refine sn_q_isub sn_bc_53 dX5_keyWithout_114 (by omega) (by omega) ?_
      refine sn_q_ist7 sn_bc_53 dX5_keyWithout_115 rfl ?_
      refine sn_q_iloadn sn_bc_53 dX5_keyWithout_117 rfl ?_
      refine sn_q_bipush sn_bc_53 dX5_keyWithout_118 rfl ?_
      refine sn_q_imul sn_bc_53 dX5_keyWithout_120 (by omega) (by omega) ?_
      refine sn_q_iload sn_bc_53 dX5_keyWithout_121 rfl ?_
      refine sn_q_iadd sn_bc_53 dX5_keyWithout_123 (by omega) (by omega) ?_
      refine sn_q_bipush sn_bc_53 dX5_keyWithout_124 rfl ?_
      refine sn_q_imul sn_bc_53 dX5_keyWithout_126 (by omega) (by omega) ?_
      refine sn_q_iload sn_bc_53 dX5_keyWithout_127 rfl ?_
      refine sn_q_iadd sn_bc_53 dX5_keyWithout_129 (by omega) (by omega) ?_
      refine sn_q_bipush sn_bc_53 dX5_keyWithout_130 rfl ?_
      refine sn_q_imul sn_bc_53 dX5_keyWithout_132 (by omega) (by omega) ?_
      refine sn_q_iload sn_bc_53 dX5_keyWithout_133 rfl ?_
      refine sn_q_iadd sn_bc_53 dX5_keyWithout_135 (by omega) (by omega) ?_
      refine sn_q_bipush sn_bc_53 dX5_keyWithout_136 rfl ?_
      refine sn_q_imul sn_bc_53 dX5_keyWithout_138 (by omega) (by omega) ?_
      refine sn_q_iload sn_bc_53 dX5_keyWithout_139 rfl ?_
      refine sn_q_iadd sn_bc_53 dX5_keyWithout_141 (by omega) (by omega) ?_
      refine sn_q_iret sn_bc_53 dX5_keyWithout_142 rfl ?_
      obtain rfl : i = 8 := by omega
      refine kk _ (fun hu => ?_)
      have ht' := ht hu
      have e : t = sn_PJ σ s + sn_PK σ s := ht'
      omega
    · refine sn_q_iload sn_bc_53 dX5_keyWithout_21 rfl ?_
      refine sn_q_iloadn sn_bc_53 dX5_keyWithout_23 rfl ?_
      refine sn_q_iceq (t := 98) sn_bc_53 dX5_keyWithout_24 rfl (fun c_24 => ?_) (fun c_24 => ?_)
      · refine sn_q_inc7 sn_bc_53 dX5_keyWithout_98 rfl (by omega) (by omega) ?_
        refine sn_q_goto (t := 14) sn_bc_53 dX5_keyWithout_101 rfl ?_
        refine ih (d - 1) (by omega) (i + 1) _ _ _ _ _ (by omega) (by omega) (by omega) (by omega) (by omega) (by omega) (by omega) (by omega) (by omega) (fun hu => ?_)
        first
          | (have ht' := ht hu
             rw [ht']
             show _ = (sn_sum (fun l => σ (83 + l) s) i + σ (83 + (i : Int)) s) + (sn_sum (fun l => σ (198 + l) s) i + σ (198 + (i : Int)) s)
             omega)
          | omega
      · have hx := hb i s (by omega) (by omega) h1 h2
        refine sn_q_aloadn sn_bc_53 dX5_keyWithout_27 rfl ?_
        refine sn_q_getr (v := 96) sn_bc_53 dX5_keyWithout_28 sn_oc_53 sn_pf_5_40 (by decide) rfl rfl (by decide) ?_
        refine sn_q_getr (v := 197) sn_bc_53 dX5_keyWithout_31 sn_oc_53 sn_pf_5_68 (by decide) rfl rfl (by decide) ?_
        refine sn_q_iload sn_bc_53 dX5_keyWithout_34 rfl ?_
        refine sn_q_aald sn_bc_53 dX5_keyWithout_36 sn_a197 (by omega) (by omega) ?_
        refine sn_q_iloadn sn_bc_53 dX5_keyWithout_37 rfl ?_
        refine sn_q_iald sn_bc_53 dX5_keyWithout_38 (sn_b197 (by omega) (by omega)) (sn_p197 (by omega)) (by omega) (by omega) ?_
        refine sn_q_ist8 sn_bc_53 dX5_keyWithout_39 rfl ?_
        refine sn_q_iloadn sn_bc_53 dX5_keyWithout_41 rfl ?_
        refine sn_q_aloadn sn_bc_53 dX5_keyWithout_42 rfl ?_
        refine sn_q_getr (v := 63) sn_bc_53 dX5_keyWithout_43 sn_oc_53 sn_pf_5_36 (by decide) rfl rfl (by decide) ?_
        refine sn_q_getr (v := 82) sn_bc_53 dX5_keyWithout_46 sn_oc_53 sn_pf_5_62 (by decide) rfl rfl (by decide) ?_
        refine sn_q_iload sn_bc_53 dX5_keyWithout_49 rfl ?_
        refine sn_q_aald sn_bc_53 dX5_keyWithout_51 sn_a82 (by omega) (by omega) ?_
        refine sn_q_iloadn sn_bc_53 dX5_keyWithout_52 rfl ?_
        refine sn_q_iald sn_bc_53 dX5_keyWithout_53 (sn_b82 (by omega) (by omega)) (sn_p82 (by omega)) (by omega) (by omega) ?_
        refine sn_q_iload sn_bc_53 dX5_keyWithout_54 rfl ?_
        refine sn_q_iadd sn_bc_53 dX5_keyWithout_56 (by omega) (by omega) ?_
        refine sn_q_iadd sn_bc_53 dX5_keyWithout_57 (by omega) (by omega) ?_
        refine sn_q_istn3 sn_bc_53 dX5_keyWithout_58 rfl ?_
        refine sn_q_iload sn_bc_53 dX5_keyWithout_59 rfl ?_
        refine sn_q_iload sn_bc_53 dX5_keyWithout_61 rfl ?_
        refine sn_q_iadd sn_bc_53 dX5_keyWithout_63 (by omega) (by omega) ?_
        refine sn_q_ist4 sn_bc_53 dX5_keyWithout_64 rfl ?_
        refine sn_q_iload sn_bc_53 dX5_keyWithout_66 rfl ?_
        refine sn_q_iload sn_bc_53 dX5_keyWithout_68 rfl ?_
        refine sn_q_ifle (t := 77) sn_bc_53 dX5_keyWithout_70 rfl (fun c_70 => ?_) (fun c_70 => ?_)
        · refine sn_q_iconst sn_bc_53 dX5_keyWithout_77 rfl ?_
          refine sn_q_iadd sn_bc_53 dX5_keyWithout_78 (by omega) (by omega) ?_
          refine sn_q_ist5 sn_bc_53 dX5_keyWithout_79 rfl ?_
          refine sn_q_iload sn_bc_53 dX5_keyWithout_81 rfl ?_
          refine sn_q_iload sn_bc_53 dX5_keyWithout_83 rfl ?_
          refine sn_q_bipush sn_bc_53 dX5_keyWithout_85 rfl ?_
          refine sn_q_icne (t := 94) sn_bc_53 dX5_keyWithout_87 rfl (fun c_87 => ?_) (fun c_87 => ?_)
          · refine sn_q_iconst sn_bc_53 dX5_keyWithout_94 rfl ?_
            refine sn_q_iadd sn_bc_53 dX5_keyWithout_95 (by omega) (by omega) ?_
            refine sn_q_ist6 sn_bc_53 dX5_keyWithout_96 rfl ?_
            refine sn_q_inc7 sn_bc_53 dX5_keyWithout_98 rfl (by omega) (by omega) ?_
            refine sn_q_goto (t := 14) sn_bc_53 dX5_keyWithout_101 rfl ?_
            refine ih (d - 1) (by omega) (i + 1) _ _ _ _ _ (by omega) (by omega) (by omega) (by omega) (by omega) (by omega) (by omega) (by omega) (by omega) (fun hu => ?_)
            first
              | (have ht' := ht hu
                 rw [ht']
                 show _ = (sn_sum (fun l => σ (83 + l) s) i + σ (83 + (i : Int)) s) + (sn_sum (fun l => σ (198 + l) s) i + σ (198 + (i : Int)) s)
                 omega)
              | omega
          · refine sn_q_iconst sn_bc_53 dX5_keyWithout_90 rfl ?_
            refine sn_q_goto (t := 95) sn_bc_53 dX5_keyWithout_91 rfl ?_
            refine sn_q_iadd sn_bc_53 dX5_keyWithout_95 (by omega) (by omega) ?_
            refine sn_q_ist6 sn_bc_53 dX5_keyWithout_96 rfl ?_
            refine sn_q_inc7 sn_bc_53 dX5_keyWithout_98 rfl (by omega) (by omega) ?_
            refine sn_q_goto (t := 14) sn_bc_53 dX5_keyWithout_101 rfl ?_
            refine ih (d - 1) (by omega) (i + 1) _ _ _ _ _ (by omega) (by omega) (by omega) (by omega) (by omega) (by omega) (by omega) (by omega) (by omega) (fun hu => ?_)
            first
              | (have ht' := ht hu
                 rw [ht']
                 show _ = (sn_sum (fun l => σ (83 + l) s) i + σ (83 + (i : Int)) s) + (sn_sum (fun l => σ (198 + l) s) i + σ (198 + (i : Int)) s)
                 omega)
              | omega
        · refine sn_q_iconst sn_bc_53 dX5_keyWithout_73 rfl ?_
          refine sn_q_goto (t := 78) sn_bc_53 dX5_keyWithout_74 rfl ?_
          refine sn_q_iadd sn_bc_53 dX5_keyWithout_78 (by omega) (by omega) ?_
          refine sn_q_ist5 sn_bc_53 dX5_keyWithout_79 rfl ?_
          refine sn_q_iload sn_bc_53 dX5_keyWithout_81 rfl ?_
          refine sn_q_iload sn_bc_53 dX5_keyWithout_83 rfl ?_
          refine sn_q_bipush sn_bc_53 dX5_keyWithout_85 rfl ?_
          refine sn_q_icne (t := 94) sn_bc_53 dX5_keyWithout_87 rfl (fun c_87 => ?_) (fun c_87 => ?_)
          · refine sn_q_iconst sn_bc_53 dX5_keyWithout_94 rfl ?_
            refine sn_q_iadd sn_bc_53 dX5_keyWithout_95 (by omega) (by omega) ?_
            refine sn_q_ist6 sn_bc_53 dX5_keyWithout_96 rfl ?_
            refine sn_q_inc7 sn_bc_53 dX5_keyWithout_98 rfl (by omega) (by omega) ?_
            refine sn_q_goto (t := 14) sn_bc_53 dX5_keyWithout_101 rfl ?_
            refine ih (d - 1) (by omega) (i + 1) _ _ _ _ _ (by omega) (by omega) (by omega) (by omega) (by omega) (by omega) (by omega) (by omega) (by omega) (fun hu => ?_)
            first
              | (have ht' := ht hu
                 rw [ht']
                 show _ = (sn_sum (fun l => σ (83 + l) s) i + σ (83 + (i : Int)) s) + (sn_sum (fun l => σ (198 + l) s) i + σ (198 + (i : Int)) s)
                 omega)
              | omega
          · refine sn_q_iconst sn_bc_53 dX5_keyWithout_90 rfl ?_
            refine sn_q_goto (t := 95) sn_bc_53 dX5_keyWithout_91 rfl ?_
            refine sn_q_iadd sn_bc_53 dX5_keyWithout_95 (by omega) (by omega) ?_
            refine sn_q_ist6 sn_bc_53 dX5_keyWithout_96 rfl ?_
            refine sn_q_inc7 sn_bc_53 dX5_keyWithout_98 rfl (by omega) (by omega) ?_
            refine sn_q_goto (t := 14) sn_bc_53 dX5_keyWithout_101 rfl ?_
            refine ih (d - 1) (by omega) (i + 1) _ _ _ _ _ (by omega) (by omega) (by omega) (by omega) (by omega) (by omega) (by omega) (by omega) (by omega) (fun hu => ?_)
            first
              | (have ht' := ht hu
                 rw [ht']
                 show _ = (sn_sum (fun l => σ (83 + l) s) i + σ (83 + (i : Int)) s) + (sn_sum (fun l => σ (198 + l) s) i + σ (198 + (i : Int)) s)
                 omega)
              | omega
  refine sn_q_iconst sn_bc_53 dX5_keyWithout_0 rfl ?_
  refine sn_q_istn3 sn_bc_53 dX5_keyWithout_1 rfl ?_
  refine sn_q_iconst sn_bc_53 dX5_keyWithout_2 rfl ?_
  refine sn_q_ist4 sn_bc_53 dX5_keyWithout_3 rfl ?_
  refine sn_q_iconst sn_bc_53 dX5_keyWithout_5 rfl ?_
  refine sn_q_ist5 sn_bc_53 dX5_keyWithout_6 rfl ?_
  refine sn_q_iconst sn_bc_53 dX5_keyWithout_8 rfl ?_
  refine sn_q_ist6 sn_bc_53 dX5_keyWithout_9 rfl ?_
  refine sn_q_iconst sn_bc_53 dX5_keyWithout_11 rfl ?_
  refine sn_q_ist7 sn_bc_53 dX5_keyWithout_12 rfl ?_
  exact loop 8 0 0 0 0 0 _ rfl (by omega) (by omega) (by omega) (by omega) (by omega) (by omega) (by omega) (by omega) (fun _ => rfl)
theorem sp_leaderWithout {n k : Nat} {Y : Nat → Nat × Nat} {X : Nat → Nat → sn_V} {σ : Int → Int → Int} {Q : Option sn_V → sn_H → Prop} {u : Int} (hb : sn_b12 σ) (h3 : 0 ≤ σ 15 3) (h4 : σ 15 3 ≤ 8) (kk : ∀ r : Int, -1 ≤ r → r < 8 → ((∀ s, 0 ≤ s → s < 8 → ¬ sn_run σ s) → r = -1) → Q (some (sn_i r)) (sn_hh n k Y σ X)) : sn_Wp 125 0 [sn_r 212, sn_i u, sn_u, sn_u, sn_u, sn_u] [] (sn_hh n k Y σ X) Q := by
  have loop : ∀ (d : Nat) (i : Nat) (f m : Int) (x : sn_V), i + d = 8 → -1 ≤ f → f < 8 → 0 ≤ m → ((∀ s, 0 ≤ s → s < 8 → ¬ sn_run σ s) → f = -1) → sn_Wp 125 7 [sn_r 212, sn_i u, sn_i f, sn_i m, sn_i (i : Int), x] [] (sn_hh n k Y σ X) Q := by
    refine sn_ind (fun d ih => ?_)
    intro i f m x hi f1 f2 m1 hn
    refine sn_q_iload sn_bc_125 dX5_leaderWithout_7 rfl ?_
    refine sn_q_bipush sn_bc_125 dX5_leaderWithout_9 rfl ?_
    refine sn_q_icge (t := 57) sn_bc_125 dX5_leaderWithout_11 rfl (fun c_11 => ?_) (fun c_11 => ?_)
    · refine sn_q_iloadn sn_bc_125 dX5_leaderWithout_57 rfl ?_
      refine sn_q_iret sn_bc_125 dX5_leaderWithout_58 rfl ?_
      exact kk _ f1 f2 hn
    · refine sn_q_aloadn sn_bc_125 dX5_leaderWithout_14 rfl ?_
      refine sn_q_getr (v := 9) sn_bc_125 dX5_leaderWithout_15 sn_oc_125 sn_pf_5_28 (by decide) rfl rfl (by decide) ?_
      refine sn_q_iload sn_bc_125 dX5_leaderWithout_18 rfl ?_
      refine sn_q_invV sn_bc_125 dX5_leaderWithout_20 sn_oc_125 sn_pv_5_44 (by decide) rfl (by decide) (sn_h1 (by decide)) rfl rfl rfl rfl (sp_isRunning (by omega) (by omega) (fun w1 w2 => ?_) (fun w => ?_))
      · refine sn_q_ifeq (t := 36) sn_bc_125 dX5_leaderWithout_23 rfl (fun c => absurd c (by decide)) (fun _ => ?_)
        refine sn_q_aloadn sn_bc_125 dX5_leaderWithout_26 rfl ?_
        refine sn_q_iload sn_bc_125 dX5_leaderWithout_27 rfl ?_
        refine sn_q_iloadn sn_bc_125 dX5_leaderWithout_29 rfl ?_
        refine sn_q_invV sn_bc_125 dX5_leaderWithout_30 sn_oc_125 sn_pv_5_54 (by decide) rfl (by decide) (sn_h1 (by decide)) rfl rfl rfl rfl (sp_keyWithout (by omega) (by omega) hb h3 h4 (fun y hy => ?_))
        refine sn_q_goto (t := 37) sn_bc_125 dX5_leaderWithout_33 rfl ?_
        refine sn_q_ist5 sn_bc_125 dX5_leaderWithout_37 rfl ?_
        refine sn_q_iload sn_bc_125 dX5_leaderWithout_39 rfl ?_
        refine sn_q_iloadn sn_bc_125 dX5_leaderWithout_41 rfl ?_
        refine sn_q_icle (t := 51) sn_bc_125 dX5_leaderWithout_42 rfl (fun c_42 => ?_) (fun c_42 => ?_)
        · refine sn_q_inc4 sn_bc_125 dX5_leaderWithout_51 rfl (by omega) (by omega) ?_
          refine sn_q_goto (t := 7) sn_bc_125 dX5_leaderWithout_54 rfl ?_
          first
            | exact ih (d - 1) (by omega) (i + 1) _ _ _ (by omega) f1 f2 m1 hn
            | (exfalso; omega)
            | exact ih (d - 1) (by omega) (i + 1) _ _ _ (by omega) (by omega) (by omega) (by omega) (fun h => absurd ⟨w1, w2⟩ (h i (by omega) (by omega)))
        · refine sn_q_iload sn_bc_125 dX5_leaderWithout_45 rfl ?_
          refine sn_q_istn3 sn_bc_125 dX5_leaderWithout_47 rfl ?_
          refine sn_q_iload sn_bc_125 dX5_leaderWithout_48 rfl ?_
          refine sn_q_istn2 sn_bc_125 dX5_leaderWithout_50 rfl ?_
          refine sn_q_inc4 sn_bc_125 dX5_leaderWithout_51 rfl (by omega) (by omega) ?_
          refine sn_q_goto (t := 7) sn_bc_125 dX5_leaderWithout_54 rfl ?_
          first
            | exact ih (d - 1) (by omega) (i + 1) _ _ _ (by omega) f1 f2 m1 hn
            | (exfalso; omega)
            | exact ih (d - 1) (by omega) (i + 1) _ _ _ (by omega) (by omega) (by omega) (by omega) (fun h => absurd ⟨w1, w2⟩ (h i (by omega) (by omega)))
      · refine sn_q_ifeq (t := 36) sn_bc_125 dX5_leaderWithout_23 rfl (fun _ => ?_) (fun c => absurd (by decide) c)
        refine sn_q_iconst sn_bc_125 dX5_leaderWithout_36 rfl ?_
        refine sn_q_ist5 sn_bc_125 dX5_leaderWithout_37 rfl ?_
        refine sn_q_iload sn_bc_125 dX5_leaderWithout_39 rfl ?_
        refine sn_q_iloadn sn_bc_125 dX5_leaderWithout_41 rfl ?_
        refine sn_q_icle (t := 51) sn_bc_125 dX5_leaderWithout_42 rfl (fun c_42 => ?_) (fun c_42 => ?_)
        · refine sn_q_inc4 sn_bc_125 dX5_leaderWithout_51 rfl (by omega) (by omega) ?_
          refine sn_q_goto (t := 7) sn_bc_125 dX5_leaderWithout_54 rfl ?_
          first
            | exact ih (d - 1) (by omega) (i + 1) _ _ _ (by omega) f1 f2 m1 hn
            | (exfalso; omega)
            | exact ih (d - 1) (by omega) (i + 1) _ _ _ (by omega) (by omega) (by omega) (by omega) (fun h => absurd ⟨w1, w2⟩ (h i (by omega) (by omega)))
        · refine sn_q_iload sn_bc_125 dX5_leaderWithout_45 rfl ?_
          refine sn_q_istn3 sn_bc_125 dX5_leaderWithout_47 rfl ?_
          refine sn_q_iload sn_bc_125 dX5_leaderWithout_48 rfl ?_
          refine sn_q_istn2 sn_bc_125 dX5_leaderWithout_50 rfl ?_
          refine sn_q_inc4 sn_bc_125 dX5_leaderWithout_51 rfl (by omega) (by omega) ?_
          refine sn_q_goto (t := 7) sn_bc_125 dX5_leaderWithout_54 rfl ?_
          first
            | exact ih (d - 1) (by omega) (i + 1) _ _ _ (by omega) f1 f2 m1 hn
            | (exfalso; omega)
            | exact ih (d - 1) (by omega) (i + 1) _ _ _ (by omega) (by omega) (by omega) (by omega) (fun h => absurd ⟨w1, w2⟩ (h i (by omega) (by omega)))
  refine sn_q_iconst sn_bc_125 dX5_leaderWithout_0 rfl ?_
  refine sn_q_istn2 sn_bc_125 dX5_leaderWithout_1 rfl ?_
  refine sn_q_iconst sn_bc_125 dX5_leaderWithout_2 rfl ?_
  refine sn_q_istn3 sn_bc_125 dX5_leaderWithout_3 rfl ?_
  refine sn_q_iconst sn_bc_125 dX5_leaderWithout_4 rfl ?_
  refine sn_q_ist4 sn_bc_125 dX5_leaderWithout_5 rfl ?_
  exact loop 8 0 _ _ _ rfl (by omega) (by omega) (by omega) (fun _ => rfl)
theorem sp_songAt {n k : Nat} {Y : Nat → Nat × Nat} {X : Nat → Nat → sn_V} {σ : Int → Int → Int} {Q : Option sn_V → sn_H → Prop} {r : Int} (h1 : 0 ≤ σ 212 8) (h2 : σ 212 8 ≤ 8) (k1 : 0 ≤ r → r < σ 212 8 → Q (some (sn_i (σ 215 r))) (sn_hh n k Y σ X)) (k2 : ¬ (0 ≤ r ∧ r < σ 212 8) → Q (some (sn_i (-1))) (sn_hh n k Y σ X)) : sn_Wp 93 0 [sn_r 212, sn_i r] [] (sn_hh n k Y σ X) Q := by
  refine sn_q_iloadn sn_bc_93 dX5_songAt_0 rfl ?_
  refine sn_q_iconst sn_bc_93 dX5_songAt_1 rfl ?_
  refine sn_q_aloadn sn_bc_93 dX5_songAt_2 rfl ?_
  refine sn_q_geti (P := 212) (J := 8) sn_bc_93 dX5_songAt_3 sn_oc_93 sn_pf_5_24 (by decide) rfl rfl rfl rfl ?_
  refine sn_q_iconst sn_bc_93 dX5_songAt_6 rfl ?_
  refine sn_q_isub sn_bc_93 dX5_songAt_7 (by omega) (by omega) ?_
  refine sn_q_invS sn_bc_93 dX5_songAt_8 sn_oc_93 sn_px_5_77 sn_ps_5_77 (by decide) rfl rfl rfl (sp_isWithin (fun w1 w2 => ?_) (fun w => ?_))
  · refine sn_q_ifeq (t := 23) sn_bc_93 dX5_songAt_11 rfl (fun c => absurd c (by decide)) (fun _ => ?_)
    refine sn_q_aloadn sn_bc_93 dX5_songAt_14 rfl ?_
    refine sn_q_getr (v := 215) sn_bc_93 dX5_songAt_15 sn_oc_93 sn_pf_5_18 (by decide) rfl rfl (by decide) ?_
    refine sn_q_iloadn sn_bc_93 dX5_songAt_18 rfl ?_
    refine sn_q_iald (P := 215) sn_bc_93 dX5_songAt_19 sn_a215 rfl (by omega) (by omega) ?_
    refine sn_q_goto (t := 24) sn_bc_93 dX5_songAt_20 rfl ?_
    refine sn_q_iret sn_bc_93 dX5_songAt_24 rfl ?_
    first | exact k1 (by omega) (by omega) | exact k2 (by omega)
  · refine sn_q_ifeq (t := 23) sn_bc_93 dX5_songAt_11 rfl (fun _ => ?_) (fun c => absurd (by decide) c)
    refine sn_q_iconst sn_bc_93 dX5_songAt_23 rfl ?_
    refine sn_q_iret sn_bc_93 dX5_songAt_24 rfl ?_
    first | exact k1 (by omega) (by omega) | exact k2 (by omega)
theorem sp_rankOf {n k : Nat} {Y : Nat → Nat × Nat} {X : Nat → Nat → sn_V} {σ : Int → Int → Int} {Q : Option sn_V → sn_H → Prop} {s : Int} (h1 : 0 ≤ σ 212 8) (h2 : σ 212 8 ≤ 8) (kk : ∀ r : Int, ((r = -1 ∧ ∀ i, 0 ≤ i → i < σ 212 8 → σ 215 i ≠ s) ∨ (0 ≤ r ∧ r < σ 212 8 ∧ σ 215 r = s)) → Q (some (sn_i r)) (sn_hh n k Y σ X)) : sn_Wp 78 0 [sn_r 212, sn_i s, sn_u] [] (sn_hh n k Y σ X) Q := by
  have loop : ∀ (d : Nat) (i : Nat), i + d = 8 → (i : Int) ≤ σ 212 8 → (∀ j : Int, 0 ≤ j → j < i → σ 215 j ≠ s) → sn_Wp 78 2 [sn_r 212, sn_i s, sn_i (i : Int)] [] (sn_hh n k Y σ X) Q := by
    refine sn_ind (fun d ih => ?_)
    intro i hi hc hn
    refine sn_q_iloadn sn_bc_78 dX5_rankOf_2 rfl ?_
    refine sn_q_aloadn sn_bc_78 dX5_rankOf_3 rfl ?_
    refine sn_q_geti (P := 212) (J := 8) sn_bc_78 dX5_rankOf_4 sn_oc_78 sn_pf_5_24 (by decide) rfl rfl rfl rfl ?_
    refine sn_q_icge (t := 28) sn_bc_78 dX5_rankOf_7 rfl (fun c_7 => ?_) (fun c_7 => ?_)
    · refine sn_q_iconst sn_bc_78 dX5_rankOf_28 rfl ?_
      refine sn_q_iret sn_bc_78 dX5_rankOf_29 rfl ?_
      first
        | exact kk _ (Or.inr ⟨by omega, by omega, by omega⟩)
        | exact kk _ (Or.inl ⟨rfl, fun j h1 h2 => hn j h1 (by omega)⟩)
    · refine sn_q_aloadn sn_bc_78 dX5_rankOf_10 rfl ?_
      refine sn_q_getr (v := 215) sn_bc_78 dX5_rankOf_11 sn_oc_78 sn_pf_5_18 (by decide) rfl rfl (by decide) ?_
      refine sn_q_iloadn sn_bc_78 dX5_rankOf_14 rfl ?_
      refine sn_q_iald (P := 215) sn_bc_78 dX5_rankOf_15 sn_a215 rfl (by omega) (by omega) ?_
      refine sn_q_iloadn sn_bc_78 dX5_rankOf_16 rfl ?_
      refine sn_q_icne (t := 22) sn_bc_78 dX5_rankOf_17 rfl (fun c_17 => ?_) (fun c_17 => ?_)
      · refine sn_q_inc2 sn_bc_78 dX5_rankOf_22 rfl (by omega) (by omega) ?_
        refine sn_q_goto (t := 2) sn_bc_78 dX5_rankOf_25 rfl ?_
        refine ih (d - 1) (by omega) (i + 1) (by omega) (by omega) (fun j hj0 hj1 => ?_)
        by_cases e : j = i
        · rw [e]; assumption
        · exact hn j hj0 (by omega)
      · refine sn_q_iloadn sn_bc_78 dX5_rankOf_20 rfl ?_
        refine sn_q_iret sn_bc_78 dX5_rankOf_21 rfl ?_
        first
          | exact kk _ (Or.inr ⟨by omega, by omega, by omega⟩)
          | exact kk _ (Or.inl ⟨rfl, fun j h1 h2 => hn j h1 (by omega)⟩)
  refine sn_q_iconst sn_bc_78 dX5_rankOf_0 rfl ?_
  refine sn_q_istn2 sn_bc_78 dX5_rankOf_1 rfl ?_
  exact loop 8 0 rfl (by omega) (fun j _ _ => by omega)
theorem sp_sumOfTotals {n k : Nat} {Y : Nat → Nat × Nat} {X : Nat → Nat → sn_V} {σ : Int → Int → Int} {Q : Option sn_V → sn_H → Prop} (hb : ∀ s, 0 ≤ s → s < 8 → 0 ≤ σ 213 s ∧ σ 213 s ≤ 96 ∧ 0 ≤ σ 214 s ∧ σ 214 s ≤ 96) (kk : Q (some (sn_i (sn_sum (fun s => σ 213 s + σ 214 s) 8))) (sn_hh n k Y σ X)) : sn_Wp 95 0 [sn_r 212, sn_u, sn_u] [] (sn_hh n k Y σ X) Q := by
  have loop : ∀ (d : Nat) (i : Nat), i + d = 8 → sn_Wp 95 4 [sn_r 212, sn_i (sn_sum (fun s => σ 213 s + σ 214 s) i), sn_i (i : Int)] [] (sn_hh n k Y σ X) Q := by
    refine sn_ind (fun d ih => ?_)
    intro i hi
    have hS := fun g : i ≤ 8 => sn_sum_b (f := fun s => σ 213 s + σ 214 s) (B := 192) i (fun j g2 => by have := hb j (by omega) (by omega); omega)
    refine sn_q_iloadn sn_bc_95 dX5_sumOfTotals_4 rfl ?_
    refine sn_q_bipush sn_bc_95 dX5_sumOfTotals_5 rfl ?_
    refine sn_q_icge (t := 32) sn_bc_95 dX5_sumOfTotals_7 rfl (fun c_7 => ?_) (fun c_7 => ?_)
    · refine sn_q_iloadn sn_bc_95 dX5_sumOfTotals_32 rfl ?_
      refine sn_q_iret sn_bc_95 dX5_sumOfTotals_33 rfl ?_
      obtain rfl : i = 8 := by omega
      exact kk
    · have hS := hS (by omega)
      have hx := hb i (by omega) (by omega)
      refine sn_q_iloadn sn_bc_95 dX5_sumOfTotals_10 rfl ?_
      refine sn_q_aloadn sn_bc_95 dX5_sumOfTotals_11 rfl ?_
      refine sn_q_getr (v := 213) sn_bc_95 dX5_sumOfTotals_12 sn_oc_95 sn_pf_5_9 (by decide) rfl rfl (by decide) ?_
      refine sn_q_iloadn sn_bc_95 dX5_sumOfTotals_15 rfl ?_
      refine sn_q_iald (P := 213) sn_bc_95 dX5_sumOfTotals_16 sn_a213 rfl (by omega) (by omega) ?_
      refine sn_q_aloadn sn_bc_95 dX5_sumOfTotals_17 rfl ?_
      refine sn_q_getr (v := 214) sn_bc_95 dX5_sumOfTotals_18 sn_oc_95 sn_pf_5_15 (by decide) rfl rfl (by decide) ?_
      refine sn_q_iloadn sn_bc_95 dX5_sumOfTotals_21 rfl ?_
      refine sn_q_iald (P := 214) sn_bc_95 dX5_sumOfTotals_22 sn_a214 rfl (by omega) (by omega) ?_
      refine sn_q_iadd sn_bc_95 dX5_sumOfTotals_23 (by omega) (by omega) ?_
      refine sn_q_iadd sn_bc_95 dX5_sumOfTotals_24 (by omega) (by omega) ?_
      refine sn_q_istn1 sn_bc_95 dX5_sumOfTotals_25 rfl ?_
      refine sn_q_inc2 sn_bc_95 dX5_sumOfTotals_26 rfl (by omega) (by omega) ?_
      refine sn_q_goto (t := 4) sn_bc_95 dX5_sumOfTotals_29 rfl ?_
      exact ih (d - 1) (by omega) (i + 1) (by omega)
  refine sn_q_iconst sn_bc_95 dX5_sumOfTotals_0 rfl ?_
  refine sn_q_istn1 sn_bc_95 dX5_sumOfTotals_1 rfl ?_
  refine sn_q_iconst sn_bc_95 dX5_sumOfTotals_2 rfl ?_
  refine sn_q_istn2 sn_bc_95 dX5_sumOfTotals_3 rfl ?_
  exact loop 8 0 rfl
def sn_rn (σ : Int → Int → Int) (i : Nat) : Int := sn_sum (fun s => if σ 10 s ≠ 0 ∧ σ 11 s = 0 then 1 else 0) i
theorem sn_rn_y {σ : Int → Int → Int} {i : Nat} (h : sn_run σ i) : sn_rn σ (i + 1) = sn_rn σ i + 1 := congrArg (fun z => sn_rn σ i + z) (if_pos h)
theorem sn_rn_n {σ : Int → Int → Int} {i : Nat} (h : ¬ sn_run σ i) : sn_rn σ (i + 1) = sn_rn σ i := (congrArg (fun z => sn_rn σ i + z) (if_neg h)).trans (Int.add_zero _)
theorem sn_rn_bd {σ : Int → Int → Int} (i : Nat) : 0 ≤ sn_rn σ i ∧ sn_rn σ i ≤ i := by
  have := sn_sum_b (f := fun s => if σ 10 s ≠ 0 ∧ σ 11 s = 0 then (1 : Int) else 0) (B := 1) i (fun j _ => by split <;> decide)
  rw [Int.mul_one] at this
  exact this
theorem sn_rn_t {σ τ : Int → Int → Int} {i : Nat} (e10 : ∀ c, τ 10 c = σ 10 c) (e11 : ∀ c, τ 11 c = σ 11 c) : sn_rn τ i = sn_rn σ i := by
  unfold sn_rn
  simp only [e10, e11]
theorem sn_run_t {σ τ : Int → Int → Int} {s : Int} (e10 : τ 10 s = σ 10 s) (e11 : τ 11 s = σ 11 s) : sn_run τ s ↔ sn_run σ s := by unfold sn_run; rw [e10, e11]
def sn_rfr (σ τ : Int → Int → Int) : Prop := ∀ a c, ¬ (213 ≤ a ∧ a ≤ 216) → ¬ (a = 212 ∧ c = 8) → τ a c = σ a c
def sn_ri (σ τ : Int → Int → Int) (i : Nat) : Prop := sn_rfr σ τ ∧ τ 212 8 = sn_rn σ i ∧ (∀ s, 0 ≤ s → s < (i : Int) → (sn_run σ s → τ 213 s = sn_PJ σ s ∧ τ 214 s = sn_PK σ s ∧ (sn_PJ σ s + sn_PK σ s) * 100000 ≤ τ 216 s ∧ τ 216 s < (sn_PJ σ s + sn_PK σ s + 1) * 100000) ∧ (¬ sn_run σ s → τ 213 s = 0 ∧ τ 214 s = 0)) ∧ (∀ m, 0 ≤ m → m < sn_rn σ i → 0 ≤ τ 215 m ∧ τ 215 m < (i : Int) ∧ sn_run σ (τ 215 m)) ∧ (∀ s, 0 ≤ s → s < (i : Int) → sn_run σ s → ∃ m, 0 ≤ m ∧ m < sn_rn σ i ∧ τ 215 m = s) ∧ ∀ m m', 0 ≤ m → m < m' → m' < sn_rn σ i → τ 215 m < τ 215 m'
theorem sn_ri_no {σ τ ρ : Int → Int → Int} {i : Nat} (h : sn_ri σ τ i) (hn : ¬ sn_run σ i) (q : ∀ a c, ¬ ((a = 213 ∨ a = 214) ∧ c = (i : Int)) → ρ a c = τ a c) (z1 : ρ 213 i = 0) (z2 : ρ 214 i = 0) : sn_ri σ ρ (i + 1) := by
  obtain ⟨a1, a2, a3, a4, a5, a6⟩ := h
  unfold sn_ri
  rw [sn_rn_n hn]
  refine ⟨fun a c g1 g2 => (q a c (by omega)).trans (a1 a c g1 g2), (q _ _ (by omega)).trans a2, fun s b1 b2 => ?_, fun m b1 b2 => ?_, fun s b1 b2 b3 => ?_, fun m m' b1 b2 b3 => ?_⟩
  · by_cases e : s = (i : Int)
    · rw [e]; exact ⟨fun z => absurd z hn, fun _ => ⟨z1, z2⟩⟩
    · rw [q 213 s (by omega), q 214 s (by omega), q 216 s (by omega)]
      exact a3 s b1 (by omega)
  · rw [q 215 m (by omega)]
    have := a4 m b1 b2
    exact ⟨this.1, by omega, this.2.2⟩
  · by_cases e : s = (i : Int)
    · rw [e] at b3; exact absurd b3 hn
    · obtain ⟨m, c1, c2, c3⟩ := a5 s b1 (by omega) b3
      exact ⟨m, c1, c2, (q 215 m (by omega)).trans c3⟩
  · rw [q 215 m (by omega), q 215 m' (by omega)]
    exact a6 m m' b1 b2 b3
theorem sn_ri_yes {σ τ ρ : Int → Int → Int} {i : Nat} (h : sn_ri σ τ i) (hr : sn_run σ i) (q : ∀ a c, ¬ ((a = 213 ∨ a = 214 ∨ a = 216) ∧ c = (i : Int)) → ¬ (a = 215 ∧ c = sn_rn σ i) → ¬ (a = 212 ∧ c = 8) → ρ a c = τ a c) (z : ρ 213 i = sn_PJ σ i ∧ ρ 214 i = sn_PK σ i ∧ (sn_PJ σ i + sn_PK σ i) * 100000 ≤ ρ 216 i ∧ ρ 216 i < (sn_PJ σ i + sn_PK σ i + 1) * 100000) (z5 : ρ 215 (sn_rn σ i) = i) (z8 : ρ 212 8 = sn_rn σ i + 1) : sn_ri σ ρ (i + 1) := by
  obtain ⟨a1, a2, a3, a4, a5, a6⟩ := h
  have hc := @sn_rn_bd σ i
  unfold sn_ri
  rw [sn_rn_y hr]
  refine ⟨fun a c g1 g2 => (q a c (by omega) (by omega) g2).trans (a1 a c g1 g2), z8, fun s b1 b2 => ?_, fun m b1 b2 => ?_, fun s b1 b2 b3 => ?_, fun m m' b1 b2 b3 => ?_⟩
  · by_cases e : s = (i : Int)
    · rw [e]; exact ⟨fun _ => z, fun y => absurd hr y⟩
    · rw [q 213 s (by omega) (by omega) (by omega), q 214 s (by omega) (by omega) (by omega), q 216 s (by omega) (by omega) (by omega)]
      exact a3 s b1 (by omega)
  · by_cases e : m = sn_rn σ i
    · rw [e, z5]; exact ⟨by omega, by omega, hr⟩
    · rw [q 215 m (by omega) (by omega) (by omega)]
      have := a4 m b1 (by omega)
      exact ⟨this.1, by omega, this.2.2⟩
  · by_cases e : s = (i : Int)
    · exact ⟨sn_rn σ i, by omega, by omega, by rw [z5, e]⟩
    · obtain ⟨m, c1, c2, c3⟩ := a5 s b1 (by omega) b3
      exact ⟨m, c1, by omega, (q 215 m (by omega) (by omega) (by omega)).trans c3⟩
  · rw [q 215 m (by omega) (by omega) (by omega)]
    by_cases e : m' = sn_rn σ i
    · rw [e, z5]
      have := a4 m b1 (by omega)
      omega
    · rw [q 215 m' (by omega) (by omega) (by omega)]
      exact a6 m m' b1 b2 (by omega)
/-- what the ranking is, when it is counted -/
def sn_rko (σ : Int → Int → Int) : Prop := σ 212 8 = sn_rn σ 8 ∧ (∀ s, 0 ≤ s → s < 8 → (sn_run σ s → σ 213 s = sn_PJ σ s ∧ σ 214 s = sn_PK σ s) ∧ (¬ sn_run σ s → σ 213 s = 0 ∧ σ 214 s = 0)) ∧ (∀ m, 0 ≤ m → m < σ 212 8 → 0 ≤ σ 215 m ∧ σ 215 m < 8 ∧ sn_run σ (σ 215 m)) ∧ (∀ s, 0 ≤ s → s < 8 → sn_run σ s → ∃ m, 0 ≤ m ∧ m < σ 212 8 ∧ σ 215 m = s) ∧ (∀ m m', 0 ≤ m → m < m' → m' < σ 212 8 → σ 215 m ≠ σ 215 m') ∧ ∀ m, 0 ≤ m → m + 1 < σ 212 8 → σ 213 (σ 215 (m + 1)) + σ 214 (σ 215 (m + 1)) ≤ σ 213 (σ 215 m) + σ 214 (σ 215 m)
theorem sn_rko_of {σ τ ρ : Int → Int → Int} (h : sn_ri σ τ 8) (g : sn_srt τ ρ 215 216 (sn_rn σ 8)) : sn_rfr σ ρ ∧ sn_rko ρ := by
  obtain ⟨a1, a2, a3, a4, a5, a6⟩ := h
  obtain ⟨⟨g1, g2, g3, g4⟩, g5⟩ := g
  have q : ∀ a c, a ≠ 215 → ρ a c = τ a c := fun a c z => g1 a c (Or.inl z)
  have qf : sn_rfr σ ρ := fun a c z1 z2 => (q a c (by omega)).trans (a1 a c z1 z2)
  have e10 : ∀ c, ρ 10 c = σ 10 c := fun c => qf 10 c (by omega) (by omega)
  have e11 : ∀ c, ρ 11 c = σ 11 c := fun c => qf 11 c (by omega) (by omega)
  have eJ : ∀ s, sn_PJ ρ s = sn_PJ σ s := fun s => sn_PJ_t (fun a c z1 z2 => qf a c (by omega) (by omega))
  have eK : ∀ s, sn_PK ρ s = sn_PK σ s := fun s => sn_PK_t (fun a c z1 z2 => qf a c (by omega) (by omega))
  have er : ∀ s, sn_run ρ s ↔ sn_run σ s := fun s => sn_run_t (e10 s) (e11 s)
  have ec : ρ 212 8 = sn_rn σ 8 := (q _ _ (by omega)).trans a2
  have hrow : ∀ m, 0 ≤ m → m < sn_rn σ 8 → 0 ≤ ρ 215 m ∧ ρ 215 m < 8 ∧ sn_run σ (ρ 215 m) := fun m b1 b2 => by
    obtain ⟨j, c1, c2, c3⟩ := g2 m b1 b2
    rw [c3]
    exact a4 j c1 c2
  refine ⟨qf, ?_⟩
  unfold sn_rko
  rw [ec]
  refine ⟨(sn_rn_t e10 e11).symm, fun s b1 b2 => ?_, fun m b1 b2 => ?_, fun s b1 b2 b3 => ?_, ?_, fun m b1 b2 => ?_⟩
  · rw [eJ, eK, er, q 213 s (by omega), q 214 s (by omega)]
    exact ⟨fun z => ⟨((a3 s b1 b2).1 z).1, ((a3 s b1 b2).1 z).2.1⟩, (a3 s b1 b2).2⟩
  · rw [er]; exact hrow m b1 b2
  · obtain ⟨j, c1, c2, c3⟩ := a5 s b1 b2 ((er s).mp b3)
    obtain ⟨m, d1, d2, d3⟩ := g3 j c1 c2
    exact ⟨m, d1, d2, d3.trans c3⟩
  · exact g4 (fun m m' b1 b2 b3 => by have := a6 m m' b1 b2 b3; omega)
  · have r1 := hrow m b1 (by omega)
    have r2 := hrow (m + 1) (by omega) b2
    have v1 := (a3 _ r1.1 r1.2.1).1 r1.2.2
    have v2 := (a3 _ r2.1 r2.2.1).1 r2.2.2
    have hk := g5 m b1 b2
    rw [q 213 _ (by omega), q 214 _ (by omega), q 213 _ (by omega), q 214 _ (by omega)]
    omega
theorem sp_rCountAll {n k : Nat} {Y : Nat → Nat × Nat} {X : Nat → Nat → sn_V} {σ : Int → Int → Int} {Q : Option sn_V → sn_H → Prop} (hb : sn_b12 σ) (h3 : 0 ≤ σ 15 3) (h4 : σ 15 3 ≤ 8) (kk : ∀ τ, sn_rfr σ τ → sn_rko τ → Q none (sn_hh n k Y τ X)) : sn_Wp 50 0 [sn_r 212, sn_u] [] (sn_hh n k Y σ X) Q := by
  have loop : ∀ (d : Nat) (i : Nat) (τ : Int → Int → Int), i + d = 8 → sn_ri σ τ i → sn_Wp 50 7 [sn_r 212, sn_i (i : Int)] [] (sn_hh n k Y τ X) Q := by
    refine sn_ind (fun d ih => ?_)
    intro i τ hi hri
    have hc := @sn_rn_bd σ i
    refine sn_q_iloadn sn_bc_50 dX5_countAll_7 rfl ?_
    refine sn_q_bipush sn_bc_50 dX5_countAll_8 rfl ?_
    refine sn_q_icge (t := 81) sn_bc_50 dX5_countAll_10 rfl (fun c_10 => ?_) (fun c_10 => ?_)
    · obtain rfl : i = 8 := by omega
      have e8 := hri.2.1
      refine sn_q_aloadn sn_bc_50 dX5_countAll_81 rfl ?_
      refine sn_q_getr (v := 215) sn_bc_50 dX5_countAll_82 sn_oc_50 sn_pf_5_18 (by decide) rfl rfl (by decide) ?_
      refine sn_q_aloadn sn_bc_50 dX5_countAll_85 rfl ?_
      refine sn_q_geti (P := 212) (J := 8) sn_bc_50 dX5_countAll_86 sn_oc_50 sn_pf_5_24 (by decide) rfl rfl rfl rfl ?_
      rw [e8]
      refine sn_q_aloadn sn_bc_50 dX5_countAll_89 rfl ?_
      refine sn_q_getr (v := 216) sn_bc_50 dX5_countAll_90 sn_oc_50 sn_pf_5_21 (by decide) rfl rfl (by decide) ?_
      refine sn_q_invS sn_bc_50 dX5_countAll_93 sn_oc_50 sn_px_5_58 sn_ps_5_58 (by decide) rfl rfl rfl (sp_sortDown (P := 215) (P2 := 216) (m := sn_rn σ 8) sn_a215 rfl sn_a216 rfl (by omega) (by omega) (by omega) (fun x a1 a2 => by have := hri.2.2.2.1 x a1 a2; exact ⟨this.1, by omega⟩) (fun ρ hs => ?_))
      refine sn_q_vret sn_bc_50 dX5_countAll_96 rfl ?_
      exact kk ρ (sn_rko_of hri hs).1 (sn_rko_of hri hs).2
    · refine sn_q_aloadn sn_bc_50 dX5_countAll_13 rfl ?_
      refine sn_q_getr (v := 213) sn_bc_50 dX5_countAll_14 sn_oc_50 sn_pf_5_9 (by decide) rfl rfl (by decide) ?_
      refine sn_q_iloadn sn_bc_50 dX5_countAll_17 rfl ?_
      refine sn_q_iconst sn_bc_50 dX5_countAll_18 rfl ?_
      refine sn_q_iast (P := 213) sn_bc_50 dX5_countAll_19 sn_a213 rfl (by omega) (by omega) ?_
      refine sn_q_aloadn sn_bc_50 dX5_countAll_20 rfl ?_
      refine sn_q_getr (v := 214) sn_bc_50 dX5_countAll_21 sn_oc_50 sn_pf_5_15 (by decide) rfl rfl (by decide) ?_
      refine sn_q_iloadn sn_bc_50 dX5_countAll_24 rfl ?_
      refine sn_q_iconst sn_bc_50 dX5_countAll_25 rfl ?_
      refine sn_q_iast (P := 214) sn_bc_50 dX5_countAll_26 sn_a214 rfl (by omega) (by omega) ?_
      obtain ⟨τ1, hτ1⟩ : ∃ x, x = sn_s (sn_s τ 213 (i : Int) 0) 214 (i : Int) 0 := ⟨_, rfl⟩
      rw [← hτ1]
      have q1 : ∀ a c, ¬ ((a = 213 ∨ a = 214) ∧ c = (i : Int)) → τ1 a c = τ a c := fun a c g => by rw [hτ1]; unfold sn_s; rw [if_neg (by omega), if_neg (by omega)]
      have v1 : τ1 213 (i : Int) = 0 := by rw [hτ1, sn_s_p (by omega), sn_s_e]
      have v2 : τ1 214 (i : Int) = 0 := by rw [hτ1, sn_s_e]
      have r10 : ∀ s, τ1 10 s = σ 10 s := fun s => (q1 10 s (by omega)).trans (hri.1 10 s (by omega) (by omega))
      have r11 : ∀ s, τ1 11 s = σ 11 s := fun s => (q1 11 s (by omega)).trans (hri.1 11 s (by omega) (by omega))
      refine sn_q_aloadn sn_bc_50 dX5_countAll_27 rfl ?_
      refine sn_q_getr (v := 9) sn_bc_50 dX5_countAll_28 sn_oc_50 sn_pf_5_28 (by decide) rfl rfl (by decide) ?_
      refine sn_q_iloadn sn_bc_50 dX5_countAll_31 rfl ?_
      refine sn_q_invV sn_bc_50 dX5_countAll_32 sn_oc_50 sn_pv_5_44 (by decide) rfl (by decide) (sn_h1 (by decide)) rfl rfl rfl rfl (sp_isRunning (by omega) (by omega) (fun w1 w2 => ?_) (fun w => ?_))
      · refine sn_q_ifeq (t := 75) sn_bc_50 dX5_countAll_35 rfl (fun c => absurd c (by decide)) (fun _ => ?_)
        refine sn_q_aloadn sn_bc_50 dX5_countAll_38 rfl ?_
        refine sn_q_iloadn sn_bc_50 dX5_countAll_39 rfl ?_
        refine sn_q_invV sn_bc_50 dX5_countAll_40 sn_oc_50 sn_pv_5_50 (by decide) rfl (by decide) (sn_h1 (by decide)) rfl rfl rfl rfl (sp_addPoints (by omega) (by omega) (sn_b12_t hb (fun a c g1 g2 => (q1 a c (by omega)).trans (hri.1 a c (by omega) (by omega)))) v1 v2 (fun ρ hρ j1 j2 => ?_))
        have q2 : ∀ a c, ¬ (213 ≤ a ∧ a ≤ 216) → ¬ (a = 212 ∧ c = 8) → ρ a c = σ a c := fun a c g1 g2 => (hρ a c (by omega)).trans ((q1 a c (by omega)).trans (hri.1 a c g1 g2))
        have e8 : ρ 212 8 = sn_rn σ i := (hρ 212 8 (by omega)).trans ((q1 212 8 (by omega)).trans hri.2.1)
        refine sn_q_aloadn sn_bc_50 dX5_countAll_43 rfl ?_
        refine sn_q_getr (v := 216) sn_bc_50 dX5_countAll_44 sn_oc_50 sn_pf_5_21 (by decide) rfl rfl (by decide) ?_
        refine sn_q_iloadn sn_bc_50 dX5_countAll_47 rfl ?_
        refine sn_q_aloadn sn_bc_50 dX5_countAll_48 rfl ?_
        refine sn_q_iloadn sn_bc_50 dX5_countAll_49 rfl ?_
        refine sn_q_iconst sn_bc_50 dX5_countAll_50 rfl ?_
        refine sn_q_invV sn_bc_50 dX5_countAll_51 sn_oc_50 sn_pv_5_54 (by decide) rfl (by decide) (sn_h1 (by decide)) rfl rfl rfl rfl (sp_keyWithout (by omega) (by omega) (sn_b12_t hb (fun a c g1 g2 => q2 a c (by omega) (by omega))) (by rw [q2 _ _ (by omega) (by omega)]; exact h3) (by rw [q2 _ _ (by omega) (by omega)]; exact h4) (fun y hy => ?_))
        refine sn_q_iast (P := 216) sn_bc_50 dX5_countAll_54 sn_a216 rfl (by omega) (by omega) ?_
        refine sn_q_aloadn sn_bc_50 dX5_countAll_55 rfl ?_
        refine sn_q_getr (v := 215) sn_bc_50 dX5_countAll_56 sn_oc_50 sn_pf_5_18 (by decide) rfl rfl (by decide) ?_
        refine sn_q_aloadn sn_bc_50 dX5_countAll_59 rfl ?_
        refine sn_q_geti (P := 212) (J := 8) sn_bc_50 dX5_countAll_60 sn_oc_50 sn_pf_5_24 (by decide) rfl rfl rfl rfl ?_
        rw [sn_s_p (by omega)]
        rw [e8]
        refine sn_q_iloadn sn_bc_50 dX5_countAll_63 rfl ?_
        refine sn_q_iast (P := 215) sn_bc_50 dX5_countAll_64 sn_a215 rfl (by omega) (by omega) ?_
        refine sn_q_aloadn sn_bc_50 dX5_countAll_65 rfl ?_
        refine sn_q_dup sn_bc_50 dX5_countAll_66 rfl ?_
        refine sn_q_geti (P := 212) (J := 8) sn_bc_50 dX5_countAll_67 sn_oc_50 sn_pf_5_24 (by decide) rfl rfl rfl rfl ?_
        rw [sn_s_p (by omega), sn_s_p (by omega)]
        rw [e8]
        refine sn_q_iconst sn_bc_50 dX5_countAll_70 rfl ?_
        refine sn_q_iadd sn_bc_50 dX5_countAll_71 (by omega) (by omega) ?_
        refine sn_q_puti (P := 212) (J := 8) sn_bc_50 dX5_countAll_72 sn_oc_50 sn_pf_5_24 (by decide) rfl rfl rfl rfl rfl rfl ?_
        refine sn_q_inc1 sn_bc_50 dX5_countAll_75 rfl (by omega) (by omega) ?_
        refine sn_q_goto (t := 7) sn_bc_50 dX5_countAll_78 rfl ?_
        first
          | exact ih (d - 1) (by omega) (i + 1) τ1 (by omega) (sn_ri_no hri (fun z => w ((sn_run_t (r10 _) (r11 _)).mpr z)) q1 v1 v2)
          | (refine ih (d - 1) (by omega) (i + 1) _ (by omega) (sn_ri_yes hri ((sn_run_t (r10 _) (r11 _)).mp ⟨w1, w2⟩) (fun a c g1 g2 g3 => ?_) ⟨?_, ?_, ?_⟩ ?_ ?_)
             · unfold sn_s; rw [if_neg (by omega), if_neg (by omega), if_neg (by omega)]; exact (hρ a c (by omega)).trans (q1 a c (by omega))
             · rw [sn_s_p (by omega), sn_s_p (by omega), sn_s_p (by omega), j1]; exact sn_PJ_t (fun a c g1 g2 => (q1 a c (by omega)).trans (hri.1 a c (by omega) (by omega)))
             · rw [sn_s_p (by omega), sn_s_p (by omega), sn_s_p (by omega), j2]; exact sn_PK_t (fun a c g1 g2 => (q1 a c (by omega)).trans (hri.1 a c (by omega) (by omega)))
             · rw [sn_s_p (by omega), sn_s_p (by omega), sn_s_e]
               have hy' := hy rfl
               rw [sn_PJ_t (fun a c g1 g2 => q2 a c (by omega) (by omega)), sn_PK_t (fun a c g1 g2 => q2 a c (by omega) (by omega))] at hy'
               exact hy'
             · rw [sn_s_p (by omega), sn_s_e]
             · rw [sn_s_e])
      · refine sn_q_ifeq (t := 75) sn_bc_50 dX5_countAll_35 rfl (fun _ => ?_) (fun c => absurd (by decide) c)
        refine sn_q_inc1 sn_bc_50 dX5_countAll_75 rfl (by omega) (by omega) ?_
        refine sn_q_goto (t := 7) sn_bc_50 dX5_countAll_78 rfl ?_
        first
          | exact ih (d - 1) (by omega) (i + 1) τ1 (by omega) (sn_ri_no hri (fun z => w ((sn_run_t (r10 _) (r11 _)).mpr z)) q1 v1 v2)
          | (refine ih (d - 1) (by omega) (i + 1) _ (by omega) (sn_ri_yes hri ((sn_run_t (r10 _) (r11 _)).mp ⟨w1, w2⟩) (fun a c g1 g2 g3 => ?_) ⟨?_, ?_, ?_⟩ ?_ ?_)
             · unfold sn_s; rw [if_neg (by omega), if_neg (by omega), if_neg (by omega)]; exact (hρ a c (by omega)).trans (q1 a c (by omega))
             · rw [sn_s_p (by omega), sn_s_p (by omega), sn_s_p (by omega), j1]; exact sn_PJ_t (fun a c g1 g2 => (q1 a c (by omega)).trans (hri.1 a c (by omega) (by omega)))
             · rw [sn_s_p (by omega), sn_s_p (by omega), sn_s_p (by omega), j2]; exact sn_PK_t (fun a c g1 g2 => (q1 a c (by omega)).trans (hri.1 a c (by omega) (by omega)))
             · rw [sn_s_p (by omega), sn_s_p (by omega), sn_s_e]
               have hy' := hy rfl
               rw [sn_PJ_t (fun a c g1 g2 => q2 a c (by omega) (by omega)), sn_PK_t (fun a c g1 g2 => q2 a c (by omega) (by omega))] at hy'
               exact hy'
             · rw [sn_s_p (by omega), sn_s_e]
             · rw [sn_s_e])
  refine sn_q_aloadn sn_bc_50 dX5_countAll_0 rfl ?_
  refine sn_q_iconst sn_bc_50 dX5_countAll_1 rfl ?_
  refine sn_q_puti (P := 212) (J := 8) sn_bc_50 dX5_countAll_2 sn_oc_50 sn_pf_5_24 (by decide) rfl rfl rfl rfl rfl rfl ?_
  refine sn_q_iconst sn_bc_50 dX5_countAll_5 rfl ?_
  refine sn_q_istn1 sn_bc_50 dX5_countAll_6 rfl ?_
  refine loop 8 0 _ rfl ⟨fun a c g1 g2 => by unfold sn_s; rw [if_neg g2], by rw [sn_s_e]; rfl, fun s a1 a2 => by omega, fun m a1 a2 => ?_, fun s a1 a2 => by omega, fun m m' a1 a2 a3 => ?_⟩
  · have : sn_rn σ 0 = 0 := rfl
    omega
  · have : sn_rn σ 0 = 0 := rfl
    omega
