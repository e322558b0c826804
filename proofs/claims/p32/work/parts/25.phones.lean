/-! the phones -/
theorem sp_fullCallers {n k : Nat} {Y : Nat → Nat × Nat} {X : Nat → Nat → sn_V} {σ : Int → Int → Int} {Q : Option sn_V → sn_H → Prop} {w s m : Int} (h1 : 0 ≤ w) (h2 : w < 8) (h3 : 0 ≤ s) (h4 : s < 8) (kk : ∀ r : Int, 0 ≤ r → r ≤ 10 → Q (some (sn_i r)) (sn_hh n k Y σ X)) : sn_Wp 47 0 [sn_r 96, sn_i w, sn_i s, sn_i m, sn_u, sn_u] [] (sn_hh n k Y σ X) Q := by
  have loop : ∀ (d : Nat) (i : Nat) (f : Int), i + d = 10 → 0 ≤ f → f ≤ (i : Int) → sn_Wp 47 6 [sn_r 96, sn_i w, sn_i s, sn_i m, sn_i f, sn_i (i : Int)] [] (sn_hh n k Y σ X) Q := by
    refine sn_ind (fun d ih => ?_)
    intro i f hi hf1 hf2
    refine sn_q_iload sn_bc_47 dX4_fullCallers_6 rfl ?_
    refine sn_q_bipush sn_bc_47 dX4_fullCallers_8 rfl ?_
    refine sn_q_icge (t := 46) sn_bc_47 dX4_fullCallers_10 rfl (fun c_10 => ?_) (fun c_10 => ?_)
    · refine sn_q_iload sn_bc_47 dX4_fullCallers_46 rfl ?_
      refine sn_q_iret sn_bc_47 dX4_fullCallers_48 rfl ?_
      exact kk _ hf1 (by omega)
    · refine sn_q_iload sn_bc_47 dX4_fullCallers_13 rfl ?_
      refine sn_q_aloadn sn_bc_47 dX4_fullCallers_15 rfl ?_
      refine sn_q_getr (v := 97) sn_bc_47 dX4_fullCallers_16 sn_oc_47 sn_pf_4_11 (by decide) rfl rfl (by decide) ?_
      refine sn_q_iloadn sn_bc_47 dX4_fullCallers_19 rfl ?_
      refine sn_q_iload sn_bc_47 dX4_fullCallers_20 rfl ?_
      refine sn_q_invS sn_bc_47 dX4_fullCallers_22 sn_oc_47 sn_px_4_48 sn_ps_4_48 (by decide) rfl rfl rfl (sp_lineOf (by omega) (by omega) (by omega) (by omega) ?_)
      refine sn_q_aald sn_bc_47 dX4_fullCallers_25 sn_a97 (by omega) (by omega) ?_
      refine sn_q_iloadn sn_bc_47 dX4_fullCallers_26 rfl ?_
      refine sn_q_iald sn_bc_47 dX4_fullCallers_27 (sn_b97 (by omega) (by omega)) (sn_p97 (by omega)) (by omega) (by omega) ?_
      refine sn_q_iloadn sn_bc_47 dX4_fullCallers_28 rfl ?_
      refine sn_q_icne (t := 36) sn_bc_47 dX4_fullCallers_29 rfl (fun c_29 => ?_) (fun c_29 => ?_)
      · refine sn_q_iconst sn_bc_47 dX4_fullCallers_36 rfl ?_
        refine sn_q_iadd sn_bc_47 dX4_fullCallers_37 (by omega) (by omega) ?_
        refine sn_q_ist4 sn_bc_47 dX4_fullCallers_38 rfl ?_
        refine sn_q_inc5 sn_bc_47 dX4_fullCallers_40 rfl (by omega) (by omega) ?_
        refine sn_q_goto (t := 6) sn_bc_47 dX4_fullCallers_43 rfl ?_
        exact ih (d - 1) (by omega) (i + 1) _ (by omega) (by omega) (by omega)
      · refine sn_q_iconst sn_bc_47 dX4_fullCallers_32 rfl ?_
        refine sn_q_goto (t := 37) sn_bc_47 dX4_fullCallers_33 rfl ?_
        refine sn_q_iadd sn_bc_47 dX4_fullCallers_37 (by omega) (by omega) ?_
        refine sn_q_ist4 sn_bc_47 dX4_fullCallers_38 rfl ?_
        refine sn_q_inc5 sn_bc_47 dX4_fullCallers_40 rfl (by omega) (by omega) ?_
        refine sn_q_goto (t := 6) sn_bc_47 dX4_fullCallers_43 rfl ?_
        exact ih (d - 1) (by omega) (i + 1) _ (by omega) (by omega) (by omega)
  refine sn_q_iconst sn_bc_47 dX4_fullCallers_0 rfl ?_
  refine sn_q_ist4 sn_bc_47 dX4_fullCallers_1 rfl ?_
  refine sn_q_iconst sn_bc_47 dX4_fullCallers_3 rfl ?_
  refine sn_q_ist5 sn_bc_47 dX4_fullCallers_4 rfl ?_
  exact loop 10 0 0 rfl (by omega) (by omega)
def sn_phc (σ τ : Int → Int → Int) (w : Int) : Prop := ∀ a c, ¬ (206 ≤ a ∧ a ≤ 207 ∧ c = w) → a ≠ 180 + w → a ≠ 189 + w → τ a c = σ a c
theorem sp_countSong {n k : Nat} {Y : Nat → Nat × Nat} {X : Nat → Nat → sn_V} {σ : Int → Int → Int} {Q : Option sn_V → sn_H → Prop} {w s m : Int} (h1 : 0 ≤ w) (h2 : w < 8) (h3 : 0 ≤ s) (h4 : s < 8) (kk : ∀ τ, sn_phc σ τ w → Q none (sn_hh n k Y τ X)) : sn_Wp 46 0 [sn_r 96, sn_i w, sn_i s, sn_i m, sn_u, sn_u, sn_u, sn_u] [] (sn_hh n k Y σ X) Q := by
  have loop : ∀ (f b : Int) (d : Nat) (i : Nat) (u : sn_V) (τ : Int → Int → Int), i + d = 10 → sn_phc σ τ w → sn_Wp 46 63 [sn_r 96, sn_i w, sn_i s, sn_i m, sn_i f, sn_i b, sn_i (i : Int), u] [] (sn_hh n k Y τ X) Q := by
    intro f b
    refine sn_ind (fun d ih => ?_)
    intro i u τ hi hf
    refine sn_q_iload sn_bc_46 dX4_countSong_63 rfl ?_
    refine sn_q_bipush sn_bc_46 dX4_countSong_65 rfl ?_
    refine sn_q_icge (t := 132) sn_bc_46 dX4_countSong_67 rfl (fun c_67 => ?_) (fun c_67 => ?_)
    · refine sn_q_vret sn_bc_46 dX4_countSong_132 rfl ?_
      exact kk τ hf
    · refine sn_q_aloadn sn_bc_46 dX4_countSong_70 rfl ?_
      refine sn_q_getr (v := 97) sn_bc_46 dX4_countSong_71 sn_oc_46 sn_pf_4_11 (by decide) rfl rfl (by decide) ?_
      refine sn_q_iloadn sn_bc_46 dX4_countSong_74 rfl ?_
      refine sn_q_iload sn_bc_46 dX4_countSong_75 rfl ?_
      refine sn_q_invS sn_bc_46 dX4_countSong_77 sn_oc_46 sn_px_4_48 sn_ps_4_48 (by decide) rfl rfl rfl (sp_lineOf (by omega) (by omega) (by omega) (by omega) ?_)
      refine sn_q_aald sn_bc_46 dX4_countSong_80 sn_a97 (by omega) (by omega) ?_
      refine sn_q_iloadn sn_bc_46 dX4_countSong_81 rfl ?_
      refine sn_q_iald sn_bc_46 dX4_countSong_82 (sn_b97 (by omega) (by omega)) (sn_p97 (by omega)) (by omega) (by omega) ?_
      refine sn_q_ist7 sn_bc_46 dX4_countSong_83 rfl ?_
      refine sn_q_iload sn_bc_46 dX4_countSong_85 rfl ?_
      refine sn_q_ifle (t := 126) sn_bc_46 dX4_countSong_87 rfl (fun c_87 => ?_) (fun c_87 => ?_)
      · refine sn_q_inc6 sn_bc_46 dX4_countSong_126 rfl (by omega) (by omega) ?_
        refine sn_q_goto (t := 63) sn_bc_46 dX4_countSong_129 rfl ?_
        first
          | exact ih (d - 1) (by omega) (i + 1) _ _ (by omega) hf
          | exact ih (d - 1) (by omega) (i + 1) _ _ (by omega) (fun a c g1 g2 g3 => by unfold sn_s; (repeat rw [if_neg (by omega)]); first | done | exact hf a c g1 g2 g3 | rfl)
      · refine sn_q_iload sn_bc_46 dX4_countSong_90 rfl ?_
        refine sn_q_ifeq (t := 101) sn_bc_46 dX4_countSong_92 rfl (fun c_92 => ?_) (fun c_92 => ?_)
        · refine sn_q_aloadn sn_bc_46 dX4_countSong_101 rfl ?_
          refine sn_q_getr (v := 179) sn_bc_46 dX4_countSong_102 sn_oc_46 sn_pf_4_20 (by decide) rfl rfl (by decide) ?_
          refine sn_q_iloadn sn_bc_46 dX4_countSong_105 rfl ?_
          refine sn_q_aald sn_bc_46 dX4_countSong_106 sn_a179 (by omega) (by omega) ?_
          refine sn_q_iloadn sn_bc_46 dX4_countSong_107 rfl ?_
          refine sn_q_dup2 sn_bc_46 dX4_countSong_108 rfl ?_
          refine sn_q_iald sn_bc_46 dX4_countSong_109 (sn_b179 (by omega) (by omega)) (sn_p179 (by omega)) (by omega) (by omega) ?_
          refine sn_q_iload sn_bc_46 dX4_countSong_110 rfl ?_
          refine sn_q_iaddW sn_bc_46 dX4_countSong_112 ?_
          refine sn_q_iast sn_bc_46 dX4_countSong_113 (sn_b179 (by omega) (by omega)) (sn_p179 (by omega)) (by omega) (by omega) ?_
          refine sn_q_aloadn sn_bc_46 dX4_countSong_114 rfl ?_
          refine sn_q_getr (v := 188) sn_bc_46 dX4_countSong_115 sn_oc_46 sn_pf_4_23 (by decide) rfl rfl (by decide) ?_
          refine sn_q_iloadn sn_bc_46 dX4_countSong_118 rfl ?_
          refine sn_q_aald sn_bc_46 dX4_countSong_119 sn_a188 (by omega) (by omega) ?_
          refine sn_q_iloadn sn_bc_46 dX4_countSong_120 rfl ?_
          refine sn_q_dup2 sn_bc_46 dX4_countSong_121 rfl ?_
          refine sn_q_iald sn_bc_46 dX4_countSong_122 (sn_b188 (by omega) (by omega)) (sn_p188 (by omega)) (by omega) (by omega) ?_
          refine sn_q_iconst sn_bc_46 dX4_countSong_123 rfl ?_
          refine sn_q_iaddW sn_bc_46 dX4_countSong_124 ?_
          refine sn_q_iast sn_bc_46 dX4_countSong_125 (sn_b188 (by omega) (by omega)) (sn_p188 (by omega)) (by omega) (by omega) ?_
          refine sn_q_inc6 sn_bc_46 dX4_countSong_126 rfl (by omega) (by omega) ?_
          refine sn_q_goto (t := 63) sn_bc_46 dX4_countSong_129 rfl ?_
          first
            | exact ih (d - 1) (by omega) (i + 1) _ _ (by omega) hf
            | exact ih (d - 1) (by omega) (i + 1) _ _ (by omega) (fun a c g1 g2 g3 => by unfold sn_s; (repeat rw [if_neg (by omega)]); first | done | exact hf a c g1 g2 g3 | rfl)
        · refine sn_q_iload sn_bc_46 dX4_countSong_95 rfl ?_
          refine sn_q_iloadn sn_bc_46 dX4_countSong_97 rfl ?_
          refine sn_q_iceq (t := 126) sn_bc_46 dX4_countSong_98 rfl (fun c_98 => ?_) (fun c_98 => ?_)
          · refine sn_q_inc6 sn_bc_46 dX4_countSong_126 rfl (by omega) (by omega) ?_
            refine sn_q_goto (t := 63) sn_bc_46 dX4_countSong_129 rfl ?_
            first
              | exact ih (d - 1) (by omega) (i + 1) _ _ (by omega) hf
              | exact ih (d - 1) (by omega) (i + 1) _ _ (by omega) (fun a c g1 g2 g3 => by unfold sn_s; (repeat rw [if_neg (by omega)]); first | done | exact hf a c g1 g2 g3 | rfl)
          · refine sn_q_aloadn sn_bc_46 dX4_countSong_101 rfl ?_
            refine sn_q_getr (v := 179) sn_bc_46 dX4_countSong_102 sn_oc_46 sn_pf_4_20 (by decide) rfl rfl (by decide) ?_
            refine sn_q_iloadn sn_bc_46 dX4_countSong_105 rfl ?_
            refine sn_q_aald sn_bc_46 dX4_countSong_106 sn_a179 (by omega) (by omega) ?_
            refine sn_q_iloadn sn_bc_46 dX4_countSong_107 rfl ?_
            refine sn_q_dup2 sn_bc_46 dX4_countSong_108 rfl ?_
            refine sn_q_iald sn_bc_46 dX4_countSong_109 (sn_b179 (by omega) (by omega)) (sn_p179 (by omega)) (by omega) (by omega) ?_
            refine sn_q_iload sn_bc_46 dX4_countSong_110 rfl ?_
            refine sn_q_iaddW sn_bc_46 dX4_countSong_112 ?_
            refine sn_q_iast sn_bc_46 dX4_countSong_113 (sn_b179 (by omega) (by omega)) (sn_p179 (by omega)) (by omega) (by omega) ?_
            refine sn_q_aloadn sn_bc_46 dX4_countSong_114 rfl ?_
            refine sn_q_getr (v := 188) sn_bc_46 dX4_countSong_115 sn_oc_46 sn_pf_4_23 (by decide) rfl rfl (by decide) ?_
            refine sn_q_iloadn sn_bc_46 dX4_countSong_118 rfl ?_
            refine sn_q_aald sn_bc_46 dX4_countSong_119 sn_a188 (by omega) (by omega) ?_
            refine sn_q_iloadn sn_bc_46 dX4_countSong_120 rfl ?_
            refine sn_q_dup2 sn_bc_46 dX4_countSong_121 rfl ?_
            refine sn_q_iald sn_bc_46 dX4_countSong_122 (sn_b188 (by omega) (by omega)) (sn_p188 (by omega)) (by omega) (by omega) ?_
            refine sn_q_iconst sn_bc_46 dX4_countSong_123 rfl ?_
            refine sn_q_iaddW sn_bc_46 dX4_countSong_124 ?_
            refine sn_q_iast sn_bc_46 dX4_countSong_125 (sn_b188 (by omega) (by omega)) (sn_p188 (by omega)) (by omega) (by omega) ?_
            refine sn_q_inc6 sn_bc_46 dX4_countSong_126 rfl (by omega) (by omega) ?_
            refine sn_q_goto (t := 63) sn_bc_46 dX4_countSong_129 rfl ?_
            first
              | exact ih (d - 1) (by omega) (i + 1) _ _ (by omega) hf
              | exact ih (d - 1) (by omega) (i + 1) _ _ (by omega) (fun a c g1 g2 g3 => by unfold sn_s; (repeat rw [if_neg (by omega)]); first | done | exact hf a c g1 g2 g3 | rfl)
  refine sn_q_aloadn sn_bc_46 dX4_countSong_0 rfl ?_
  refine sn_q_iloadn sn_bc_46 dX4_countSong_1 rfl ?_
  refine sn_q_iloadn sn_bc_46 dX4_countSong_2 rfl ?_
  refine sn_q_iloadn sn_bc_46 dX4_countSong_3 rfl ?_
  refine sn_q_invV sn_bc_46 dX4_countSong_4 sn_oc_46 sn_pv_4_70 (by decide) rfl (by decide) (sn_h1 (by decide)) rfl rfl rfl rfl (sp_fullCallers (by omega) (by omega) (by omega) (by omega) (fun f hf1 hf2 => ?_))
  refine sn_q_ist4 sn_bc_46 dX4_countSong_7 rfl ?_
  refine sn_q_iload sn_bc_46 dX4_countSong_9 rfl ?_
  refine sn_q_iconst sn_bc_46 dX4_countSong_11 rfl ?_
  refine sn_q_iclt (t := 19) sn_bc_46 dX4_countSong_12 rfl (fun c_12 => ?_) (fun c_12 => ?_)
  · refine sn_q_iconst sn_bc_46 dX4_countSong_19 rfl ?_
    refine sn_q_ist5 sn_bc_46 dX4_countSong_20 rfl ?_
    refine sn_q_aloadn sn_bc_46 dX4_countSong_22 rfl ?_
    refine sn_q_getr (v := 207) sn_bc_46 dX4_countSong_23 sn_oc_46 sn_pf_4_32 (by decide) rfl rfl (by decide) ?_
    refine sn_q_iloadn sn_bc_46 dX4_countSong_26 rfl ?_
    refine sn_q_dup2 sn_bc_46 dX4_countSong_27 rfl ?_
    refine sn_q_iald (P := 207) sn_bc_46 dX4_countSong_28 sn_a207 rfl (by omega) (by omega) ?_
    refine sn_q_iload sn_bc_46 dX4_countSong_29 rfl ?_
    refine sn_q_ifeq (t := 39) sn_bc_46 dX4_countSong_31 rfl (fun _ => ?_) (fun c => absurd (by decide) c)
    refine sn_q_iconst sn_bc_46 dX4_countSong_39 rfl ?_
    refine sn_q_iaddW sn_bc_46 dX4_countSong_40 ?_
    refine sn_q_iast (P := 207) sn_bc_46 dX4_countSong_41 sn_a207 rfl (by omega) (by omega) ?_
    refine sn_q_aloadn sn_bc_46 dX4_countSong_42 rfl ?_
    refine sn_q_getr (v := 179) sn_bc_46 dX4_countSong_43 sn_oc_46 sn_pf_4_20 (by decide) rfl rfl (by decide) ?_
    refine sn_q_iloadn sn_bc_46 dX4_countSong_46 rfl ?_
    refine sn_q_aald sn_bc_46 dX4_countSong_47 sn_a179 (by omega) (by omega) ?_
    refine sn_q_iloadn sn_bc_46 dX4_countSong_48 rfl ?_
    refine sn_q_iconst sn_bc_46 dX4_countSong_49 rfl ?_
    refine sn_q_iast sn_bc_46 dX4_countSong_50 (sn_b179 (by omega) (by omega)) (sn_p179 (by omega)) (by omega) (by omega) ?_
    refine sn_q_aloadn sn_bc_46 dX4_countSong_51 rfl ?_
    refine sn_q_getr (v := 188) sn_bc_46 dX4_countSong_52 sn_oc_46 sn_pf_4_23 (by decide) rfl rfl (by decide) ?_
    refine sn_q_iloadn sn_bc_46 dX4_countSong_55 rfl ?_
    refine sn_q_aald sn_bc_46 dX4_countSong_56 sn_a188 (by omega) (by omega) ?_
    refine sn_q_iloadn sn_bc_46 dX4_countSong_57 rfl ?_
    refine sn_q_iconst sn_bc_46 dX4_countSong_58 rfl ?_
    refine sn_q_iast sn_bc_46 dX4_countSong_59 (sn_b188 (by omega) (by omega)) (sn_p188 (by omega)) (by omega) (by omega) ?_
    refine sn_q_iconst sn_bc_46 dX4_countSong_60 rfl ?_
    refine sn_q_ist6 sn_bc_46 dX4_countSong_61 rfl ?_
    exact loop _ _ 10 0 _ _ rfl (fun a c g1 g2 g3 => by unfold sn_s; (repeat rw [if_neg (by omega)]); first | done | exact hf a c g1 g2 g3 | rfl)
  · refine sn_q_iconst sn_bc_46 dX4_countSong_15 rfl ?_
    refine sn_q_goto (t := 20) sn_bc_46 dX4_countSong_16 rfl ?_
    refine sn_q_ist5 sn_bc_46 dX4_countSong_20 rfl ?_
    refine sn_q_aloadn sn_bc_46 dX4_countSong_22 rfl ?_
    refine sn_q_getr (v := 207) sn_bc_46 dX4_countSong_23 sn_oc_46 sn_pf_4_32 (by decide) rfl rfl (by decide) ?_
    refine sn_q_iloadn sn_bc_46 dX4_countSong_26 rfl ?_
    refine sn_q_dup2 sn_bc_46 dX4_countSong_27 rfl ?_
    refine sn_q_iald (P := 207) sn_bc_46 dX4_countSong_28 sn_a207 rfl (by omega) (by omega) ?_
    refine sn_q_iload sn_bc_46 dX4_countSong_29 rfl ?_
    refine sn_q_ifeq (t := 39) sn_bc_46 dX4_countSong_31 rfl (fun c => absurd c (by decide)) (fun _ => ?_)
    refine sn_q_iload sn_bc_46 dX4_countSong_34 rfl ?_
    refine sn_q_goto (t := 40) sn_bc_46 dX4_countSong_36 rfl ?_
    refine sn_q_iaddW sn_bc_46 dX4_countSong_40 ?_
    refine sn_q_iast (P := 207) sn_bc_46 dX4_countSong_41 sn_a207 rfl (by omega) (by omega) ?_
    refine sn_q_aloadn sn_bc_46 dX4_countSong_42 rfl ?_
    refine sn_q_getr (v := 179) sn_bc_46 dX4_countSong_43 sn_oc_46 sn_pf_4_20 (by decide) rfl rfl (by decide) ?_
    refine sn_q_iloadn sn_bc_46 dX4_countSong_46 rfl ?_
    refine sn_q_aald sn_bc_46 dX4_countSong_47 sn_a179 (by omega) (by omega) ?_
    refine sn_q_iloadn sn_bc_46 dX4_countSong_48 rfl ?_
    refine sn_q_iconst sn_bc_46 dX4_countSong_49 rfl ?_
    refine sn_q_iast sn_bc_46 dX4_countSong_50 (sn_b179 (by omega) (by omega)) (sn_p179 (by omega)) (by omega) (by omega) ?_
    refine sn_q_aloadn sn_bc_46 dX4_countSong_51 rfl ?_
    refine sn_q_getr (v := 188) sn_bc_46 dX4_countSong_52 sn_oc_46 sn_pf_4_23 (by decide) rfl rfl (by decide) ?_
    refine sn_q_iloadn sn_bc_46 dX4_countSong_55 rfl ?_
    refine sn_q_aald sn_bc_46 dX4_countSong_56 sn_a188 (by omega) (by omega) ?_
    refine sn_q_iloadn sn_bc_46 dX4_countSong_57 rfl ?_
    refine sn_q_iconst sn_bc_46 dX4_countSong_58 rfl ?_
    refine sn_q_iast sn_bc_46 dX4_countSong_59 (sn_b188 (by omega) (by omega)) (sn_p188 (by omega)) (by omega) (by omega) ?_
    refine sn_q_iconst sn_bc_46 dX4_countSong_60 rfl ?_
    refine sn_q_ist6 sn_bc_46 dX4_countSong_61 rfl ?_
    exact loop _ _ 10 0 _ _ rfl (fun a c g1 g2 g3 => by unfold sn_s; (repeat rw [if_neg (by omega)]); first | done | exact hf a c g1 g2 g3 | rfl)
theorem sp_pCountLand {n k : Nat} {Y : Nat → Nat × Nat} {X : Nat → Nat → sn_V} {σ : Int → Int → Int} {Q : Option sn_V → sn_H → Prop} {w m : Int} (h1 : 0 ≤ w) (h2 : w < 8) (kk : ∀ τ, sn_phc σ τ w → Q none (sn_hh n k Y τ X)) : sn_Wp 45 0 [sn_r 96, sn_i w, sn_i m, sn_u] [] (sn_hh n k Y σ X) Q := by
  have loop : ∀ (d : Nat) (i : Nat) (τ : Int → Int → Int), i + d = 8 → sn_phc σ τ w → sn_Wp 45 16 [sn_r 96, sn_i w, sn_i m, sn_i (i : Int)] [] (sn_hh n k Y τ X) Q := by
    refine sn_ind (fun d ih => ?_)
    intro i τ hi hf
    refine sn_q_iloadn sn_bc_45 dX4_countLand_16 rfl ?_
    refine sn_q_bipush sn_bc_45 dX4_countLand_17 rfl ?_
    refine sn_q_icge (t := 64) sn_bc_45 dX4_countLand_19 rfl (fun c_19 => ?_) (fun c_19 => ?_)
    · refine sn_q_vret sn_bc_45 dX4_countLand_64 rfl ?_
      exact kk τ hf
    · refine sn_q_aloadn sn_bc_45 dX4_countLand_22 rfl ?_
      refine sn_q_iloadn sn_bc_45 dX4_countLand_23 rfl ?_
      refine sn_q_iloadn sn_bc_45 dX4_countLand_24 rfl ?_
      refine sn_q_iloadn sn_bc_45 dX4_countLand_25 rfl ?_
      refine sn_q_invV sn_bc_45 dX4_countLand_26 sn_oc_45 sn_pv_4_60 (by decide) rfl (by decide) (sn_h1 (by decide)) rfl rfl rfl rfl (sp_countSong (by omega) (by omega) (by omega) (by omega) (fun ρ hg => ?_))
      refine sn_q_aloadn sn_bc_45 dX4_countLand_29 rfl ?_
      refine sn_q_getr (v := 9) sn_bc_45 dX4_countLand_30 sn_oc_45 sn_pf_4_44 (by decide) rfl rfl (by decide) ?_
      refine sn_q_iloadn sn_bc_45 dX4_countLand_33 rfl ?_
      refine sn_q_iloadn sn_bc_45 dX4_countLand_34 rfl ?_
      refine sn_q_invV sn_bc_45 dX4_countLand_35 sn_oc_45 sn_pv_4_64 (by decide) rfl (by decide) (sn_h1 (by decide)) rfl rfl rfl rfl (sp_isCandidate (by omega) (by omega) (fun _ _ _ => ?_) (fun _ => ?_))
      · refine sn_q_ifeq (t := 58) sn_bc_45 dX4_countLand_38 rfl (fun c => absurd c (by decide)) (fun _ => ?_)
        refine sn_q_aloadn sn_bc_45 dX4_countLand_41 rfl ?_
        refine sn_q_getr (v := 206) sn_bc_45 dX4_countLand_42 sn_oc_45 sn_pf_4_29 (by decide) rfl rfl (by decide) ?_
        refine sn_q_iloadn sn_bc_45 dX4_countLand_45 rfl ?_
        refine sn_q_dup2 sn_bc_45 dX4_countLand_46 rfl ?_
        refine sn_q_iald (P := 206) sn_bc_45 dX4_countLand_47 sn_a206 rfl (by omega) (by omega) ?_
        refine sn_q_aloadn sn_bc_45 dX4_countLand_48 rfl ?_
        refine sn_q_getr (v := 179) sn_bc_45 dX4_countLand_49 sn_oc_45 sn_pf_4_20 (by decide) rfl rfl (by decide) ?_
        refine sn_q_iloadn sn_bc_45 dX4_countLand_52 rfl ?_
        refine sn_q_aald sn_bc_45 dX4_countLand_53 sn_a179 (by omega) (by omega) ?_
        refine sn_q_iloadn sn_bc_45 dX4_countLand_54 rfl ?_
        refine sn_q_iald sn_bc_45 dX4_countLand_55 (sn_b179 (by omega) (by omega)) (sn_p179 (by omega)) (by omega) (by omega) ?_
        refine sn_q_iaddW sn_bc_45 dX4_countLand_56 ?_
        refine sn_q_iast (P := 206) sn_bc_45 dX4_countLand_57 sn_a206 rfl (by omega) (by omega) ?_
        refine sn_q_inc3 sn_bc_45 dX4_countLand_58 rfl (by omega) (by omega) ?_
        refine sn_q_goto (t := 16) sn_bc_45 dX4_countLand_61 rfl ?_
        first
          | exact ih (d - 1) (by omega) (i + 1) _ (by omega) (fun a c g1 g2 g3 => (hg a c g1 g2 g3).trans (hf a c g1 g2 g3))
          | exact ih (d - 1) (by omega) (i + 1) _ (by omega) (fun a c g1 g2 g3 => by unfold sn_s; rw [if_neg (by omega)]; exact (hg a c g1 g2 g3).trans (hf a c g1 g2 g3))
      · refine sn_q_ifeq (t := 58) sn_bc_45 dX4_countLand_38 rfl (fun _ => ?_) (fun c => absurd (by decide) c)
        refine sn_q_inc3 sn_bc_45 dX4_countLand_58 rfl (by omega) (by omega) ?_
        refine sn_q_goto (t := 16) sn_bc_45 dX4_countLand_61 rfl ?_
        first
          | exact ih (d - 1) (by omega) (i + 1) _ (by omega) (fun a c g1 g2 g3 => (hg a c g1 g2 g3).trans (hf a c g1 g2 g3))
          | exact ih (d - 1) (by omega) (i + 1) _ (by omega) (fun a c g1 g2 g3 => by unfold sn_s; rw [if_neg (by omega)]; exact (hg a c g1 g2 g3).trans (hf a c g1 g2 g3))
  refine sn_q_aloadn sn_bc_45 dX4_countLand_0 rfl ?_
  refine sn_q_getr (v := 206) sn_bc_45 dX4_countLand_1 sn_oc_45 sn_pf_4_29 (by decide) rfl rfl (by decide) ?_
  refine sn_q_iloadn sn_bc_45 dX4_countLand_4 rfl ?_
  refine sn_q_iconst sn_bc_45 dX4_countLand_5 rfl ?_
  refine sn_q_iast (P := 206) sn_bc_45 dX4_countLand_6 sn_a206 rfl (by omega) (by omega) ?_
  refine sn_q_aloadn sn_bc_45 dX4_countLand_7 rfl ?_
  refine sn_q_getr (v := 207) sn_bc_45 dX4_countLand_8 sn_oc_45 sn_pf_4_32 (by decide) rfl rfl (by decide) ?_
  refine sn_q_iloadn sn_bc_45 dX4_countLand_11 rfl ?_
  refine sn_q_iconst sn_bc_45 dX4_countLand_12 rfl ?_
  refine sn_q_iast (P := 207) sn_bc_45 dX4_countLand_13 sn_a207 rfl (by omega) (by omega) ?_
  refine sn_q_iconst sn_bc_45 dX4_countLand_14 rfl ?_
  refine sn_q_istn3 sn_bc_45 dX4_countLand_15 rfl ?_
  exact loop 8 0 _ rfl (fun a c g1 g2 g3 => by unfold sn_s; (repeat rw [if_neg (by omega)]); first | done | exact hf a c g1 g2 g3 | rfl)
/-- the points that the phones of w give -/
def sn_php (σ : Int → Int → Int) (w : Int) : Prop := ∀ x, 0 ≤ x → x < 8 → 0 ≤ σ (198 + w) x ∧ σ (198 + w) x ≤ 12 ∧ (¬ sn_cd σ w x → σ (198 + w) x = 0)
def sn_phg (σ τ : Int → Int → Int) (w : Int) : Prop := ∀ a c, a ≠ 209 → a ≠ 210 → a ≠ 198 + w → ¬ (a = 208 ∧ c = w) → τ a c = σ a c
theorem sn_php_t {σ τ : Int → Int → Int} {w : Int} (h : sn_php σ w) (e : ∀ x, τ (198 + w) x = σ (198 + w) x) (e10 : ∀ x, τ 10 x = σ 10 x) (e11 : ∀ x, τ 11 x = σ 11 x) : sn_php τ w := by
  unfold sn_php sn_cd at h ⊢
  simp only [e, e10, e11]
  exact h
theorem sp_pGivePoints {n k : Nat} {Y : Nat → Nat × Nat} {X : Nat → Nat → sn_V} {σ : Int → Int → Int} {Q : Option sn_V → sn_H → Prop} {w t : Int} (hYX : sn_YX Y X) (h1 : 0 ≤ w) (h2 : w < 8) (hj : ∀ x, 0 ≤ x → x < 8 → 0 ≤ σ (83 + w) x ∧ σ (83 + w) x ≤ 12) (kk : ∀ τ, sn_phg σ τ w → sn_php τ w → Q none (sn_hh n k Y τ X)) : sn_Wp 49 0 [sn_r 96, sn_i w, sn_i t, sn_r (83 + w.toNat), sn_u, sn_u, sn_u, sn_u, sn_u] [] (sn_hh n k Y σ X) Q := by
  have loop2 : ∀ (ρ : Int → Int → Int) (r b : Int), 0 ≤ r → r ≤ 8 → (∀ a c, a ≠ 209 → a ≠ 210 → a ≠ 198 + w → ¬ (a = 208 ∧ c = w) → ρ a c = σ a c) → (∀ x, 0 ≤ x → x < r → 0 ≤ ρ 209 x ∧ ρ 209 x < 8 ∧ sn_cd σ w (ρ 209 x)) → ∀ (d : Nat) (i : Nat) (u1 u2 : sn_V) (τ : Int → Int → Int), i + d = 8 → (i : Int) ≤ r → (∀ a c, a ≠ 198 + w → τ a c = ρ a c) → (∀ x, 0 ≤ x → x < 8 → 0 ≤ τ (198 + w) x ∧ τ (198 + w) x ≤ 12 ∧ (¬ sn_cd σ w x → τ (198 + w) x = 0)) → sn_Wp 49 139 [sn_r 96, sn_i w, sn_i t, sn_r (83 + w.toNat), sn_i r, sn_i b, sn_i (i : Int), u1, u2] [] (sn_hh n k Y τ X) Q := by
    intro ρ r b hr0 hr8 hρ hrow
    refine sn_ind (fun d ih => ?_)
    intro i u1 u2 τ hi hz hf hv
    refine sn_q_iload sn_bc_49 dX4_givePoints_139 rfl ?_
    refine sn_q_iload sn_bc_49 dX4_givePoints_141 rfl ?_
    refine sn_q_icge (t := 207) sn_bc_49 dX4_givePoints_143 rfl (fun c_143 => ?_) (fun c_143 => ?_)
    · refine sn_q_vret sn_bc_49 dX4_givePoints_207 rfl ?_
      refine kk τ (fun a c g1 g2 g3 g4 => (hf a c g3).trans (hρ a c g1 g2 g3 g4)) (fun x a1 a2 => ⟨(hv x a1 a2).1, (hv x a1 a2).2.1, fun z => (hv x a1 a2).2.2 (fun y => z ((sn_cd_t ?_ ?_).mpr y))⟩)
      · exact (hf 10 x (by omega)).trans (hρ 10 x (by omega) (by omega) (by omega) (by omega))
      · exact (hf 11 x (by omega)).trans (hρ 11 x (by omega) (by omega) (by omega) (by omega))
    · refine sn_q_aloadn sn_bc_49 dX4_givePoints_146 rfl ?_
      refine sn_q_getr (v := 209) sn_bc_49 dX4_givePoints_147 sn_oc_49 sn_pf_4_38 (by decide) rfl rfl (by decide) ?_
      refine sn_q_iload sn_bc_49 dX4_givePoints_150 rfl ?_
      refine sn_q_iald (P := 209) sn_bc_49 dX4_givePoints_152 sn_a209 rfl (by omega) (by omega) ?_
      rw [hf 209 _ (by omega)]
      have hx := hrow (i : Int) (by omega) (by omega)
      obtain ⟨x, ex⟩ : ∃ x, ρ 209 (i : Int) = x := ⟨_, rfl⟩
      rw [ex] at hx
      rw [ex]
      have hw := sn_wv_bd (i : Int)
      have hjx := hj x hx.1 hx.2.1
      refine sn_q_ist7 sn_bc_49 dX4_givePoints_153 rfl ?_
      refine sn_q_aloadn sn_bc_49 dX4_givePoints_155 rfl ?_
      refine sn_q_getr (v := 179) sn_bc_49 dX4_givePoints_156 sn_oc_49 sn_pf_4_20 (by decide) rfl rfl (by decide) ?_
      refine sn_q_iloadn sn_bc_49 dX4_givePoints_159 rfl ?_
      refine sn_q_aald sn_bc_49 dX4_givePoints_160 sn_a179 (by omega) (by omega) ?_
      refine sn_q_iload sn_bc_49 dX4_givePoints_161 rfl ?_
      refine sn_q_iald sn_bc_49 dX4_givePoints_163 (sn_b179 (by omega) (by omega)) (sn_p179 (by omega)) (by omega) (by omega) ?_
      refine sn_q_ifle (t := 175) sn_bc_49 dX4_givePoints_164 rfl (fun c_164 => ?_) (fun c_164 => ?_)
      · refine sn_q_iconst sn_bc_49 dX4_givePoints_175 rfl ?_
        refine sn_q_ist8 sn_bc_49 dX4_givePoints_176 rfl ?_
        refine sn_q_aloadn sn_bc_49 dX4_givePoints_178 rfl ?_
        refine sn_q_getr (v := 197) sn_bc_49 dX4_givePoints_179 sn_oc_49 sn_pf_4_26 (by decide) rfl rfl (by decide) ?_
        refine sn_q_iloadn sn_bc_49 dX4_givePoints_182 rfl ?_
        refine sn_q_aald sn_bc_49 dX4_givePoints_183 sn_a197 (by omega) (by omega) ?_
        refine sn_q_iload sn_bc_49 dX4_givePoints_184 rfl ?_
        refine sn_q_iload sn_bc_49 dX4_givePoints_186 rfl ?_
        refine sn_q_ifeq (t := 198) sn_bc_49 dX4_givePoints_188 rfl (fun c_188 => ?_) (fun c_188 => ?_)
        · refine sn_q_iload sn_bc_49 dX4_givePoints_198 rfl ?_
          refine sn_q_iast sn_bc_49 dX4_givePoints_200 (sn_b197 (by omega) (by omega)) (sn_p197 (by omega)) (by omega) (by omega) ?_
          refine sn_q_inc6 sn_bc_49 dX4_givePoints_201 rfl (by omega) (by omega) ?_
          refine sn_q_goto (t := 139) sn_bc_49 dX4_givePoints_204 rfl ?_
          refine ih (d - 1) (by omega) (i + 1) _ _ _ (by omega) (by omega) (fun a c g => (sn_s_p g).trans (hf a c g)) (fun y a1 a2 => ?_)
          by_cases e : y = x
          · rw [e, sn_s_e]; exact ⟨by omega, by omega, fun z => absurd hx.2.2 z⟩
          · rw [sn_s_j e]; exact hv y a1 a2
        · refine sn_q_aloadn sn_bc_49 dX4_givePoints_191 rfl ?_
          refine sn_q_iload sn_bc_49 dX4_givePoints_192 rfl ?_
          refine sn_q_iald sn_bc_49 dX4_givePoints_194 (sn_b82 (by omega) (by omega)) (sn_p82 (by omega)) (by omega) (by omega) ?_
          rw [hf _ _ (by omega), hρ _ _ (by omega) (by omega) (by omega) (by omega)]
          refine sn_q_goto (t := 200) sn_bc_49 dX4_givePoints_195 rfl ?_
          refine sn_q_iast sn_bc_49 dX4_givePoints_200 (sn_b197 (by omega) (by omega)) (sn_p197 (by omega)) (by omega) (by omega) ?_
          refine sn_q_inc6 sn_bc_49 dX4_givePoints_201 rfl (by omega) (by omega) ?_
          refine sn_q_goto (t := 139) sn_bc_49 dX4_givePoints_204 rfl ?_
          refine ih (d - 1) (by omega) (i + 1) _ _ _ (by omega) (by omega) (fun a c g => (sn_s_p g).trans (hf a c g)) (fun y a1 a2 => ?_)
          by_cases e : y = x
          · rw [e, sn_s_e]; exact ⟨by omega, by omega, fun z => absurd hx.2.2 z⟩
          · rw [sn_s_j e]; exact hv y a1 a2
      · refine sn_q_iload sn_bc_49 dX4_givePoints_167 rfl ?_
        refine sn_q_invS sn_bc_49 dX4_givePoints_169 sn_oc_49 sn_px_4_82 sn_ps_4_82 (by decide) rfl rfl rfl (sp_weight hYX ?_)
        rw [if_pos (show (0 : Int) ≤ (i : Int) from by omega)]
        refine sn_q_goto (t := 176) sn_bc_49 dX4_givePoints_172 rfl ?_
        refine sn_q_ist8 sn_bc_49 dX4_givePoints_176 rfl ?_
        refine sn_q_aloadn sn_bc_49 dX4_givePoints_178 rfl ?_
        refine sn_q_getr (v := 197) sn_bc_49 dX4_givePoints_179 sn_oc_49 sn_pf_4_26 (by decide) rfl rfl (by decide) ?_
        refine sn_q_iloadn sn_bc_49 dX4_givePoints_182 rfl ?_
        refine sn_q_aald sn_bc_49 dX4_givePoints_183 sn_a197 (by omega) (by omega) ?_
        refine sn_q_iload sn_bc_49 dX4_givePoints_184 rfl ?_
        refine sn_q_iload sn_bc_49 dX4_givePoints_186 rfl ?_
        refine sn_q_ifeq (t := 198) sn_bc_49 dX4_givePoints_188 rfl (fun c_188 => ?_) (fun c_188 => ?_)
        · refine sn_q_iload sn_bc_49 dX4_givePoints_198 rfl ?_
          refine sn_q_iast sn_bc_49 dX4_givePoints_200 (sn_b197 (by omega) (by omega)) (sn_p197 (by omega)) (by omega) (by omega) ?_
          refine sn_q_inc6 sn_bc_49 dX4_givePoints_201 rfl (by omega) (by omega) ?_
          refine sn_q_goto (t := 139) sn_bc_49 dX4_givePoints_204 rfl ?_
          refine ih (d - 1) (by omega) (i + 1) _ _ _ (by omega) (by omega) (fun a c g => (sn_s_p g).trans (hf a c g)) (fun y a1 a2 => ?_)
          by_cases e : y = x
          · rw [e, sn_s_e]; exact ⟨by omega, by omega, fun z => absurd hx.2.2 z⟩
          · rw [sn_s_j e]; exact hv y a1 a2
        · refine sn_q_aloadn sn_bc_49 dX4_givePoints_191 rfl ?_
          refine sn_q_iload sn_bc_49 dX4_givePoints_192 rfl ?_
          refine sn_q_iald sn_bc_49 dX4_givePoints_194 (sn_b82 (by omega) (by omega)) (sn_p82 (by omega)) (by omega) (by omega) ?_
          rw [hf _ _ (by omega), hρ _ _ (by omega) (by omega) (by omega) (by omega)]
          refine sn_q_goto (t := 200) sn_bc_49 dX4_givePoints_195 rfl ?_
          refine sn_q_iast sn_bc_49 dX4_givePoints_200 (sn_b197 (by omega) (by omega)) (sn_p197 (by omega)) (by omega) (by omega) ?_
          refine sn_q_inc6 sn_bc_49 dX4_givePoints_201 rfl (by omega) (by omega) ?_
          refine sn_q_goto (t := 139) sn_bc_49 dX4_givePoints_204 rfl ?_
          refine ih (d - 1) (by omega) (i + 1) _ _ _ (by omega) (by omega) (fun a c g => (sn_s_p g).trans (hf a c g)) (fun y a1 a2 => ?_)
          by_cases e : y = x
          · rw [e, sn_s_e]; exact ⟨by omega, by omega, fun z => absurd hx.2.2 z⟩
          · rw [sn_s_j e]; exact hv y a1 a2
  have loop1 : ∀ (r : Int) (τ0 : Int → Int → Int), sn_cds σ τ0 209 w 8 r → ∀ (d : Nat) (i : Nat) (τ : Int → Int → Int), i + d = 8 → (∀ a c, a ≠ 210 → a ≠ 198 + w → τ a c = τ0 a c) → (∀ x, 0 ≤ x → x < (i : Int) → τ (198 + w) x = 0) → sn_Wp 49 17 [sn_r 96, sn_i w, sn_i t, sn_r (83 + w.toNat), sn_i r, sn_i (i : Int), sn_u, sn_u, sn_u] [] (sn_hh n k Y τ X) Q := by
    intro r τ0 hc
    have hr1 := hc.1
    have hr2 := hc.2.1
    refine sn_ind (fun d ih => ?_)
    intro i τ hi hf hv
    refine sn_q_iload sn_bc_49 dX4_givePoints_17 rfl ?_
    refine sn_q_bipush sn_bc_49 dX4_givePoints_19 rfl ?_
    refine sn_q_icge (t := 69) sn_bc_49 dX4_givePoints_21 rfl (fun c_21 => ?_) (fun c_21 => ?_)
    · refine sn_q_aloadn sn_bc_49 dX4_givePoints_69 rfl ?_
      refine sn_q_getr (v := 209) sn_bc_49 dX4_givePoints_70 sn_oc_49 sn_pf_4_38 (by decide) rfl rfl (by decide) ?_
      refine sn_q_iload sn_bc_49 dX4_givePoints_73 rfl ?_
      refine sn_q_aloadn sn_bc_49 dX4_givePoints_75 rfl ?_
      refine sn_q_getr (v := 210) sn_bc_49 dX4_givePoints_76 sn_oc_49 sn_pf_4_41 (by decide) rfl rfl (by decide) ?_
      refine sn_q_invS sn_bc_49 dX4_givePoints_79 sn_oc_49 sn_px_4_78 sn_ps_4_78 (by decide) rfl rfl rfl (sp_sortDown (P := 209) (P2 := 210) (m := r) sn_a209 rfl sn_a210 rfl (by omega) hc.1 hc.2.1 (fun x a1 a2 => by rw [hf 209 x (by omega) (by omega)]; have := hc.2.2.2.1 x a1 a2; exact ⟨this.1, this.2.1⟩) (fun ρ hs => ?_))
      refine sn_q_aloadn sn_bc_49 dX4_givePoints_82 rfl ?_
      have hy0 : 0 < r → (0 ≤ ρ 209 0 ∧ ρ 209 0 < 8) := fun hr => by
        obtain ⟨y, b1, b2, b3⟩ := hs.1.2.1 0 (by omega) hr
        rw [b3, hf _ _ (by omega) (by omega)]
        have := hc.2.2.2.1 y b1 b2
        exact ⟨this.1, this.2.1⟩
      refine sn_q_getr (v := 208) sn_bc_49 dX4_givePoints_83 sn_oc_49 sn_pf_4_35 (by decide) rfl rfl (by decide) ?_
      refine sn_q_iloadn sn_bc_49 dX4_givePoints_86 rfl ?_
      refine sn_q_iload sn_bc_49 dX4_givePoints_87 rfl ?_
      refine sn_q_ifle (t := 117) sn_bc_49 dX4_givePoints_89 rfl (fun c_89 => ?_) (fun c_89 => ?_)
      · refine sn_q_iconst sn_bc_49 dX4_givePoints_117 rfl ?_
        refine sn_q_iast (P := 208) sn_bc_49 dX4_givePoints_118 sn_a208 rfl (by omega) (by omega) ?_
        refine sn_q_aloadn sn_bc_49 dX4_givePoints_119 rfl ?_
        refine sn_q_getr (v := 206) sn_bc_49 dX4_givePoints_120 sn_oc_49 sn_pf_4_29 (by decide) rfl rfl (by decide) ?_
        refine sn_q_iloadn sn_bc_49 dX4_givePoints_123 rfl ?_
        refine sn_q_iald (P := 206) sn_bc_49 dX4_givePoints_124 sn_a206 rfl (by omega) (by omega) ?_
        refine sn_q_iloadn sn_bc_49 dX4_givePoints_125 rfl ?_
        refine sn_q_icge (t := 133) sn_bc_49 dX4_givePoints_126 rfl (fun c_126 => ?_) (fun c_126 => ?_)
        · refine sn_q_iconst sn_bc_49 dX4_givePoints_133 rfl ?_
          refine sn_q_ist5 sn_bc_49 dX4_givePoints_134 rfl ?_
          refine sn_q_iconst sn_bc_49 dX4_givePoints_136 rfl ?_
          refine sn_q_ist6 sn_bc_49 dX4_givePoints_137 rfl ?_
          have hρ : ∀ (z : Int), ∀ a c, ¬ (a = 208 ∧ c = w) → sn_s ρ 208 w z a c = ρ a c := fun z a c g => by unfold sn_s; rw [if_neg g]
          refine loop2 _ r _ hr1 hr2 (fun a c g1 g2 g3 g4 => ?_) (fun x a1 a2 => ?_) 8 0 _ _ _ rfl hr1 (fun _ _ _ => rfl) (fun x a1 a2 => ?_)
          · rw [hρ _ _ _ g4, hs.1.1 _ _ (Or.inl g1), hf _ _ g2 g3]
            exact hc.2.2.1 _ _ (Or.inl g1)
          · rw [hρ _ _ _ (by omega)]
            obtain ⟨y, b1, b2, b3⟩ := hs.1.2.1 x a1 a2
            rw [b3, hf _ _ (by omega) (by omega)]
            exact hc.2.2.2.1 y b1 b2
          · rw [hρ _ _ _ (by omega), hs.1.1 _ _ (Or.inl (by omega)), hv x a1 (by omega)]
            omega
        · refine sn_q_iconst sn_bc_49 dX4_givePoints_129 rfl ?_
          refine sn_q_goto (t := 134) sn_bc_49 dX4_givePoints_130 rfl ?_
          refine sn_q_ist5 sn_bc_49 dX4_givePoints_134 rfl ?_
          refine sn_q_iconst sn_bc_49 dX4_givePoints_136 rfl ?_
          refine sn_q_ist6 sn_bc_49 dX4_givePoints_137 rfl ?_
          have hρ : ∀ (z : Int), ∀ a c, ¬ (a = 208 ∧ c = w) → sn_s ρ 208 w z a c = ρ a c := fun z a c g => by unfold sn_s; rw [if_neg g]
          refine loop2 _ r _ hr1 hr2 (fun a c g1 g2 g3 g4 => ?_) (fun x a1 a2 => ?_) 8 0 _ _ _ rfl hr1 (fun _ _ _ => rfl) (fun x a1 a2 => ?_)
          · rw [hρ _ _ _ g4, hs.1.1 _ _ (Or.inl g1), hf _ _ g2 g3]
            exact hc.2.2.1 _ _ (Or.inl g1)
          · rw [hρ _ _ _ (by omega)]
            obtain ⟨y, b1, b2, b3⟩ := hs.1.2.1 x a1 a2
            rw [b3, hf _ _ (by omega) (by omega)]
            exact hc.2.2.2.1 y b1 b2
          · rw [hρ _ _ _ (by omega), hs.1.1 _ _ (Or.inl (by omega)), hv x a1 (by omega)]
            omega
      · have hy0 := hy0 (by omega)
        refine sn_q_aloadn sn_bc_49 dX4_givePoints_92 rfl ?_
        refine sn_q_getr (v := 179) sn_bc_49 dX4_givePoints_93 sn_oc_49 sn_pf_4_20 (by decide) rfl rfl (by decide) ?_
        refine sn_q_iloadn sn_bc_49 dX4_givePoints_96 rfl ?_
        refine sn_q_aald sn_bc_49 dX4_givePoints_97 sn_a179 (by omega) (by omega) ?_
        refine sn_q_aloadn sn_bc_49 dX4_givePoints_98 rfl ?_
        refine sn_q_getr (v := 209) sn_bc_49 dX4_givePoints_99 sn_oc_49 sn_pf_4_38 (by decide) rfl rfl (by decide) ?_
        refine sn_q_iconst sn_bc_49 dX4_givePoints_102 rfl ?_
        refine sn_q_iald (P := 209) sn_bc_49 dX4_givePoints_103 sn_a209 rfl (by omega) (by omega) ?_
        refine sn_q_iald sn_bc_49 dX4_givePoints_104 (sn_b179 (by omega) (by omega)) (sn_p179 (by omega)) (by omega) (by omega) ?_
        refine sn_q_ifle (t := 117) sn_bc_49 dX4_givePoints_105 rfl (fun c_105 => ?_) (fun c_105 => ?_)
        · refine sn_q_iconst sn_bc_49 dX4_givePoints_117 rfl ?_
          refine sn_q_iast (P := 208) sn_bc_49 dX4_givePoints_118 sn_a208 rfl (by omega) (by omega) ?_
          refine sn_q_aloadn sn_bc_49 dX4_givePoints_119 rfl ?_
          refine sn_q_getr (v := 206) sn_bc_49 dX4_givePoints_120 sn_oc_49 sn_pf_4_29 (by decide) rfl rfl (by decide) ?_
          refine sn_q_iloadn sn_bc_49 dX4_givePoints_123 rfl ?_
          refine sn_q_iald (P := 206) sn_bc_49 dX4_givePoints_124 sn_a206 rfl (by omega) (by omega) ?_
          refine sn_q_iloadn sn_bc_49 dX4_givePoints_125 rfl ?_
          refine sn_q_icge (t := 133) sn_bc_49 dX4_givePoints_126 rfl (fun c_126 => ?_) (fun c_126 => ?_)
          · refine sn_q_iconst sn_bc_49 dX4_givePoints_133 rfl ?_
            refine sn_q_ist5 sn_bc_49 dX4_givePoints_134 rfl ?_
            refine sn_q_iconst sn_bc_49 dX4_givePoints_136 rfl ?_
            refine sn_q_ist6 sn_bc_49 dX4_givePoints_137 rfl ?_
            have hρ : ∀ (z : Int), ∀ a c, ¬ (a = 208 ∧ c = w) → sn_s ρ 208 w z a c = ρ a c := fun z a c g => by unfold sn_s; rw [if_neg g]
            refine loop2 _ r _ hr1 hr2 (fun a c g1 g2 g3 g4 => ?_) (fun x a1 a2 => ?_) 8 0 _ _ _ rfl hr1 (fun _ _ _ => rfl) (fun x a1 a2 => ?_)
            · rw [hρ _ _ _ g4, hs.1.1 _ _ (Or.inl g1), hf _ _ g2 g3]
              exact hc.2.2.1 _ _ (Or.inl g1)
            · rw [hρ _ _ _ (by omega)]
              obtain ⟨y, b1, b2, b3⟩ := hs.1.2.1 x a1 a2
              rw [b3, hf _ _ (by omega) (by omega)]
              exact hc.2.2.2.1 y b1 b2
            · rw [hρ _ _ _ (by omega), hs.1.1 _ _ (Or.inl (by omega)), hv x a1 (by omega)]
              omega
          · refine sn_q_iconst sn_bc_49 dX4_givePoints_129 rfl ?_
            refine sn_q_goto (t := 134) sn_bc_49 dX4_givePoints_130 rfl ?_
            refine sn_q_ist5 sn_bc_49 dX4_givePoints_134 rfl ?_
            refine sn_q_iconst sn_bc_49 dX4_givePoints_136 rfl ?_
            refine sn_q_ist6 sn_bc_49 dX4_givePoints_137 rfl ?_
            have hρ : ∀ (z : Int), ∀ a c, ¬ (a = 208 ∧ c = w) → sn_s ρ 208 w z a c = ρ a c := fun z a c g => by unfold sn_s; rw [if_neg g]
            refine loop2 _ r _ hr1 hr2 (fun a c g1 g2 g3 g4 => ?_) (fun x a1 a2 => ?_) 8 0 _ _ _ rfl hr1 (fun _ _ _ => rfl) (fun x a1 a2 => ?_)
            · rw [hρ _ _ _ g4, hs.1.1 _ _ (Or.inl g1), hf _ _ g2 g3]
              exact hc.2.2.1 _ _ (Or.inl g1)
            · rw [hρ _ _ _ (by omega)]
              obtain ⟨y, b1, b2, b3⟩ := hs.1.2.1 x a1 a2
              rw [b3, hf _ _ (by omega) (by omega)]
              exact hc.2.2.2.1 y b1 b2
            · rw [hρ _ _ _ (by omega), hs.1.1 _ _ (Or.inl (by omega)), hv x a1 (by omega)]
              omega
        · refine sn_q_aloadn sn_bc_49 dX4_givePoints_108 rfl ?_
          refine sn_q_getr (v := 209) sn_bc_49 dX4_givePoints_109 sn_oc_49 sn_pf_4_38 (by decide) rfl rfl (by decide) ?_
          refine sn_q_iconst sn_bc_49 dX4_givePoints_112 rfl ?_
          refine sn_q_iald (P := 209) sn_bc_49 dX4_givePoints_113 sn_a209 rfl (by omega) (by omega) ?_
          refine sn_q_goto (t := 118) sn_bc_49 dX4_givePoints_114 rfl ?_
          refine sn_q_iast (P := 208) sn_bc_49 dX4_givePoints_118 sn_a208 rfl (by omega) (by omega) ?_
          refine sn_q_aloadn sn_bc_49 dX4_givePoints_119 rfl ?_
          refine sn_q_getr (v := 206) sn_bc_49 dX4_givePoints_120 sn_oc_49 sn_pf_4_29 (by decide) rfl rfl (by decide) ?_
          refine sn_q_iloadn sn_bc_49 dX4_givePoints_123 rfl ?_
          refine sn_q_iald (P := 206) sn_bc_49 dX4_givePoints_124 sn_a206 rfl (by omega) (by omega) ?_
          refine sn_q_iloadn sn_bc_49 dX4_givePoints_125 rfl ?_
          refine sn_q_icge (t := 133) sn_bc_49 dX4_givePoints_126 rfl (fun c_126 => ?_) (fun c_126 => ?_)
          · refine sn_q_iconst sn_bc_49 dX4_givePoints_133 rfl ?_
            refine sn_q_ist5 sn_bc_49 dX4_givePoints_134 rfl ?_
            refine sn_q_iconst sn_bc_49 dX4_givePoints_136 rfl ?_
            refine sn_q_ist6 sn_bc_49 dX4_givePoints_137 rfl ?_
            have hρ : ∀ (z : Int), ∀ a c, ¬ (a = 208 ∧ c = w) → sn_s ρ 208 w z a c = ρ a c := fun z a c g => by unfold sn_s; rw [if_neg g]
            refine loop2 _ r _ hr1 hr2 (fun a c g1 g2 g3 g4 => ?_) (fun x a1 a2 => ?_) 8 0 _ _ _ rfl hr1 (fun _ _ _ => rfl) (fun x a1 a2 => ?_)
            · rw [hρ _ _ _ g4, hs.1.1 _ _ (Or.inl g1), hf _ _ g2 g3]
              exact hc.2.2.1 _ _ (Or.inl g1)
            · rw [hρ _ _ _ (by omega)]
              obtain ⟨y, b1, b2, b3⟩ := hs.1.2.1 x a1 a2
              rw [b3, hf _ _ (by omega) (by omega)]
              exact hc.2.2.2.1 y b1 b2
            · rw [hρ _ _ _ (by omega), hs.1.1 _ _ (Or.inl (by omega)), hv x a1 (by omega)]
              omega
          · refine sn_q_iconst sn_bc_49 dX4_givePoints_129 rfl ?_
            refine sn_q_goto (t := 134) sn_bc_49 dX4_givePoints_130 rfl ?_
            refine sn_q_ist5 sn_bc_49 dX4_givePoints_134 rfl ?_
            refine sn_q_iconst sn_bc_49 dX4_givePoints_136 rfl ?_
            refine sn_q_ist6 sn_bc_49 dX4_givePoints_137 rfl ?_
            have hρ : ∀ (z : Int), ∀ a c, ¬ (a = 208 ∧ c = w) → sn_s ρ 208 w z a c = ρ a c := fun z a c g => by unfold sn_s; rw [if_neg g]
            refine loop2 _ r _ hr1 hr2 (fun a c g1 g2 g3 g4 => ?_) (fun x a1 a2 => ?_) 8 0 _ _ _ rfl hr1 (fun _ _ _ => rfl) (fun x a1 a2 => ?_)
            · rw [hρ _ _ _ g4, hs.1.1 _ _ (Or.inl g1), hf _ _ g2 g3]
              exact hc.2.2.1 _ _ (Or.inl g1)
            · rw [hρ _ _ _ (by omega)]
              obtain ⟨y, b1, b2, b3⟩ := hs.1.2.1 x a1 a2
              rw [b3, hf _ _ (by omega) (by omega)]
              exact hc.2.2.2.1 y b1 b2
            · rw [hρ _ _ _ (by omega), hs.1.1 _ _ (Or.inl (by omega)), hv x a1 (by omega)]
              omega
    · refine sn_q_aloadn sn_bc_49 dX4_givePoints_24 rfl ?_
      refine sn_q_getr (v := 210) sn_bc_49 dX4_givePoints_25 sn_oc_49 sn_pf_4_41 (by decide) rfl rfl (by decide) ?_
      refine sn_q_iload sn_bc_49 dX4_givePoints_28 rfl ?_
      refine sn_q_aloadn sn_bc_49 dX4_givePoints_30 rfl ?_
      refine sn_q_getr (v := 179) sn_bc_49 dX4_givePoints_31 sn_oc_49 sn_pf_4_20 (by decide) rfl rfl (by decide) ?_
      refine sn_q_iloadn sn_bc_49 dX4_givePoints_34 rfl ?_
      refine sn_q_aald sn_bc_49 dX4_givePoints_35 sn_a179 (by omega) (by omega) ?_
      refine sn_q_iload sn_bc_49 dX4_givePoints_36 rfl ?_
      refine sn_q_iald sn_bc_49 dX4_givePoints_38 (sn_b179 (by omega) (by omega)) (sn_p179 (by omega)) (by omega) (by omega) ?_
      refine sn_q_bipush sn_bc_49 dX4_givePoints_39 rfl ?_
      refine sn_q_imulW sn_bc_49 dX4_givePoints_41 ?_
      refine sn_q_aloadn sn_bc_49 dX4_givePoints_42 rfl ?_
      refine sn_q_getr (v := 188) sn_bc_49 dX4_givePoints_43 sn_oc_49 sn_pf_4_23 (by decide) rfl rfl (by decide) ?_
      refine sn_q_iloadn sn_bc_49 dX4_givePoints_46 rfl ?_
      refine sn_q_aald sn_bc_49 dX4_givePoints_47 sn_a188 (by omega) (by omega) ?_
      refine sn_q_iload sn_bc_49 dX4_givePoints_48 rfl ?_
      refine sn_q_iald sn_bc_49 dX4_givePoints_50 (sn_b188 (by omega) (by omega)) (sn_p188 (by omega)) (by omega) (by omega) ?_
      refine sn_q_iaddW sn_bc_49 dX4_givePoints_51 ?_
      refine sn_q_iast (P := 210) sn_bc_49 dX4_givePoints_52 sn_a210 rfl (by omega) (by omega) ?_
      refine sn_q_aloadn sn_bc_49 dX4_givePoints_53 rfl ?_
      refine sn_q_getr (v := 197) sn_bc_49 dX4_givePoints_54 sn_oc_49 sn_pf_4_26 (by decide) rfl rfl (by decide) ?_
      refine sn_q_iloadn sn_bc_49 dX4_givePoints_57 rfl ?_
      refine sn_q_aald sn_bc_49 dX4_givePoints_58 sn_a197 (by omega) (by omega) ?_
      refine sn_q_iload sn_bc_49 dX4_givePoints_59 rfl ?_
      refine sn_q_iconst sn_bc_49 dX4_givePoints_61 rfl ?_
      refine sn_q_iast sn_bc_49 dX4_givePoints_62 (sn_b197 (by omega) (by omega)) (sn_p197 (by omega)) (by omega) (by omega) ?_
      refine sn_q_inc5 sn_bc_49 dX4_givePoints_63 rfl (by omega) (by omega) ?_
      refine sn_q_goto (t := 17) sn_bc_49 dX4_givePoints_66 rfl ?_
      refine ih (d - 1) (by omega) (i + 1) _ (by omega) (fun a c g1 g2 => by unfold sn_s; rw [if_neg (by omega), if_neg (by omega)]; exact hf a c g1 g2) (fun x a1 a2 => ?_)
      by_cases e : x = (i : Int)
      · rw [e, sn_s_e]
      · rw [sn_s_j e, sn_s_p (by omega)]; exact hv x a1 (by omega)
  refine sn_q_aloadn sn_bc_49 dX4_givePoints_0 rfl ?_
  refine sn_q_getr (v := 9) sn_bc_49 dX4_givePoints_1 sn_oc_49 sn_pf_4_44 (by decide) rfl rfl (by decide) ?_
  refine sn_q_iloadn sn_bc_49 dX4_givePoints_4 rfl ?_
  refine sn_q_aloadn sn_bc_49 dX4_givePoints_5 rfl ?_
  refine sn_q_getr (v := 209) sn_bc_49 dX4_givePoints_6 sn_oc_49 sn_pf_4_38 (by decide) rfl rfl (by decide) ?_
  refine sn_q_invV sn_bc_49 dX4_givePoints_9 sn_oc_49 sn_pv_4_74 (by decide) rfl (by decide) (sn_h1 (by decide)) rfl rfl rfl rfl (sp_writeCandidates (P := 209) sn_a209 rfl (by omega) (by omega) (fun r τ hc => ?_))
  refine sn_q_ist4 sn_bc_49 dX4_givePoints_12 rfl ?_
  refine sn_q_iconst sn_bc_49 dX4_givePoints_14 rfl ?_
  refine sn_q_ist5 sn_bc_49 dX4_givePoints_15 rfl ?_
  exact loop1 r τ hc 8 0 τ rfl (fun _ _ _ _ => rfl) (fun x a1 a2 => by omega)
theorem sp_take {n k : Nat} {Y : Nat → Nat × Nat} {X : Nat → Nat → sn_V} {σ : Int → Int → Int} {Q : Option sn_V → sn_H → Prop} {w c s m L : Int} (h1 : 0 ≤ w) (h2 : w < 8) (h3 : 0 ≤ c) (h4 : c < 10) (h5 : 0 ≤ s) (h6 : s < 8) (h7 : 1 ≤ m) (h8 : m ≤ 99) (h9 : 0 ≤ σ 178 (w * 10 + c)) (h10 : σ 178 (w * 10 + c) ≤ L) (h11 : L ≤ 20) (kk : ∀ (t : Int) (τ : Int → Int → Int), 0 ≤ t → t ≤ m → σ 178 (w * 10 + c) + t ≤ L → (t < m → σ 178 (w * 10 + c) + t = L) → τ 178 (w * 10 + c) = σ 178 (w * 10 + c) + t → (∀ a d, a ≠ 98 + (w * 10 + c) → ¬ (a = 178 ∧ d = w * 10 + c) → τ a d = σ a d) → Q (some (sn_i t)) (sn_hh n k Y τ X)) : sn_Wp 81 0 [sn_r 96, sn_i w, sn_i c, sn_i s, sn_i m, sn_i L, sn_u, sn_u] [] (sn_hh n k Y σ X) Q := by
  refine sn_q_iloadn sn_bc_81 dX4_take_0 rfl ?_
  refine sn_q_iloadn sn_bc_81 dX4_take_1 rfl ?_
  refine sn_q_invS sn_bc_81 dX4_take_2 sn_oc_81 sn_px_4_48 sn_ps_4_48 (by decide) rfl rfl rfl (sp_lineOf (by omega) (by omega) (by omega) (by omega) ?_)
  refine sn_q_ist6 sn_bc_81 dX4_take_5 rfl ?_
  refine sn_q_iconst sn_bc_81 dX4_take_7 rfl ?_
  refine sn_q_iload sn_bc_81 dX4_take_8 rfl ?_
  refine sn_q_iload sn_bc_81 dX4_take_10 rfl ?_
  refine sn_q_aloadn sn_bc_81 dX4_take_12 rfl ?_
  refine sn_q_getr (v := 178) sn_bc_81 dX4_take_13 sn_oc_81 sn_pf_4_16 (by decide) rfl rfl (by decide) ?_
  refine sn_q_iload sn_bc_81 dX4_take_16 rfl ?_
  refine sn_q_iald (P := 178) sn_bc_81 dX4_take_18 sn_a178 rfl (by omega) (by omega) ?_
  refine sn_q_isub sn_bc_81 dX4_take_19 (by omega) (by omega) ?_
  refine sn_q_min sn_bc_81 dX4_take_20 sn_oc_81 sn_px_4_52 rfl ?_
  refine sn_q_max sn_bc_81 dX4_take_23 sn_oc_81 sn_px_4_57 rfl ?_
  obtain ⟨t, ht, t1, t2, t3, t4⟩ : ∃ t, (if 0 < (if L - σ 178 (w * 10 + c) < m then L - σ 178 (w * 10 + c) else m) then (if L - σ 178 (w * 10 + c) < m then L - σ 178 (w * 10 + c) else m) else 0) = t ∧ 0 ≤ t ∧ t ≤ m ∧ σ 178 (w * 10 + c) + t ≤ L ∧ (t < m → σ 178 (w * 10 + c) + t = L) := ⟨_, rfl, by split <;> (try split) <;> omega, by split <;> (try split) <;> omega, by split <;> (try split) <;> omega, by split <;> (try split) <;> omega⟩
  rw [ht]
  refine sn_q_ist7 sn_bc_81 dX4_take_26 rfl ?_
  refine sn_q_aloadn sn_bc_81 dX4_take_28 rfl ?_
  refine sn_q_getr (v := 178) sn_bc_81 dX4_take_29 sn_oc_81 sn_pf_4_16 (by decide) rfl rfl (by decide) ?_
  refine sn_q_iload sn_bc_81 dX4_take_32 rfl ?_
  refine sn_q_dup2 sn_bc_81 dX4_take_34 rfl ?_
  refine sn_q_iald (P := 178) sn_bc_81 dX4_take_35 sn_a178 rfl (by omega) (by omega) ?_
  refine sn_q_iload sn_bc_81 dX4_take_36 rfl ?_
  refine sn_q_iadd sn_bc_81 dX4_take_38 (by omega) (by omega) ?_
  refine sn_q_iast (P := 178) sn_bc_81 dX4_take_39 sn_a178 rfl (by omega) (by omega) ?_
  refine sn_q_aloadn sn_bc_81 dX4_take_40 rfl ?_
  refine sn_q_getr (v := 97) sn_bc_81 dX4_take_41 sn_oc_81 sn_pf_4_11 (by decide) rfl rfl (by decide) ?_
  refine sn_q_iload sn_bc_81 dX4_take_44 rfl ?_
  refine sn_q_aald sn_bc_81 dX4_take_46 sn_a97 (by omega) (by omega) ?_
  refine sn_q_iloadn sn_bc_81 dX4_take_47 rfl ?_
  refine sn_q_dup2 sn_bc_81 dX4_take_48 rfl ?_
  refine sn_q_iald sn_bc_81 dX4_take_49 (sn_b97 (by omega) (by omega)) (sn_p97 (by omega)) (by omega) (by omega) ?_
  rw [sn_s_p (by omega)]
  refine sn_q_iload sn_bc_81 dX4_take_50 rfl ?_
  refine sn_q_iaddW sn_bc_81 dX4_take_52 ?_
  refine sn_q_iast sn_bc_81 dX4_take_53 (sn_b97 (by omega) (by omega)) (sn_p97 (by omega)) (by omega) (by omega) ?_
  refine sn_q_iload sn_bc_81 dX4_take_54 rfl ?_
  refine sn_q_iret sn_bc_81 dX4_take_56 rfl ?_
  refine kk t _ t1 t2 t3 t4 (by rw [sn_s_p (by omega), sn_s_e]) (fun a d g1 g2 => by unfold sn_s; rw [if_neg (by omega), if_neg (by omega)])
