/-! juries: outlier, praised, points -/
def sn_gv (σ : Int → Int → Int) (w : Int) : Int := sn_sum (fun j => if σ 61 (w * 5 + j) = 0 then 0 else 1) 5
theorem sn_gv_t {σ τ : Int → Int → Int} {w : Int} (h : ∀ c, τ 61 c = σ 61 c) : sn_gv τ w = sn_gv σ w := by
  unfold sn_gv
  simp only [h]
theorem sn_gv_bd {σ : Int → Int → Int} {w : Int} : 0 ≤ sn_gv σ w ∧ sn_gv σ w ≤ 5 := by
  have g : ∀ j : Int, (0 : Int) ≤ (if σ 61 (w * 5 + j) = 0 then 0 else 1) ∧ (if σ 61 (w * 5 + j) = 0 then (0 : Int) else 1) ≤ 1 := fun j => by split <;> decide
  have g0 := g 0
  have g1 := g 1
  have g2 := g 2
  have g3 := g 3
  have g4 := g 4
  have e : sn_gv σ w = 0 + (if σ 61 (w * 5 + 0) = 0 then 0 else 1) + (if σ 61 (w * 5 + 1) = 0 then 0 else 1) + (if σ 61 (w * 5 + 2) = 0 then 0 else 1) + (if σ 61 (w * 5 + 3) = 0 then 0 else 1) + (if σ 61 (w * 5 + 4) = 0 then 0 else 1) := rfl
  rw [e]
  constructor <;> omega
/-- given ballots lie within bounds -/
def sn_bg (σ : Int → Int → Int) (w : Int) : Prop := ∀ j, 0 ≤ j → j < 5 → σ 61 (w * 5 + j) ≠ 0 → sn_bw σ (w * 5 + j)
theorem sn_bg_t {σ τ : Int → Int → Int} {w : Int} (h : sn_bg σ w) (h0 : 0 ≤ w) (h8 : w < 8) (e : ∀ a c, 20 ≤ a → a < 62 → τ a c = σ a c) : sn_bg τ w := fun j a1 a2 a3 => sn_bw_t (h j a1 a2 (by rw [← e 61 _ (by omega) (by omega)]; exact a3)) (e 60 _ (by omega) (by omega)) (fun i => e _ i (by omega) (by omega))
/-- the land's row of places lies within bounds -/
def sn_95 (σ : Int → Int → Int) : Prop := ∀ x, 0 ≤ x → x < 8 → 0 ≤ σ 95 x ∧ σ 95 x ≤ 8
theorem sp_findOutlier {n k : Nat} {Y : Nat → Nat × Nat} {X : Nat → Nat → sn_V} {σ : Int → Int → Int} {Q : Option sn_V → sn_H → Prop} {w : Int} (h1 : 0 ≤ w) (h2 : w < 8) (ho : sn_or σ w) (hb : sn_bg σ w) (h95 : sn_95 σ) (kk : ∀ (r : Int) (τ : Int → Int → Int), (∀ a c, a ≠ 95 → τ a c = σ a c) → sn_95 τ → -1 ≤ r → r ≤ 4 → Q (some (sn_i r)) (sn_hh n k Y τ X)) : sn_Wp 36 0 [sn_r 63, sn_i w, sn_u, sn_u, sn_u, sn_u] [] (sn_hh n k Y σ X) Q := by
  have loop2 : ∀ (τ : Int → Int → Int), (∀ a c, a ≠ 95 → τ a c = σ a c) → sn_95 τ → ∀ (d : Nat) (i : Nat) (f m : Int) (u : sn_V), i + d = 5 → -1 ≤ f → f ≤ 4 → 0 ≤ m → m ≤ 64 → sn_Wp 36 39 [sn_r 63, sn_i w, sn_i f, sn_i m, sn_i (i : Int), u] [] (sn_hh n k Y τ X) Q := by
    intro τ hf h9
    refine sn_ind (fun d ih => ?_)
    intro i f m u hi hf1 hf2 hm1 hm2
    refine sn_q_iload sn_bc_36 dX2_findOutlier_39 rfl ?_
    refine sn_q_iconst sn_bc_36 dX2_findOutlier_41 rfl ?_
    refine sn_q_icge (t := 93) sn_bc_36 dX2_findOutlier_42 rfl (fun c_42 => ?_) (fun c_42 => ?_)
    · refine sn_q_iconst sn_bc_36 dX2_findOutlier_93 rfl ?_
      refine sn_q_iloadn sn_bc_36 dX2_findOutlier_94 rfl ?_
      refine sn_q_imul sn_bc_36 dX2_findOutlier_95 (by omega) (by omega) ?_
      refine sn_q_iconst sn_bc_36 dX2_findOutlier_96 rfl ?_
      refine sn_q_aloadn sn_bc_36 dX2_findOutlier_97 rfl ?_
      refine sn_q_getr (v := 91) sn_bc_36 dX2_findOutlier_98 sn_oc_36 sn_pf_2_22 (by decide) rfl rfl (by decide) ?_
      refine sn_q_iloadn sn_bc_36 dX2_findOutlier_101 rfl ?_
      refine sn_q_iald (P := 91) sn_bc_36 dX2_findOutlier_102 sn_a91 rfl (by omega) (by omega) ?_
      rw [hf 91 _ (by omega)]
      have ho1 := ho.1
      have ho2 := ho.2.1
      refine sn_q_imul sn_bc_36 dX2_findOutlier_103 (by omega) (by omega) ?_
      refine sn_q_icle (t := 111) sn_bc_36 dX2_findOutlier_104 rfl (fun c_104 => ?_) (fun c_104 => ?_)
      · refine sn_q_iconst sn_bc_36 dX2_findOutlier_111 rfl ?_
        refine sn_q_iret sn_bc_36 dX2_findOutlier_112 rfl ?_
        exact kk _ τ hf h9 (by omega) (by omega)
      · refine sn_q_iloadn sn_bc_36 dX2_findOutlier_107 rfl ?_
        refine sn_q_goto (t := 112) sn_bc_36 dX2_findOutlier_108 rfl ?_
        refine sn_q_iret sn_bc_36 dX2_findOutlier_112 rfl ?_
        exact kk _ τ hf h9 (by omega) (by omega)
    · refine sn_q_aloadn sn_bc_36 dX2_findOutlier_45 rfl ?_
      refine sn_q_iloadn sn_bc_36 dX2_findOutlier_46 rfl ?_
      refine sn_q_iload sn_bc_36 dX2_findOutlier_47 rfl ?_
      refine sn_q_invV sn_bc_36 dX2_findOutlier_49 sn_oc_36 sn_pv_2_99 (by decide) rfl (by decide) (sn_h1 (by decide)) rfl rfl rfl rfl (sp_isCounting (by omega) (by omega) (by omega) (by omega) (fun g1_49 g2_49 => ?_) (fun g_49 => ?_))
      · refine sn_q_ifeq (t := 72) sn_bc_36 dX2_findOutlier_52 rfl (fun c => absurd c (by decide)) (fun _ => ?_)
        refine sn_q_aloadn sn_bc_36 dX2_findOutlier_55 rfl ?_
        refine sn_q_getr (v := 18) sn_bc_36 dX2_findOutlier_56 sn_oc_36 sn_pf_2_47 (by decide) rfl rfl (by decide) ?_
        refine sn_q_iloadn sn_bc_36 dX2_findOutlier_59 rfl ?_
        refine sn_q_iload sn_bc_36 dX2_findOutlier_60 rfl ?_
        refine sn_q_aloadn sn_bc_36 dX2_findOutlier_62 rfl ?_
        refine sn_q_getr (v := 95) sn_bc_36 dX2_findOutlier_63 sn_oc_36 sn_pf_2_36 (by decide) rfl rfl (by decide) ?_
        refine sn_q_invV sn_bc_36 dX2_findOutlier_66 sn_oc_36 sn_pv_2_117 (by decide) rfl (by decide) (sn_h1 (by decide)) rfl rfl rfl rfl (sp_distance (by omega) (by omega) (by omega) (by omega) (sn_bg_t hb h1 h2 (fun a c _ _ => hf a c (by omega)) i (by omega) (by omega) g1_49) h9 (fun r hr1 hr2 => ?_))
        refine sn_q_goto (t := 73) sn_bc_36 dX2_findOutlier_69 rfl ?_
        refine sn_q_ist5 sn_bc_36 dX2_findOutlier_73 rfl ?_
        refine sn_q_iload sn_bc_36 dX2_findOutlier_75 rfl ?_
        refine sn_q_iloadn sn_bc_36 dX2_findOutlier_77 rfl ?_
        refine sn_q_icle (t := 87) sn_bc_36 dX2_findOutlier_78 rfl (fun c_78 => ?_) (fun c_78 => ?_)
        · refine sn_q_inc4 sn_bc_36 dX2_findOutlier_87 rfl (by omega) (by omega) ?_
          refine sn_q_goto (t := 39) sn_bc_36 dX2_findOutlier_90 rfl ?_
          exact ih (d - 1) (by omega) (i + 1) _ _ _ (by omega) (by omega) (by omega) (by omega) (by omega)
        · refine sn_q_iload sn_bc_36 dX2_findOutlier_81 rfl ?_
          refine sn_q_istn3 sn_bc_36 dX2_findOutlier_83 rfl ?_
          refine sn_q_iload sn_bc_36 dX2_findOutlier_84 rfl ?_
          refine sn_q_istn2 sn_bc_36 dX2_findOutlier_86 rfl ?_
          refine sn_q_inc4 sn_bc_36 dX2_findOutlier_87 rfl (by omega) (by omega) ?_
          refine sn_q_goto (t := 39) sn_bc_36 dX2_findOutlier_90 rfl ?_
          exact ih (d - 1) (by omega) (i + 1) _ _ _ (by omega) (by omega) (by omega) (by omega) (by omega)
      · refine sn_q_ifeq (t := 72) sn_bc_36 dX2_findOutlier_52 rfl (fun _ => ?_) (fun c => absurd (by decide) c)
        refine sn_q_iconst sn_bc_36 dX2_findOutlier_72 rfl ?_
        refine sn_q_ist5 sn_bc_36 dX2_findOutlier_73 rfl ?_
        refine sn_q_iload sn_bc_36 dX2_findOutlier_75 rfl ?_
        refine sn_q_iloadn sn_bc_36 dX2_findOutlier_77 rfl ?_
        refine sn_q_icle (t := 87) sn_bc_36 dX2_findOutlier_78 rfl (fun c_78 => ?_) (fun c_78 => ?_)
        · refine sn_q_inc4 sn_bc_36 dX2_findOutlier_87 rfl (by omega) (by omega) ?_
          refine sn_q_goto (t := 39) sn_bc_36 dX2_findOutlier_90 rfl ?_
          exact ih (d - 1) (by omega) (i + 1) _ _ _ (by omega) (by omega) (by omega) (by omega) (by omega)
        · refine sn_q_iload sn_bc_36 dX2_findOutlier_81 rfl ?_
          refine sn_q_istn3 sn_bc_36 dX2_findOutlier_83 rfl ?_
          refine sn_q_iload sn_bc_36 dX2_findOutlier_84 rfl ?_
          refine sn_q_istn2 sn_bc_36 dX2_findOutlier_86 rfl ?_
          refine sn_q_inc4 sn_bc_36 dX2_findOutlier_87 rfl (by omega) (by omega) ?_
          refine sn_q_goto (t := 39) sn_bc_36 dX2_findOutlier_90 rfl ?_
          exact ih (d - 1) (by omega) (i + 1) _ _ _ (by omega) (by omega) (by omega) (by omega) (by omega)
  have loop1 : ∀ (d : Nat) (i : Nat) (τ : Int → Int → Int), i + d = 8 → (i : Int) ≤ σ 91 w → (∀ a c, a ≠ 95 → τ a c = σ a c) → sn_95 τ → sn_Wp 36 2 [sn_r 63, sn_i w, sn_i (i : Int), sn_u, sn_u, sn_u] [] (sn_hh n k Y τ X) Q := by
    refine sn_ind (fun d ih => ?_)
    intro i τ hi hz hf h9
    have ho1 := ho.1
    have ho2 := ho.2.1
    refine sn_q_iloadn sn_bc_36 dX2_findOutlier_2 rfl ?_
    refine sn_q_aloadn sn_bc_36 dX2_findOutlier_3 rfl ?_
    refine sn_q_getr (v := 91) sn_bc_36 dX2_findOutlier_4 sn_oc_36 sn_pf_2_22 (by decide) rfl rfl (by decide) ?_
    refine sn_q_iloadn sn_bc_36 dX2_findOutlier_7 rfl ?_
    refine sn_q_iald (P := 91) sn_bc_36 dX2_findOutlier_8 sn_a91 rfl (by omega) (by omega) ?_
    rw [hf 91 _ (by omega)]
    refine sn_q_icge (t := 32) sn_bc_36 dX2_findOutlier_9 rfl (fun c_9 => ?_) (fun c_9 => ?_)
    · refine sn_q_iconst sn_bc_36 dX2_findOutlier_32 rfl ?_
      refine sn_q_istn2 sn_bc_36 dX2_findOutlier_33 rfl ?_
      refine sn_q_iconst sn_bc_36 dX2_findOutlier_34 rfl ?_
      refine sn_q_istn3 sn_bc_36 dX2_findOutlier_35 rfl ?_
      refine sn_q_iconst sn_bc_36 dX2_findOutlier_36 rfl ?_
      refine sn_q_ist4 sn_bc_36 dX2_findOutlier_37 rfl ?_
      exact loop2 τ hf h9 5 0 _ _ _ rfl (by omega) (by omega) (by omega) (by omega)
    · refine sn_q_aloadn sn_bc_36 dX2_findOutlier_12 rfl ?_
      refine sn_q_getr (v := 95) sn_bc_36 dX2_findOutlier_13 sn_oc_36 sn_pf_2_36 (by decide) rfl rfl (by decide) ?_
      refine sn_q_aloadn sn_bc_36 dX2_findOutlier_16 rfl ?_
      refine sn_q_getr (v := 73) sn_bc_36 dX2_findOutlier_17 sn_oc_36 sn_pf_2_16 (by decide) rfl rfl (by decide) ?_
      refine sn_q_iloadn sn_bc_36 dX2_findOutlier_20 rfl ?_
      refine sn_q_aald sn_bc_36 dX2_findOutlier_21 sn_a73 (by omega) (by omega) ?_
      refine sn_q_iloadn sn_bc_36 dX2_findOutlier_22 rfl ?_
      refine sn_q_iald sn_bc_36 dX2_findOutlier_23 (sn_b73 (by omega) (by omega)) (sn_p73 (by omega)) (by omega) (by omega) ?_
      rw [hf (74 + w) _ (by omega)]
      have hx := ho.2.2.1 (i : Int) (by omega) (by omega)
      refine sn_q_iloadn sn_bc_36 dX2_findOutlier_24 rfl ?_
      refine sn_q_iast (P := 95) sn_bc_36 dX2_findOutlier_25 sn_a95 rfl (by omega) (by omega) ?_
      refine sn_q_inc2 sn_bc_36 dX2_findOutlier_26 rfl (by omega) (by omega) ?_
      refine sn_q_goto (t := 2) sn_bc_36 dX2_findOutlier_29 rfl ?_
      refine ih (d - 1) (by omega) (i + 1) _ (by omega) (by omega) (fun a c g => (sn_s_p g).trans (hf a c g)) (fun y a1 a2 => ?_)
      by_cases e : y = σ (74 + w) (i : Int)
      · rw [e, sn_s_e]; omega
      · rw [sn_s_j e]; exact h9 y a1 a2
  refine sn_q_iconst sn_bc_36 dX2_findOutlier_0 rfl ?_
  refine sn_q_istn2 sn_bc_36 dX2_findOutlier_1 rfl ?_
  have ho1 := ho.1
  exact loop1 8 0 σ rfl (by omega) (fun _ _ _ => rfl) h95
theorem sp_findPraised {n k : Nat} {Y : Nat → Nat × Nat} {X : Nat → Nat → sn_V} {σ : Int → Int → Int} {Q : Option sn_V → sn_H → Prop} {w : Int} (h1 : 0 ≤ w) (h2 : w < 8) (ho : sn_or σ w) (kk : ∀ r : Int, (r = -1 ∨ (0 ≤ r ∧ r < 8)) → Q (some (sn_i r)) (sn_hh n k Y σ X)) : sn_Wp 39 0 [sn_r 63, sn_i w, sn_u, sn_u, sn_u] [] (sn_hh n k Y σ X) Q := by
  have ho1 := ho.1
  have ho2 := ho.2.1
  have loop : ∀ (f : Int), (f = -1 ∨ (0 ≤ f ∧ f < 8)) → ∀ (d : Nat) (i : Nat) (m : Int), i + d = 5 → 0 ≤ m → m ≤ (i : Int) → sn_Wp 39 27 [sn_r 63, sn_i w, sn_i f, sn_i m, sn_i (i : Int)] [] (sn_hh n k Y σ X) Q := by
    intro f hf
    refine sn_ind (fun d ih => ?_)
    intro i m hi hm1 hm2
    refine sn_q_iload sn_bc_39 dX2_findPraised_27 rfl ?_
    refine sn_q_iconst sn_bc_39 dX2_findPraised_29 rfl ?_
    refine sn_q_icge (t := 66) sn_bc_39 dX2_findPraised_30 rfl (fun c_30 => ?_) (fun c_30 => ?_)
    · refine sn_q_iloadn sn_bc_39 dX2_findPraised_66 rfl ?_
      refine sn_q_iconst sn_bc_39 dX2_findPraised_67 rfl ?_
      refine sn_q_iclt (t := 75) sn_bc_39 dX2_findPraised_68 rfl (fun c_68 => ?_) (fun c_68 => ?_)
      · refine sn_q_iconst sn_bc_39 dX2_findPraised_75 rfl ?_
        refine sn_q_iret sn_bc_39 dX2_findPraised_76 rfl ?_
        exact kk _ (by omega)
      · refine sn_q_iloadn sn_bc_39 dX2_findPraised_71 rfl ?_
        refine sn_q_goto (t := 76) sn_bc_39 dX2_findPraised_72 rfl ?_
        refine sn_q_iret sn_bc_39 dX2_findPraised_76 rfl ?_
        exact kk _ (by omega)
    · refine sn_q_aloadn sn_bc_39 dX2_findPraised_33 rfl ?_
      refine sn_q_iloadn sn_bc_39 dX2_findPraised_34 rfl ?_
      refine sn_q_iload sn_bc_39 dX2_findPraised_35 rfl ?_
      refine sn_q_invV sn_bc_39 dX2_findPraised_37 sn_oc_39 sn_pv_2_99 (by decide) rfl (by decide) (sn_h1 (by decide)) rfl rfl rfl rfl (sp_isCounting (by omega) (by omega) (by omega) (by omega) (fun g1_37 g2_37 => ?_) (fun g_37 => ?_))
      · refine sn_q_ifeq (t := 60) sn_bc_39 dX2_findPraised_40 rfl (fun c => absurd c (by decide)) (fun _ => ?_)
        refine sn_q_aloadn sn_bc_39 dX2_findPraised_43 rfl ?_
        refine sn_q_getr (v := 18) sn_bc_39 dX2_findPraised_44 sn_oc_39 sn_pf_2_47 (by decide) rfl rfl (by decide) ?_
        refine sn_q_iloadn sn_bc_39 dX2_findPraised_47 rfl ?_
        refine sn_q_iload sn_bc_39 dX2_findPraised_48 rfl ?_
        refine sn_q_invV sn_bc_39 dX2_findPraised_50 sn_oc_39 sn_pv_2_121 (by decide) rfl (by decide) (sn_h1 (by decide)) rfl rfl rfl rfl (sp_firstOn (by omega) (by omega) (by omega) (by omega) ?_)
        refine sn_q_iloadn sn_bc_39 dX2_findPraised_53 rfl ?_
        refine sn_q_icne (t := 60) sn_bc_39 dX2_findPraised_54 rfl (fun c_54 => ?_) (fun c_54 => ?_)
        · refine sn_q_inc4 sn_bc_39 dX2_findPraised_60 rfl (by omega) (by omega) ?_
          refine sn_q_goto (t := 27) sn_bc_39 dX2_findPraised_63 rfl ?_
          exact ih (d - 1) (by omega) (i + 1) _ (by omega) (by omega) (by omega)
        · refine sn_q_inc3 sn_bc_39 dX2_findPraised_57 rfl (by omega) (by omega) ?_
          refine sn_q_inc4 sn_bc_39 dX2_findPraised_60 rfl (by omega) (by omega) ?_
          refine sn_q_goto (t := 27) sn_bc_39 dX2_findPraised_63 rfl ?_
          exact ih (d - 1) (by omega) (i + 1) _ (by omega) (by omega) (by omega)
      · refine sn_q_ifeq (t := 60) sn_bc_39 dX2_findPraised_40 rfl (fun _ => ?_) (fun c => absurd (by decide) c)
        refine sn_q_inc4 sn_bc_39 dX2_findPraised_60 rfl (by omega) (by omega) ?_
        refine sn_q_goto (t := 27) sn_bc_39 dX2_findPraised_63 rfl ?_
        exact ih (d - 1) (by omega) (i + 1) _ (by omega) (by omega) (by omega)
  refine sn_q_aloadn sn_bc_39 dX2_findPraised_0 rfl ?_
  refine sn_q_getr (v := 91) sn_bc_39 dX2_findPraised_1 sn_oc_39 sn_pf_2_22 (by decide) rfl rfl (by decide) ?_
  refine sn_q_iloadn sn_bc_39 dX2_findPraised_4 rfl ?_
  refine sn_q_iald (P := 91) sn_bc_39 dX2_findPraised_5 sn_a91 rfl (by omega) (by omega) ?_
  refine sn_q_ifle (t := 20) sn_bc_39 dX2_findPraised_6 rfl (fun c_6 => ?_) (fun c_6 => ?_)
  · refine sn_q_iconst sn_bc_39 dX2_findPraised_20 rfl ?_
    refine sn_q_istn2 sn_bc_39 dX2_findPraised_21 rfl ?_
    refine sn_q_iconst sn_bc_39 dX2_findPraised_22 rfl ?_
    refine sn_q_istn3 sn_bc_39 dX2_findPraised_23 rfl ?_
    refine sn_q_iconst sn_bc_39 dX2_findPraised_24 rfl ?_
    refine sn_q_ist4 sn_bc_39 dX2_findPraised_25 rfl ?_
    first
      | (have hx := ho.2.2.1 0 (by omega) (by omega)
         exact loop _ (by omega) 5 0 0 rfl (by omega) (by omega))
      | exact loop _ (by omega) 5 0 0 rfl (by omega) (by omega)
  · refine sn_q_aloadn sn_bc_39 dX2_findPraised_9 rfl ?_
    refine sn_q_getr (v := 73) sn_bc_39 dX2_findPraised_10 sn_oc_39 sn_pf_2_16 (by decide) rfl rfl (by decide) ?_
    refine sn_q_iloadn sn_bc_39 dX2_findPraised_13 rfl ?_
    refine sn_q_aald sn_bc_39 dX2_findPraised_14 sn_a73 (by omega) (by omega) ?_
    refine sn_q_iconst sn_bc_39 dX2_findPraised_15 rfl ?_
    refine sn_q_iald sn_bc_39 dX2_findPraised_16 (sn_b73 (by omega) (by omega)) (sn_p73 (by omega)) (by omega) (by omega) ?_
    refine sn_q_goto (t := 21) sn_bc_39 dX2_findPraised_17 rfl ?_
    refine sn_q_istn2 sn_bc_39 dX2_findPraised_21 rfl ?_
    refine sn_q_iconst sn_bc_39 dX2_findPraised_22 rfl ?_
    refine sn_q_istn3 sn_bc_39 dX2_findPraised_23 rfl ?_
    refine sn_q_iconst sn_bc_39 dX2_findPraised_24 rfl ?_
    refine sn_q_ist4 sn_bc_39 dX2_findPraised_25 rfl ?_
    first
      | (have hx := ho.2.2.1 0 (by omega) (by omega)
         exact loop _ (by omega) 5 0 0 rfl (by omega) (by omega))
      | exact loop _ (by omega) 5 0 0 rfl (by omega) (by omega)
theorem sp_topOf {n k : Nat} {Y : Nat → Nat × Nat} {X : Nat → Nat → sn_V} {σ : Int → Int → Int} {Q : Option sn_V → sn_H → Prop} {w : Int} (h1 : 0 ≤ w) (h2 : w < 8) (kk : ∀ r : Int, (r = -1 ∨ (0 ≤ r ∧ r < 8 ∧ σ (83 + w) r = 12)) → Q (some (sn_i r)) (sn_hh n k Y σ X)) : sn_Wp 105 0 [sn_r 63, sn_i w, sn_u] [] (sn_hh n k Y σ X) Q := by
  have loop : ∀ (d : Nat) (i : Nat), i + d = 8 → sn_Wp 105 2 [sn_r 63, sn_i w, sn_i (i : Int)] [] (sn_hh n k Y σ X) Q := by
    refine sn_ind (fun d ih => ?_)
    intro i hi
    refine sn_q_iloadn sn_bc_105 dX2_topOf_2 rfl ?_
    refine sn_q_bipush sn_bc_105 dX2_topOf_3 rfl ?_
    refine sn_q_icge (t := 29) sn_bc_105 dX2_topOf_5 rfl (fun c_5 => ?_) (fun c_5 => ?_)
    · refine sn_q_iconst sn_bc_105 dX2_topOf_29 rfl ?_
      refine sn_q_iret sn_bc_105 dX2_topOf_30 rfl ?_
      first
        | exact kk _ (Or.inl rfl)
        | exact kk _ (Or.inr ⟨by omega, by omega, by omega⟩)
    · refine sn_q_aloadn sn_bc_105 dX2_topOf_8 rfl ?_
      refine sn_q_getr (v := 82) sn_bc_105 dX2_topOf_9 sn_oc_105 sn_pf_2_19 (by decide) rfl rfl (by decide) ?_
      refine sn_q_iloadn sn_bc_105 dX2_topOf_12 rfl ?_
      refine sn_q_aald sn_bc_105 dX2_topOf_13 sn_a82 (by omega) (by omega) ?_
      refine sn_q_iloadn sn_bc_105 dX2_topOf_14 rfl ?_
      refine sn_q_iald sn_bc_105 dX2_topOf_15 (sn_b82 (by omega) (by omega)) (sn_p82 (by omega)) (by omega) (by omega) ?_
      refine sn_q_bipush sn_bc_105 dX2_topOf_16 rfl ?_
      refine sn_q_icne (t := 23) sn_bc_105 dX2_topOf_18 rfl (fun c_18 => ?_) (fun c_18 => ?_)
      · refine sn_q_inc2 sn_bc_105 dX2_topOf_23 rfl (by omega) (by omega) ?_
        refine sn_q_goto (t := 2) sn_bc_105 dX2_topOf_26 rfl ?_
        exact ih (d - 1) (by omega) (i + 1) (by omega)
      · refine sn_q_iloadn sn_bc_105 dX2_topOf_21 rfl ?_
        refine sn_q_iret sn_bc_105 dX2_topOf_22 rfl ?_
        first
          | exact kk _ (Or.inl rfl)
          | exact kk _ (Or.inr ⟨by omega, by omega, by omega⟩)
  refine sn_q_iconst sn_bc_105 dX2_topOf_0 rfl ?_
  refine sn_q_istn2 sn_bc_105 dX2_topOf_1 rfl ?_
  exact loop 8 0 rfl
theorem sp_voidPairs {n k : Nat} {Y : Nat → Nat × Nat} {X : Nat → Nat → sn_V} {σ : Int → Int → Int} {Q : Option sn_V → sn_H → Prop} (h1 : 0 ≤ σ 3 0) (h2 : σ 3 0 ≤ 8) (h94 : ∀ l, 0 ≤ l → l < σ 3 0 → σ 94 l = -1 ∨ (0 ≤ σ 94 l ∧ σ 94 l < 8)) (kk : ∀ τ, (∀ a c, a ≠ 93 → τ a c = σ a c) → (∀ c, τ 93 c = σ 93 c ∨ τ 93 c = 1) → Q none (sn_hh n k Y τ X)) : sn_Wp 41 0 [sn_r 63, sn_u, sn_u] [] (sn_hh n k Y σ X) Q := by
  have loop : ∀ (d : Nat) (i : Nat) (u : sn_V) (τ : Int → Int → Int), i + d = 8 → (i : Int) ≤ σ 3 0 → (∀ a c, a ≠ 93 → τ a c = σ a c) → (∀ c, τ 93 c = σ 93 c ∨ τ 93 c = 1) → sn_Wp 41 2 [sn_r 63, sn_i (i : Int), u] [] (sn_hh n k Y τ X) Q := by
    refine sn_ind (fun d ih => ?_)
    intro i u τ hi hz hf hv
    have e94 := hf 94 i (by omega)
    have e3 := hf 3 0 (by omega)
    refine sn_q_iloadn sn_bc_41 dX2_voidPairs_2 rfl ?_
    refine sn_q_aloadn sn_bc_41 dX2_voidPairs_3 rfl ?_
    refine sn_q_getr (v := 3) sn_bc_41 dX2_voidPairs_4 sn_oc_41 sn_pf_2_39 (by decide) rfl rfl (by decide) ?_
    refine sn_q_geti (P := 3) (J := 0) sn_bc_41 dX2_voidPairs_7 sn_oc_41 sn_pf_2_51 (by decide) rfl rfl rfl rfl ?_
    refine sn_q_icge (t := 48) sn_bc_41 dX2_voidPairs_10 rfl (fun c_10 => ?_) (fun c_10 => ?_)
    · refine sn_q_vret sn_bc_41 dX2_voidPairs_48 rfl ?_
      exact kk τ hf hv
    · refine sn_q_aloadn sn_bc_41 dX2_voidPairs_13 rfl ?_
      refine sn_q_getr (v := 94) sn_bc_41 dX2_voidPairs_14 sn_oc_41 sn_pf_2_33 (by decide) rfl rfl (by decide) ?_
      refine sn_q_iloadn sn_bc_41 dX2_voidPairs_17 rfl ?_
      refine sn_q_iald (P := 94) sn_bc_41 dX2_voidPairs_18 sn_a94 rfl (by omega) (by omega) ?_
      refine sn_q_istn2 sn_bc_41 dX2_voidPairs_19 rfl ?_
      have hp := h94 i (by omega) (by omega)
      refine sn_q_iloadn sn_bc_41 dX2_voidPairs_20 rfl ?_
      refine sn_q_iconst sn_bc_41 dX2_voidPairs_21 rfl ?_
      refine sn_q_iceq (t := 42) sn_bc_41 dX2_voidPairs_22 rfl (fun c_22 => ?_) (fun c_22 => ?_)
      · refine sn_q_inc1 sn_bc_41 dX2_voidPairs_42 rfl (by omega) (by omega) ?_
        refine sn_q_goto (t := 2) sn_bc_41 dX2_voidPairs_45 rfl ?_
        first
          | exact ih (d - 1) (by omega) (i + 1) _ _ (by omega) (by omega) hf hv
          | (refine ih (d - 1) (by omega) (i + 1) _ _ (by omega) (by omega) (fun a c g => (sn_s_p g).trans (hf a c g)) (fun c => ?_)
             by_cases e : c = (i : Int)
             · rw [e, sn_s_e]; exact Or.inr rfl
             · rw [sn_s_j e]; exact hv c)
      · refine sn_q_aloadn sn_bc_41 dX2_voidPairs_25 rfl ?_
        refine sn_q_getr (v := 94) sn_bc_41 dX2_voidPairs_26 sn_oc_41 sn_pf_2_33 (by decide) rfl rfl (by decide) ?_
        refine sn_q_iloadn sn_bc_41 dX2_voidPairs_29 rfl ?_
        refine sn_q_iald (P := 94) sn_bc_41 dX2_voidPairs_30 sn_a94 rfl (by omega) (by omega) ?_
        refine sn_q_iloadn sn_bc_41 dX2_voidPairs_31 rfl ?_
        refine sn_q_icne (t := 42) sn_bc_41 dX2_voidPairs_32 rfl (fun c_32 => ?_) (fun c_32 => ?_)
        · refine sn_q_inc1 sn_bc_41 dX2_voidPairs_42 rfl (by omega) (by omega) ?_
          refine sn_q_goto (t := 2) sn_bc_41 dX2_voidPairs_45 rfl ?_
          first
            | exact ih (d - 1) (by omega) (i + 1) _ _ (by omega) (by omega) hf hv
            | (refine ih (d - 1) (by omega) (i + 1) _ _ (by omega) (by omega) (fun a c g => (sn_s_p g).trans (hf a c g)) (fun c => ?_)
               by_cases e : c = (i : Int)
               · rw [e, sn_s_e]; exact Or.inr rfl
               · rw [sn_s_j e]; exact hv c)
        · refine sn_q_aloadn sn_bc_41 dX2_voidPairs_35 rfl ?_
          refine sn_q_getr (v := 93) sn_bc_41 dX2_voidPairs_36 sn_oc_41 sn_pf_2_29 (by decide) rfl rfl (by decide) ?_
          refine sn_q_iloadn sn_bc_41 dX2_voidPairs_39 rfl ?_
          refine sn_q_iconst sn_bc_41 dX2_voidPairs_40 rfl ?_
          refine sn_q_bast (P := 93) sn_bc_41 dX2_voidPairs_41 sn_a93 rfl (by omega) (by omega) (by omega) ?_
          refine sn_q_inc1 sn_bc_41 dX2_voidPairs_42 rfl (by omega) (by omega) ?_
          refine sn_q_goto (t := 2) sn_bc_41 dX2_voidPairs_45 rfl ?_
          first
            | exact ih (d - 1) (by omega) (i + 1) _ _ (by omega) (by omega) hf hv
            | (refine ih (d - 1) (by omega) (i + 1) _ _ (by omega) (by omega) (fun a c g => (sn_s_p g).trans (hf a c g)) (fun c => ?_)
               by_cases e : c = (i : Int)
               · rw [e, sn_s_e]; exact Or.inr rfl
               · rw [sn_s_j e]; exact hv c)
  refine sn_q_iconst sn_bc_41 dX2_voidPairs_0 rfl ?_
  refine sn_q_istn1 sn_bc_41 dX2_voidPairs_1 rfl ?_
  exact loop 8 0 _ σ rfl (by omega) (fun _ _ _ => rfl) (fun _ => Or.inl rfl)
theorem sp_addCandidates {n k : Nat} {Y : Nat → Nat × Nat} {X : Nat → Nat → sn_V} {σ : Int → Int → Int} {Q : Option sn_V → sn_H → Prop} {w u : Int} (h1 : 0 ≤ w) (h2 : w < 8) (h3 : 0 ≤ u) (h4 : u < 8) (kk : ∀ τ, (∀ a c, a ≠ 65 + w → τ a c = σ a c) → Q none (sn_hh n k Y τ X)) : sn_Wp 43 0 [sn_r 63, sn_i w, sn_i u, sn_u] [] (sn_hh n k Y σ X) Q := by
  have loop : ∀ (d : Nat) (i : Nat) (τ : Int → Int → Int), i + d = 8 → (∀ a c, a ≠ 65 + w → τ a c = σ a c) → sn_Wp 43 2 [sn_r 63, sn_i w, sn_i u, sn_i (i : Int)] [] (sn_hh n k Y τ X) Q := by
    refine sn_ind (fun d ih => ?_)
    intro i τ hi hf
    refine sn_q_iloadn sn_bc_43 dX2_addCandidates_2 rfl ?_
    refine sn_q_bipush sn_bc_43 dX2_addCandidates_3 rfl ?_
    refine sn_q_icge (t := 57) sn_bc_43 dX2_addCandidates_5 rfl (fun c_5 => ?_) (fun c_5 => ?_)
    · refine sn_q_vret sn_bc_43 dX2_addCandidates_57 rfl ?_
      exact kk τ hf
    · refine sn_q_aloadn sn_bc_43 dX2_addCandidates_8 rfl ?_
      refine sn_q_getr (v := 9) sn_bc_43 dX2_addCandidates_9 sn_oc_43 sn_pf_2_43 (by decide) rfl rfl (by decide) ?_
      refine sn_q_iloadn sn_bc_43 dX2_addCandidates_12 rfl ?_
      refine sn_q_iloadn sn_bc_43 dX2_addCandidates_13 rfl ?_
      refine sn_q_invV sn_bc_43 dX2_addCandidates_14 sn_oc_43 sn_pv_2_131 (by decide) rfl (by decide) (sn_h1 (by decide)) rfl rfl rfl rfl (sp_isCandidate (by omega) (by omega) (fun _ _ _ => ?_) (fun _ => ?_))
      · refine sn_q_ifeq (t := 51) sn_bc_43 dX2_addCandidates_17 rfl (fun c => absurd c (by decide)) (fun _ => ?_)
        refine sn_q_aloadn sn_bc_43 dX2_addCandidates_20 rfl ?_
        refine sn_q_getr (v := 9) sn_bc_43 dX2_addCandidates_21 sn_oc_43 sn_pf_2_43 (by decide) rfl rfl (by decide) ?_
        refine sn_q_iloadn sn_bc_43 dX2_addCandidates_24 rfl ?_
        refine sn_q_iloadn sn_bc_43 dX2_addCandidates_25 rfl ?_
        refine sn_q_invV sn_bc_43 dX2_addCandidates_26 sn_oc_43 sn_pv_2_131 (by decide) rfl (by decide) (sn_h1 (by decide)) rfl rfl rfl rfl (sp_isCandidate (by omega) (by omega) (fun _ _ _ => ?_) (fun _ => ?_))
        · refine sn_q_ifeq (t := 51) sn_bc_43 dX2_addCandidates_29 rfl (fun c => absurd c (by decide)) (fun _ => ?_)
          refine sn_q_aloadn sn_bc_43 dX2_addCandidates_32 rfl ?_
          refine sn_q_getr (v := 64) sn_bc_43 dX2_addCandidates_33 sn_oc_43 sn_pf_2_11 (by decide) rfl rfl (by decide) ?_
          refine sn_q_iloadn sn_bc_43 dX2_addCandidates_36 rfl ?_
          refine sn_q_aald sn_bc_43 dX2_addCandidates_37 sn_a64 (by omega) (by omega) ?_
          refine sn_q_iloadn sn_bc_43 dX2_addCandidates_38 rfl ?_
          refine sn_q_dup2 sn_bc_43 dX2_addCandidates_39 rfl ?_
          refine sn_q_iald sn_bc_43 dX2_addCandidates_40 (sn_b64 (by omega) (by omega)) (sn_p64 (by omega)) (by omega) (by omega) ?_
          refine sn_q_aloadn sn_bc_43 dX2_addCandidates_41 rfl ?_
          refine sn_q_getr (v := 64) sn_bc_43 dX2_addCandidates_42 sn_oc_43 sn_pf_2_11 (by decide) rfl rfl (by decide) ?_
          refine sn_q_iloadn sn_bc_43 dX2_addCandidates_45 rfl ?_
          refine sn_q_aald sn_bc_43 dX2_addCandidates_46 sn_a64 (by omega) (by omega) ?_
          refine sn_q_iloadn sn_bc_43 dX2_addCandidates_47 rfl ?_
          refine sn_q_iald sn_bc_43 dX2_addCandidates_48 (sn_b64 (by omega) (by omega)) (sn_p64 (by omega)) (by omega) (by omega) ?_
          refine sn_q_iaddW sn_bc_43 dX2_addCandidates_49 ?_
          refine sn_q_iast sn_bc_43 dX2_addCandidates_50 (sn_b64 (by omega) (by omega)) (sn_p64 (by omega)) (by omega) (by omega) ?_
          refine sn_q_inc3 sn_bc_43 dX2_addCandidates_51 rfl (by omega) (by omega) ?_
          refine sn_q_goto (t := 2) sn_bc_43 dX2_addCandidates_54 rfl ?_
          first
            | exact ih (d - 1) (by omega) (i + 1) _ (by omega) hf
            | exact ih (d - 1) (by omega) (i + 1) _ (by omega) (fun a c g => (sn_s_p g).trans (hf a c g))
        · refine sn_q_ifeq (t := 51) sn_bc_43 dX2_addCandidates_29 rfl (fun _ => ?_) (fun c => absurd (by decide) c)
          refine sn_q_inc3 sn_bc_43 dX2_addCandidates_51 rfl (by omega) (by omega) ?_
          refine sn_q_goto (t := 2) sn_bc_43 dX2_addCandidates_54 rfl ?_
          first
            | exact ih (d - 1) (by omega) (i + 1) _ (by omega) hf
            | exact ih (d - 1) (by omega) (i + 1) _ (by omega) (fun a c g => (sn_s_p g).trans (hf a c g))
      · refine sn_q_ifeq (t := 51) sn_bc_43 dX2_addCandidates_17 rfl (fun _ => ?_) (fun c => absurd (by decide) c)
        refine sn_q_inc3 sn_bc_43 dX2_addCandidates_51 rfl (by omega) (by omega) ?_
        refine sn_q_goto (t := 2) sn_bc_43 dX2_addCandidates_54 rfl ?_
        first
          | exact ih (d - 1) (by omega) (i + 1) _ (by omega) hf
          | exact ih (d - 1) (by omega) (i + 1) _ (by omega) (fun a c g => (sn_s_p g).trans (hf a c g))
  refine sn_q_iconst sn_bc_43 dX2_addCandidates_0 rfl ?_
  refine sn_q_istn3 sn_bc_43 dX2_addCandidates_1 rfl ?_
  exact loop 8 0 σ rfl (fun _ _ _ => rfl)
theorem sp_borrowSums {n k : Nat} {Y : Nat → Nat × Nat} {X : Nat → Nat → sn_V} {σ : Int → Int → Int} {Q : Option sn_V → sn_H → Prop} {w : Int} (h1 : 0 ≤ w) (h2 : w < 8) (h3 : 0 ≤ σ 3 0) (h4 : σ 3 0 ≤ 8) (kk : ∀ τ, (∀ a c, a ≠ 65 + w → τ a c = σ a c) → Q none (sn_hh n k Y τ X)) : sn_Wp 42 0 [sn_r 63, sn_i w, sn_u] [] (sn_hh n k Y σ X) Q := by
  have loop : ∀ (d : Nat) (i : Nat) (τ : Int → Int → Int), i + d = 8 → (i : Int) ≤ σ 3 0 → (∀ a c, a ≠ 65 + w → τ a c = σ a c) → sn_Wp 42 11 [sn_r 63, sn_i w, sn_i (i : Int)] [] (sn_hh n k Y τ X) Q := by
    refine sn_ind (fun d ih => ?_)
    intro i τ hi hz hf
    have e3 := hf 3 0 (by omega)
    refine sn_q_iloadn sn_bc_42 dX2_borrowSums_11 rfl ?_
    refine sn_q_aloadn sn_bc_42 dX2_borrowSums_12 rfl ?_
    refine sn_q_getr (v := 3) sn_bc_42 dX2_borrowSums_13 sn_oc_42 sn_pf_2_39 (by decide) rfl rfl (by decide) ?_
    refine sn_q_geti (P := 3) (J := 0) sn_bc_42 dX2_borrowSums_16 sn_oc_42 sn_pf_2_51 (by decide) rfl rfl rfl rfl ?_
    refine sn_q_icge (t := 64) sn_bc_42 dX2_borrowSums_19 rfl (fun c_19 => ?_) (fun c_19 => ?_)
    · refine sn_q_vret sn_bc_42 dX2_borrowSums_64 rfl ?_
      exact kk τ hf
    · refine sn_q_aloadn sn_bc_42 dX2_borrowSums_22 rfl ?_
      refine sn_q_getr (v := 93) sn_bc_42 dX2_borrowSums_23 sn_oc_42 sn_pf_2_29 (by decide) rfl rfl (by decide) ?_
      refine sn_q_iloadn sn_bc_42 dX2_borrowSums_26 rfl ?_
      refine sn_q_bald (P := 93) sn_bc_42 dX2_borrowSums_27 sn_a93 rfl (by omega) (by omega) ?_
      refine sn_q_ifne (t := 58) sn_bc_42 dX2_borrowSums_28 rfl (fun c_28 => ?_) (fun c_28 => ?_)
      · refine sn_q_inc2 sn_bc_42 dX2_borrowSums_58 rfl (by omega) (by omega) ?_
        refine sn_q_goto (t := 11) sn_bc_42 dX2_borrowSums_61 rfl ?_
        first
          | exact ih (d - 1) (by omega) (i + 1) _ (by omega) (by omega) (fun a c g => (hg a c g).trans (hf a c g))
          | exact ih (d - 1) (by omega) (i + 1) _ (by omega) (by omega) hf
      · refine sn_q_aloadn sn_bc_42 dX2_borrowSums_31 rfl ?_
        refine sn_q_getr (v := 3) sn_bc_42 dX2_borrowSums_32 sn_oc_42 sn_pf_2_39 (by decide) rfl rfl (by decide) ?_
        refine sn_q_getr (v := 4) sn_bc_42 dX2_borrowSums_35 sn_oc_42 sn_pf_2_124 (by decide) rfl rfl (by decide) ?_
        refine sn_q_iloadn sn_bc_42 dX2_borrowSums_38 rfl ?_
        refine sn_q_iald (P := 4) sn_bc_42 dX2_borrowSums_39 sn_a4 rfl (by omega) (by omega) ?_
        refine sn_q_aloadn sn_bc_42 dX2_borrowSums_40 rfl ?_
        refine sn_q_getr (v := 3) sn_bc_42 dX2_borrowSums_41 sn_oc_42 sn_pf_2_39 (by decide) rfl rfl (by decide) ?_
        refine sn_q_getr (v := 4) sn_bc_42 dX2_borrowSums_44 sn_oc_42 sn_pf_2_124 (by decide) rfl rfl (by decide) ?_
        refine sn_q_iloadn sn_bc_42 dX2_borrowSums_47 rfl ?_
        refine sn_q_iald (P := 4) sn_bc_42 dX2_borrowSums_48 sn_a4 rfl (by omega) (by omega) ?_
        refine sn_q_icne (t := 58) sn_bc_42 dX2_borrowSums_49 rfl (fun c_49 => ?_) (fun c_49 => ?_)
        · refine sn_q_inc2 sn_bc_42 dX2_borrowSums_58 rfl (by omega) (by omega) ?_
          refine sn_q_goto (t := 11) sn_bc_42 dX2_borrowSums_61 rfl ?_
          first
            | exact ih (d - 1) (by omega) (i + 1) _ (by omega) (by omega) (fun a c g => (hg a c g).trans (hf a c g))
            | exact ih (d - 1) (by omega) (i + 1) _ (by omega) (by omega) hf
        · refine sn_q_aloadn sn_bc_42 dX2_borrowSums_52 rfl ?_
          refine sn_q_iloadn sn_bc_42 dX2_borrowSums_53 rfl ?_
          refine sn_q_iloadn sn_bc_42 dX2_borrowSums_54 rfl ?_
          refine sn_q_invV sn_bc_42 dX2_borrowSums_55 sn_oc_42 sn_pv_2_127 (by decide) rfl (by decide) (sn_h1 (by decide)) rfl rfl rfl rfl (sp_addCandidates (by omega) (by omega) (by omega) (by omega) (fun ρ hg => ?_))
          refine sn_q_inc2 sn_bc_42 dX2_borrowSums_58 rfl (by omega) (by omega) ?_
          refine sn_q_goto (t := 11) sn_bc_42 dX2_borrowSums_61 rfl ?_
          first
            | exact ih (d - 1) (by omega) (i + 1) _ (by omega) (by omega) (fun a c g => (hg a c g).trans (hf a c g))
            | exact ih (d - 1) (by omega) (i + 1) _ (by omega) (by omega) hf
  refine sn_q_aloadn sn_bc_42 dX2_borrowSums_0 rfl ?_
  refine sn_q_getr (v := 64) sn_bc_42 dX2_borrowSums_1 sn_oc_42 sn_pf_2_11 (by decide) rfl rfl (by decide) ?_
  refine sn_q_iloadn sn_bc_42 dX2_borrowSums_4 rfl ?_
  refine sn_q_aald sn_bc_42 dX2_borrowSums_5 sn_a64 (by omega) (by omega) ?_
  refine sn_q_invS sn_bc_42 dX2_borrowSums_6 sn_oc_42 sn_px_2_95 sn_ps_2_95 (by decide) rfl rfl rfl (sp_clearRow (sn_b64 (by omega) (by omega)) (sn_p64 (by omega)) ?_)
  refine sn_q_iconst sn_bc_42 dX2_borrowSums_9 rfl ?_
  refine sn_q_istn2 sn_bc_42 dX2_borrowSums_10 rfl ?_
  exact loop 8 0 _ rfl (by omega) (fun a c g => if_neg (fun z => g z.1))
/-- the points that the jury of w gives -/
def sn_pt (σ : Int → Int → Int) (w : Int) : Prop := (∀ i, 0 ≤ i → i < σ 91 w → σ (83 + w) (σ (74 + w) i) = if 0 < σ (65 + w) (σ (74 + w) i) then sn_wv i else 0) ∧ ∀ x, 0 ≤ x → x < 8 → (∀ i, 0 ≤ i → i < σ 91 w → σ (74 + w) i ≠ x) → σ (83 + w) x = 0
theorem sn_pt_t {σ τ : Int → Int → Int} {w : Int} (h : sn_pt σ w) (e1 : τ 91 w = σ 91 w) (e2 : ∀ i, τ (74 + w) i = σ (74 + w) i) (e3 : ∀ i, τ (65 + w) i = σ (65 + w) i) (e4 : ∀ i, τ (83 + w) i = σ (83 + w) i) : sn_pt τ w := by
  unfold sn_pt
  simp only [e1, e2, e3, e4]
  exact h
theorem sp_jGivePoints {n k : Nat} {Y : Nat → Nat × Nat} {X : Nat → Nat → sn_V} {σ : Int → Int → Int} {Q : Option sn_V → sn_H → Prop} {w : Int} (hYX : sn_YX Y X) (h1 : 0 ≤ w) (h2 : w < 8) (ho : sn_or σ w) (kk : ∀ τ, (∀ a c, a ≠ 83 + w → τ a c = σ a c) → sn_pt τ w → Q none (sn_hh n k Y τ X)) : sn_Wp 44 0 [sn_r 63, sn_i w, sn_u, sn_u] [] (sn_hh n k Y σ X) Q := by
  have ho1 := ho.1
  have ho2 := ho.2.1
  have loop : ∀ (d : Nat) (i : Nat) (u : sn_V) (τ : Int → Int → Int), i + d = 8 → (i : Int) ≤ σ 91 w → (∀ a c, a ≠ 83 + w → τ a c = σ a c) → (∀ m, 0 ≤ m → m < (i : Int) → τ (83 + w) (σ (74 + w) m) = if 0 < σ (65 + w) (σ (74 + w) m) then sn_wv m else 0) → (∀ x, 0 ≤ x → x < 8 → (∀ m, 0 ≤ m → m < (i : Int) → σ (74 + w) m ≠ x) → τ (83 + w) x = 0) → sn_Wp 44 11 [sn_r 63, sn_i w, sn_i (i : Int), u] [] (sn_hh n k Y τ X) Q := by
    refine sn_ind (fun d ih => ?_)
    intro i u τ hi hz hf hv hy
    refine sn_q_iloadn sn_bc_44 dX2_givePoints_11 rfl ?_
    refine sn_q_aloadn sn_bc_44 dX2_givePoints_12 rfl ?_
    refine sn_q_getr (v := 91) sn_bc_44 dX2_givePoints_13 sn_oc_44 sn_pf_2_22 (by decide) rfl rfl (by decide) ?_
    refine sn_q_iloadn sn_bc_44 dX2_givePoints_16 rfl ?_
    refine sn_q_iald (P := 91) sn_bc_44 dX2_givePoints_17 sn_a91 rfl (by omega) (by omega) ?_
    rw [hf 91 _ (by omega)]
    refine sn_q_icge (t := 63) sn_bc_44 dX2_givePoints_18 rfl (fun c_18 => ?_) (fun c_18 => ?_)
    · refine sn_q_vret sn_bc_44 dX2_givePoints_63 rfl ?_
      obtain hz' : (i : Int) = σ 91 w := by omega
      rw [hz'] at hv hy
      refine kk τ hf ?_
      unfold sn_pt
      simp only [hf 91 w (by omega), hf (74 + w) _ (show (74 + w : Int) ≠ 83 + w from by omega), hf (65 + w) _ (show (65 + w : Int) ≠ 83 + w from by omega)]
      exact ⟨hv, hy⟩
    · refine sn_q_aloadn sn_bc_44 dX2_givePoints_21 rfl ?_
      refine sn_q_getr (v := 73) sn_bc_44 dX2_givePoints_22 sn_oc_44 sn_pf_2_16 (by decide) rfl rfl (by decide) ?_
      refine sn_q_iloadn sn_bc_44 dX2_givePoints_25 rfl ?_
      refine sn_q_aald sn_bc_44 dX2_givePoints_26 sn_a73 (by omega) (by omega) ?_
      refine sn_q_iloadn sn_bc_44 dX2_givePoints_27 rfl ?_
      refine sn_q_iald sn_bc_44 dX2_givePoints_28 (sn_b73 (by omega) (by omega)) (sn_p73 (by omega)) (by omega) (by omega) ?_
      rw [hf (74 + w) _ (by omega)]
      have hx := ho.2.2.1 (i : Int) (by omega) (by omega)
      refine sn_q_istn3 sn_bc_44 dX2_givePoints_29 rfl ?_
      refine sn_q_aloadn sn_bc_44 dX2_givePoints_30 rfl ?_
      refine sn_q_getr (v := 82) sn_bc_44 dX2_givePoints_31 sn_oc_44 sn_pf_2_19 (by decide) rfl rfl (by decide) ?_
      refine sn_q_iloadn sn_bc_44 dX2_givePoints_34 rfl ?_
      refine sn_q_aald sn_bc_44 dX2_givePoints_35 sn_a82 (by omega) (by omega) ?_
      refine sn_q_iloadn sn_bc_44 dX2_givePoints_36 rfl ?_
      refine sn_q_aloadn sn_bc_44 dX2_givePoints_37 rfl ?_
      refine sn_q_getr (v := 64) sn_bc_44 dX2_givePoints_38 sn_oc_44 sn_pf_2_11 (by decide) rfl rfl (by decide) ?_
      refine sn_q_iloadn sn_bc_44 dX2_givePoints_41 rfl ?_
      refine sn_q_aald sn_bc_44 dX2_givePoints_42 sn_a64 (by omega) (by omega) ?_
      refine sn_q_iloadn sn_bc_44 dX2_givePoints_43 rfl ?_
      refine sn_q_iald sn_bc_44 dX2_givePoints_44 (sn_b64 (by omega) (by omega)) (sn_p64 (by omega)) (by omega) (by omega) ?_
      rw [hf (65 + w) _ (by omega)]
      refine sn_q_ifle (t := 55) sn_bc_44 dX2_givePoints_45 rfl (fun c_45 => ?_) (fun c_45 => ?_)
      · refine sn_q_iconst sn_bc_44 dX2_givePoints_55 rfl ?_
        refine sn_q_iast sn_bc_44 dX2_givePoints_56 (sn_b82 (by omega) (by omega)) (sn_p82 (by omega)) (by omega) (by omega) ?_
        refine sn_q_inc2 sn_bc_44 dX2_givePoints_57 rfl (by omega) (by omega) ?_
        refine sn_q_goto (t := 11) sn_bc_44 dX2_givePoints_60 rfl ?_
        refine ih (d - 1) (by omega) (i + 1) _ _ (by omega) (by omega) (fun a c g => (sn_s_p g).trans (hf a c g)) (fun m a1 a2 => ?_) (fun y a1 a2 a3 => ?_)
        · by_cases e : m = (i : Int)
          · rw [e, sn_s_e]; first | rw [if_pos (by omega)] | rw [if_neg (by omega)]
          · have hd := ho.2.2.2.2.1 m i a1 (by omega) (by omega)
            rw [sn_s_j hd]; exact hv m a1 (by omega)
        · have hd := a3 i (by omega) (by omega)
          rw [sn_s_j (fun z => hd z.symm)]; exact hy y a1 a2 (fun m b1 b2 => a3 m b1 (by omega))
      · refine sn_q_iloadn sn_bc_44 dX2_givePoints_48 rfl ?_
        refine sn_q_invS sn_bc_44 dX2_givePoints_49 sn_oc_44 sn_px_2_134 sn_ps_2_134 (by decide) rfl rfl rfl (sp_weight hYX ?_)
        rw [if_pos (show (0 : Int) ≤ (i : Int) from by omega)]
        refine sn_q_goto (t := 56) sn_bc_44 dX2_givePoints_52 rfl ?_
        refine sn_q_iast sn_bc_44 dX2_givePoints_56 (sn_b82 (by omega) (by omega)) (sn_p82 (by omega)) (by omega) (by omega) ?_
        refine sn_q_inc2 sn_bc_44 dX2_givePoints_57 rfl (by omega) (by omega) ?_
        refine sn_q_goto (t := 11) sn_bc_44 dX2_givePoints_60 rfl ?_
        refine ih (d - 1) (by omega) (i + 1) _ _ (by omega) (by omega) (fun a c g => (sn_s_p g).trans (hf a c g)) (fun m a1 a2 => ?_) (fun y a1 a2 a3 => ?_)
        · by_cases e : m = (i : Int)
          · rw [e, sn_s_e]; first | rw [if_pos (by omega)] | rw [if_neg (by omega)]
          · have hd := ho.2.2.2.2.1 m i a1 (by omega) (by omega)
            rw [sn_s_j hd]; exact hv m a1 (by omega)
        · have hd := a3 i (by omega) (by omega)
          rw [sn_s_j (fun z => hd z.symm)]; exact hy y a1 a2 (fun m b1 b2 => a3 m b1 (by omega))
  refine sn_q_aloadn sn_bc_44 dX2_givePoints_0 rfl ?_
  refine sn_q_getr (v := 82) sn_bc_44 dX2_givePoints_1 sn_oc_44 sn_pf_2_19 (by decide) rfl rfl (by decide) ?_
  refine sn_q_iloadn sn_bc_44 dX2_givePoints_4 rfl ?_
  refine sn_q_aald sn_bc_44 dX2_givePoints_5 sn_a82 (by omega) (by omega) ?_
  refine sn_q_invS sn_bc_44 dX2_givePoints_6 sn_oc_44 sn_px_2_95 sn_ps_2_95 (by decide) rfl rfl rfl (sp_clearRow (sn_b82 (by omega) (by omega)) (sn_p82 (by omega)) ?_)
  refine sn_q_iconst sn_bc_44 dX2_givePoints_9 rfl ?_
  refine sn_q_istn2 sn_bc_44 dX2_givePoints_10 rfl ?_
  refine loop 8 0 _ _ rfl (by omega) (fun a c g => if_neg (fun z => g z.1)) (fun m a1 a2 => by omega) (fun x a1 a2 _ => ?_)
  rw [if_pos ⟨rfl, a1, a2⟩]
