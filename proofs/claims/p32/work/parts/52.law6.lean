theorem sk_lc0 {x : Int} : sn_lc x x = 0 := by
  unfold sn_lc lg_cmp
  simp
theorem sk_law2 {v15 v90 a : Int} {n k : Nat} {Y0 Y : Nat → Nat × Nat} {X0 X : Nat → Nat → sn_V} {Q : Option sn_V → sn_H → Prop} {σ : Int → Int → Int} {qB : Nat} {bed : Int → Int} {g7 g8 g9 g10 g11 g12 g13 g14 g15 g16 g17 g18 : sn_V} (hYX : sn_YX Y0 X0) (hsc : sk_sc Y0 X0) (a15 : 0 ≤ v15) (b15 : v15 < 4) (a90 : 0 ≤ v90) (b90 : v90 < 8) (hqB : 231 ≤ qB) (hE : sk_ext 0 Y0 X0 n Y X) (hB : sk_ar n Y X qB (3 + v15).toNat bed) (hYb : sk_Yb (3 + v15) bed (1 + v90) a 0 σ) (kk : ∀ (n' k' : Nat) Y X σ, n' ≤ n + 320 → k' ≤ k + 2400 → Q (some (sn_i 1)) (sn_hh n' k' Y σ X)) : sn_Wp 129 149 [sn_r 0, sn_r 2, sn_i (3 + v15), sn_r qB, sn_i (1 + v90), sn_i a, sn_i 0, g7, g8, g9, g10, g11, g12, g13, g14, g15, g16, g17, g18] [] (sn_hh n k Y σ X) Q := by
  refine sk_lw_year (N := 3 + v15) (lim := 1 + v90) (y := 0) (bed := bed) hYX hsc (by omega) (by omega) (by omega) (by omega) (by omega) (by omega) hqB hE hB hYb (fun n1 k1 Y X σ g7 g8 g9 g10 g11 g12 g13 g14 g15 g16 g17 g18 hn1 hk1 hE hB hYb => ?_)
  refine sk_lw_year (N := 3 + v15) (lim := 1 + v90) (y := 0 + 1) (bed := bed) hYX hsc (by omega) (by omega) (by omega) (by omega) (by omega) (by omega) hqB hE hB hYb (fun n2 k2 Y X σ g7 g8 g9 g10 g11 g12 g13 g14 g15 g16 g17 g18 hn2 hk2 hE hB hYb => ?_)
  refine sn_q_iload sn_bc_129 dL_law_149 rfl ?_
  refine sn_q_iconst sn_bc_129 dL_law_151 rfl ?_
  refine sn_q_icge (t := 672) sn_bc_129 dL_law_152 rfl (fun c_152 => ?_) (fun c_152 => ?_)
  · have hI := hYb.1
    have hph := hYb.2.2.1
    have h10 := hYb.2.2.2.1
    have h29 : σ 2 9 = 2 := hYb.2.1.1
    have h30 : σ 3 0 = 3 + v15 := hYb.2.1.2.1
    refine sn_q_aloadn sn_bc_129 dL_law_672 rfl ?_
    refine sn_q_invV sn_bc_129 dL_law_673 sn_oc_129 sn_pv_10_78 (by decide) rfl (by decide) (sn_h1 (by decide)) rfl rfl rfl rfl (sk_digest (sk_ext_YX hE hYX) hI hph h10 (fun τ v hq hv => ?_))
    have hph : τ 2 10 = 0 := (hq.1 2 10 (by omega) (by omega)).trans hph
    have h10 : ∀ s, 0 ≤ s → s < 8 → τ 10 s = 0 := fun s a1 a2 => (hq.1 10 s (by omega) (by omega)).trans (h10 s a1 a2)
    have h29 : τ 2 9 = 2 := (hq.1 2 9 (by omega) (by omega)).trans h29
    have h30 : τ 3 0 = 3 + v15 := (hq.1 3 0 (by omega) (by omega)).trans h30
    have hI := hq.2.2.1
    have hc := hq.2.2.2.2
    refine sn_q_lstore sn_bc_129 dL_law_676 rfl rfl rfl ?_
    refine sn_q_aloadn sn_bc_129 dL_law_678 rfl ?_
    refine sn_q_invV sn_bc_129 dL_law_679 sn_oc_129 sn_pv_10_37 (by decide) rfl (by decide) (sn_h1 (by decide)) rfl rfl rfl rfl (sk_bestMove hI (Or.inl hph) (fun b l χ hIχ hfχ hbs hz => ?_))
    obtain ⟨z1, z2⟩ := hz h10
    rw [z1, z2]
    refine sn_q_iconst sn_bc_129 dL_law_682 rfl ?_
    refine sn_q_icne (t := 733) sn_bc_129 dL_law_683 rfl (fun c_683 => ?_) (fun c_683 => ?_)
    · exfalso; omega
    · refine sn_q_aloadn sn_bc_129 dL_law_686 rfl ?_
      refine sn_q_invV sn_bc_129 dL_law_687 sn_oc_129 sn_pv_10_82 (by decide) rfl (by decide) (sn_h1 (by decide)) rfl rfl rfl rfl (sk_isOpen (Or.inl (by omega)) ?_)
      refine sn_q_ifne (t := 733) sn_bc_129 dL_law_690 rfl (fun c_690 => ?_) (fun c_690 => ?_)
      · exfalso; omega
      · refine sn_q_aloadn sn_bc_129 dL_law_693 rfl ?_
        refine sn_q_invV sn_bc_129 dL_law_694 sn_oc_129 sn_pv_10_86 (by decide) rfl (by decide) (sn_h1 (by decide)) rfl rfl rfl rfl (sk_nextRead0 (sk_ext_YX hE hYX) hI (by omega) (fun ρ hq => ?_))
        have eρ := (hq.2.1 hc).symm
        subst eρ
        refine sn_q_iconst sn_bc_129 dL_law_697 rfl ?_
        refine sn_q_icne (t := 733) sn_bc_129 dL_law_698 rfl (fun c_698 => ?_) (fun c_698 => ?_)
        · exfalso; omega
        · refine sn_q_aloadn sn_bc_129 dL_law_701 rfl ?_
          refine sn_q_iconst sn_bc_129 dL_law_702 rfl ?_
          refine sn_q_invV sn_bc_129 dL_law_703 sn_oc_129 sn_pv_10_89 (by decide) rfl (by decide) (sn_h1 (by decide)) rfl rfl rfl rfl (sk_without (sk_ext_YX hE hYX) hI (by omega) (by omega) (fun ρ r hq hr => ?_))
          have eρ := (hq.2.1 hc).symm
          subst eρ
          rw [hr (fun s a1 a2 z => z.1 (h10 s a1 a2))]
          refine sn_q_iconst sn_bc_129 dL_law_706 rfl ?_
          refine sn_q_icne (t := 733) sn_bc_129 dL_law_707 rfl (fun c_707 => ?_) (fun c_707 => ?_)
          · exfalso; omega
          · refine sn_q_aloadn sn_bc_129 dL_law_710 rfl ?_
            refine sn_q_invV sn_bc_129 dL_law_711 sn_oc_129 sn_pv_10_78 (by decide) rfl (by decide) (sn_h1 (by decide)) rfl rfl rfl rfl (sk_digest2 (sk_ext_YX hE hYX) hI hc hv ?_)
            refine sn_q_lload sn_bc_129 dL_law_714 rfl ?_
            refine sn_q_lcmp sn_bc_129 dL_law_716 ?_
            rw [sk_lc0]
            refine sn_q_ifne (t := 733) sn_bc_129 dL_law_717 rfl (fun c => absurd c (by decide)) (fun _ => ?_)
            refine sn_q_aloadn sn_bc_129 dL_law_720 rfl ?_
            refine sn_q_iconst sn_bc_129 dL_law_721 rfl ?_
            refine sn_q_invV sn_bc_129 dL_law_722 sn_oc_129 sn_pv_10_33 (by decide) rfl (by decide) (sn_h1 (by decide)) rfl rfl rfl rfl (sk_many0 (sk_ext_YX hE hYX) hI (fun ρ hq => ?_))
            have eρ := (hq.2.1 hc).symm
            subst eρ
            refine sn_q_iconst sn_bc_129 dL_law_725 rfl ?_
            refine sn_q_icne (t := 733) sn_bc_129 dL_law_726 rfl (fun c_726 => ?_) (fun c_726 => ?_)
            · exfalso; omega
            · refine sn_q_iconst sn_bc_129 dL_law_729 rfl ?_
              refine sn_q_goto (t := 734) sn_bc_129 dL_law_730 rfl ?_
              refine sn_q_zret sn_bc_129 dL_law_734 rfl (by omega) ?_
              exact kk _ _ _ _ _ (by omega) (by omega)
  · exfalso; omega
set_option maxHeartbeats 1000000 in
theorem sk_law {k0 : Nat} {Y : Nat → Nat × Nat} {c : Nat → Nat → sn_V} {Q : Option sn_V → sn_H → Prop} (hYX0 : sn_YX Y c) (hsc0 : sk_sc Y c) (kk : ∀ (n' k' : Nat) Y X σ, n' ≤ 400 → k' ≤ k0 + 6000 → Q (some (sn_i 1)) (sn_hh n' k' Y σ X)) : sn_Wp 129 0 [sn_r 0, sn_u, sn_u, sn_u, sn_u, sn_u, sn_u, sn_u, sn_u, sn_u, sn_u, sn_u, sn_u, sn_u, sn_u, sn_u, sn_u, sn_u, sn_u] [] (sk_K 2 k0 Y c) Q := by
  refine sk_q_new (ci := 9) (len := 16) sn_bc_129 dL_law_0 sn_oc_129 sn_pn_10_9 (by decide) rfl rfl ?_
  refine sn_q_dup sn_bc_129 dL_law_3 rfl ?_
  refine sn_q_invC sn_bc_129 dL_law_4 sn_oc_129 sn_pc_10_11 (by decide) (by decide) rfl (by decide) (show 2 < 3 from by decide) rfl rfl rfl (sk_new_obj (fun i => rfl) ?_)
  obtain ⟨X0, hX0⟩ : ∃ x, x = sk_n c 2 (fun j => if sn_ft 9 j = 2 then sn_n else sn_i 0) := ⟨_, rfl⟩
  rw [← hX0]
  have hYX : sn_YX Y X0 := ⟨hYX0.1, fun j hj => by rw [hX0]; exact (if_neg (by decide)).trans (hYX0.2 j hj)⟩
  have e0 : X0 0 = c 0 := by rw [hX0]; rfl
  have hsc : sk_sc Y X0 := ⟨hsc0.1, fun j hj => by rw [e0]; exact hsc0.2 j hj⟩
  have hE : sk_ext 0 Y X0 0 Y X0 := sk_ext_rf
  refine sn_q_astorenL sn_bc_129 dL_law_7 (show (1 : Nat) < 19 from by decide) rfl rfl ?_
  refine sn_q_iconst sn_bc_129 dL_law_8 rfl ?_
  refine sn_q_aloadn sn_bc_129 dL_law_9 rfl ?_
  refine sn_q_iconst sn_bc_129 dL_law_10 rfl ?_
  refine sn_q_invS sn_bc_129 dL_law_11 sn_oc_129 sn_px_10_12 sn_ps_10_12 (by decide) rfl rfl rfl (sk_cellG (sk_ext_sc hE hsc) (by omega) (by omega) (fun v11 => ?_))
  refine sn_q_iconst sn_bc_129 dL_law_14 rfl ?_
  refine sn_q_invS sn_bc_129 dL_law_15 sn_oc_129 sn_px_10_18 sn_ps_10_18 (by decide) rfl rfl rfl (sk_belowG (by omega) (by omega) (fun v15 a15 b15 => ?_))
  refine sn_q_iadd sn_bc_129 dL_law_18 (by omega) (by omega) ?_
  refine sn_q_istorenL sn_bc_129 dL_law_19 (show (2 : Nat) < 19 from by decide) rfl rfl ?_
  refine sn_q_iloadn sn_bc_129 dL_law_20 rfl ?_
  refine sk_l_new sn_bc_129 dL_law_21 (by omega) (by omega) (fun Y1 X1 he hB => ?_)
  have hE := sk_ext_tr hE he
  refine sn_q_astorenL sn_bc_129 dL_law_23 (show (3 : Nat) < 19 from by decide) rfl rfl ?_
  refine sn_q_iconst sn_bc_129 dL_law_24 rfl ?_
  refine sn_q_istoreL sn_bc_129 dL_law_25 (show (4 : Nat) < 19 from by decide) rfl rfl ?_
  refine sk_lw_lands (k0 := 0) (lim := 0) (aud := 0) (y := 0) (N := 3 + v15) hsc (by omega) (by omega) (by omega) (3 + v15).toNat 0 _ _ _ _ (fun _ => 0) sk_s0 (by omega) hE hB sk_Iv_0 rfl (fun l a1 a2 => by omega) (fun a c _ _ _ _ _ => rfl) (fun X bed σ j hE hB hI h30 h5 hf => ?_)
  have hph : σ 2 10 = 0 := hf 2 10 (by omega) (by omega) (by omega) (by omega) (by omega)
  have h90 : σ 9 0 = 0 := (hf 9 0 (by omega) (by omega) (by omega) (by omega) (by omega)).trans (sk_z0 _ _ (by omega) (by omega))
  have h180 : σ 211 0 = 180 := hf 211 0 (by omega) (by omega) (by omega) (by omega) (by omega)
  have h178 : ∀ m, 0 ≤ m → m < 80 → σ 178 m = 0 := fun m _ _ => (hf 178 m (by omega) (by omega) (by omega) (by omega) (by omega)).trans (sk_z0 _ _ (by omega) (by omega))
  refine sn_q_iconst sn_bc_129 dL_law_82 rfl ?_
  refine sn_q_aloadn sn_bc_129 dL_law_83 rfl ?_
  refine sn_q_iconst sn_bc_129 dL_law_84 rfl ?_
  refine sn_q_invS sn_bc_129 dL_law_85 sn_oc_129 sn_px_10_12 sn_ps_10_12 (by decide) rfl rfl rfl (sk_cellG (sk_ext_sc hE hsc) (by omega) (by omega) (fun v85 => ?_))
  refine sn_q_bipush sn_bc_129 dL_law_88 rfl ?_
  refine sn_q_invS sn_bc_129 dL_law_90 sn_oc_129 sn_px_10_18 sn_ps_10_18 (by decide) rfl rfl rfl (sk_belowG (by omega) (by omega) (fun v90 a90 b90 => ?_))
  refine sn_q_iadd sn_bc_129 dL_law_93 (by omega) (by omega) ?_
  refine sn_q_istoreL sn_bc_129 dL_law_94 (show (4 : Nat) < 19 from by decide) rfl rfl ?_
  refine sn_q_aloadn sn_bc_129 dL_law_96 rfl ?_
  refine sn_q_iconst sn_bc_129 dL_law_97 rfl ?_
  refine sn_q_invS sn_bc_129 dL_law_98 sn_oc_129 sn_px_10_12 sn_ps_10_12 (by decide) rfl rfl rfl (sk_cellG (sk_ext_sc hE hsc) (by omega) (by omega) (fun v98 => ?_))
  refine sn_q_iconst sn_bc_129 dL_law_101 rfl ?_
  refine sn_q_invS sn_bc_129 dL_law_102 sn_oc_129 sn_px_10_18 sn_ps_10_18 (by decide) rfl rfl rfl (sk_belowG (by omega) (by omega) (fun v102 a102 b102 => ?_))
  refine sn_q_ifne (t := 112) sn_bc_129 dL_law_105 rfl (fun c_105 => ?_) (fun c_105 => ?_)
  · refine sn_q_iconst sn_bc_129 dL_law_112 rfl ?_
    refine sn_q_istoreL sn_bc_129 dL_law_113 (show (5 : Nat) < 19 from by decide) rfl rfl ?_
    refine sn_q_aloadn sn_bc_129 dL_law_115 rfl ?_
    refine sn_q_sipush sn_bc_129 dL_law_116 rfl ?_
    refine sn_q_bipush sn_bc_129 dL_law_119 rfl ?_
    refine sn_q_iload sn_bc_129 dL_law_121 rfl ?_
    refine sn_q_aloadn sn_bc_129 dL_law_123 rfl ?_
    refine sn_q_iconst sn_bc_129 dL_law_124 rfl ?_
    refine sn_q_invS sn_bc_129 dL_law_125 sn_oc_129 sn_px_10_12 sn_ps_10_12 (by decide) rfl rfl rfl (sk_cellG (sk_ext_sc hE hsc) (by omega) (by omega) (fun v125 => ?_))
    refine sn_q_bipush sn_bc_129 dL_law_128 rfl ?_
    refine sn_q_invS sn_bc_129 dL_law_130 sn_oc_129 sn_px_10_18 sn_ps_10_18 (by decide) rfl rfl rfl (sk_belowG (by omega) (by omega) (fun v130 a130 b130 => ?_))
    refine sn_q_iload sn_bc_129 dL_law_133 rfl ?_
    refine sn_q_invV sn_bc_129 dL_law_135 sn_oc_129 sn_pv_10_25 (by decide) rfl (by decide) (sn_h1 (by decide)) rfl rfl rfl rfl (sk_rules hI hph h90 (by omega) (by omega) (by omega) (by omega) (by omega) (by omega) (by omega) (by omega) (by omega) h178 (fun τ hIτ hft e0 e1 e2 e4 => ?_))
    rw [h180]
    refine sn_q_sipush sn_bc_129 dL_law_138 rfl ?_
    refine sn_q_iceq (t := 146) sn_bc_129 dL_law_141 rfl (fun c_141 => ?_) (fun c_141 => ?_)
    · refine sn_q_iconst sn_bc_129 dL_law_146 rfl ?_
      refine sn_q_istoreL sn_bc_129 dL_law_147 (show (6 : Nat) < 19 from by decide) rfl rfl ?_
      have hYb : sk_Yb (3 + v15) bed (1 + v90) 0 0 τ := by
        have f : ∀ a c, a ≠ 211 → a ≠ 2 → a ≠ 3 → a ≠ 5 → a ≠ 4 → a ≠ 6 → τ a c = 0 := fun a c g1 g2 g3 g4 g5 g6 => (hft a c g1 (by omega)).trans ((hf a c (by omega) (by omega) (by omega) (by omega) (by omega)).trans (sk_z0 a c (by omega) (by omega)))
        have f2 : ∀ c, c ≠ 15 → τ 2 c = sk_s0 2 c := fun c g => (hft 2 c (by omega) (by omega)).trans (hf 2 c (by omega) (by omega) (by omega) (by omega) (by omega))
        refine ⟨hIτ, ⟨(f2 9 (by omega)).trans rfl, (hft 3 0 (by omega) (by omega)).trans h30, fun l a1 a2 => (hft 5 l (by omega) (by omega)).trans (h5 l a1 a2), e0, e1, e2, e4, fun l a1 a2 => ?_⟩, (f2 10 (by omega)).trans rfl, fun s a1 a2 => f _ _ (by omega) (by omega) (by omega) (by omega) (by omega) (by omega), f _ _ (by omega) (by omega) (by omega) (by omega) (by omega) (by omega), f _ _ (by omega) (by omega) (by omega) (by omega) (by omega) (by omega), fun s a1 a2 => f _ _ (by omega) (by omega) (by omega) (by omega) (by omega) (by omega), fun s a1 a2 => f _ _ (by omega) (by omega) (by omega) (by omega) (by omega) (by omega), fun s a1 a2 => f _ _ (by omega) (by omega) (by omega) (by omega) (by omega) (by omega), fun s a1 a2 => f _ _ (by omega) (by omega) (by omega) (by omega) (by omega) (by omega), f _ _ (by omega) (by omega) (by omega) (by omega) (by omega) (by omega)⟩
        rw [f 7 l (by omega) (by omega) (by omega) (by omega) (by omega) (by omega), f 8 l (by omega) (by omega) (by omega) (by omega) (by omega) (by omega)]
        omega
      exact sk_law2 hYX hsc a15 b15 a90 b90 (by omega) hE hB hYb (fun n' k' Y X σ h1 h2 => kk n' k' Y X σ (by omega) (by omega))
    · exfalso; omega
  · refine sn_q_iconst sn_bc_129 dL_law_108 rfl ?_
    refine sn_q_goto (t := 113) sn_bc_129 dL_law_109 rfl ?_
    refine sn_q_istoreL sn_bc_129 dL_law_113 (show (5 : Nat) < 19 from by decide) rfl rfl ?_
    refine sn_q_aloadn sn_bc_129 dL_law_115 rfl ?_
    refine sn_q_sipush sn_bc_129 dL_law_116 rfl ?_
    refine sn_q_bipush sn_bc_129 dL_law_119 rfl ?_
    refine sn_q_iload sn_bc_129 dL_law_121 rfl ?_
    refine sn_q_aloadn sn_bc_129 dL_law_123 rfl ?_
    refine sn_q_iconst sn_bc_129 dL_law_124 rfl ?_
    refine sn_q_invS sn_bc_129 dL_law_125 sn_oc_129 sn_px_10_12 sn_ps_10_12 (by decide) rfl rfl rfl (sk_cellG (sk_ext_sc hE hsc) (by omega) (by omega) (fun v125 => ?_))
    refine sn_q_bipush sn_bc_129 dL_law_128 rfl ?_
    refine sn_q_invS sn_bc_129 dL_law_130 sn_oc_129 sn_px_10_18 sn_ps_10_18 (by decide) rfl rfl rfl (sk_belowG (by omega) (by omega) (fun v130 a130 b130 => ?_))
    refine sn_q_iload sn_bc_129 dL_law_133 rfl ?_
    refine sn_q_invV sn_bc_129 dL_law_135 sn_oc_129 sn_pv_10_25 (by decide) rfl (by decide) (sn_h1 (by decide)) rfl rfl rfl rfl (sk_rules hI hph h90 (by omega) (by omega) (by omega) (by omega) (by omega) (by omega) (by omega) (by omega) (by omega) h178 (fun τ hIτ hft e0 e1 e2 e4 => ?_))
    rw [h180]
    refine sn_q_sipush sn_bc_129 dL_law_138 rfl ?_
    refine sn_q_iceq (t := 146) sn_bc_129 dL_law_141 rfl (fun c_141 => ?_) (fun c_141 => ?_)
    · refine sn_q_iconst sn_bc_129 dL_law_146 rfl ?_
      refine sn_q_istoreL sn_bc_129 dL_law_147 (show (6 : Nat) < 19 from by decide) rfl rfl ?_
      have hYb : sk_Yb (3 + v15) bed (1 + v90) 1 0 τ := by
        have f : ∀ a c, a ≠ 211 → a ≠ 2 → a ≠ 3 → a ≠ 5 → a ≠ 4 → a ≠ 6 → τ a c = 0 := fun a c g1 g2 g3 g4 g5 g6 => (hft a c g1 (by omega)).trans ((hf a c (by omega) (by omega) (by omega) (by omega) (by omega)).trans (sk_z0 a c (by omega) (by omega)))
        have f2 : ∀ c, c ≠ 15 → τ 2 c = sk_s0 2 c := fun c g => (hft 2 c (by omega) (by omega)).trans (hf 2 c (by omega) (by omega) (by omega) (by omega) (by omega))
        refine ⟨hIτ, ⟨(f2 9 (by omega)).trans rfl, (hft 3 0 (by omega) (by omega)).trans h30, fun l a1 a2 => (hft 5 l (by omega) (by omega)).trans (h5 l a1 a2), e0, e1, e2, e4, fun l a1 a2 => ?_⟩, (f2 10 (by omega)).trans rfl, fun s a1 a2 => f _ _ (by omega) (by omega) (by omega) (by omega) (by omega) (by omega), f _ _ (by omega) (by omega) (by omega) (by omega) (by omega) (by omega), f _ _ (by omega) (by omega) (by omega) (by omega) (by omega) (by omega), fun s a1 a2 => f _ _ (by omega) (by omega) (by omega) (by omega) (by omega) (by omega), fun s a1 a2 => f _ _ (by omega) (by omega) (by omega) (by omega) (by omega) (by omega), fun s a1 a2 => f _ _ (by omega) (by omega) (by omega) (by omega) (by omega) (by omega), fun s a1 a2 => f _ _ (by omega) (by omega) (by omega) (by omega) (by omega) (by omega), f _ _ (by omega) (by omega) (by omega) (by omega) (by omega) (by omega)⟩
        rw [f 7 l (by omega) (by omega) (by omega) (by omega) (by omega) (by omega), f 8 l (by omega) (by omega) (by omega) (by omega) (by omega) (by omega)]
        omega
      exact sk_law2 hYX hsc a15 b15 a90 b90 (by omega) hE hB hYb (fun n' k' Y X σ h1 h2 => kk n' k' Y X σ (by omega) (by omega))
    · exfalso; omega
