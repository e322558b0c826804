theorem sk_areGiven {n0 k0 : Nat} {Y0 : Nat → Nat × Nat} {X0 : Nat → Nat → sn_V} {σ : Int → Int → Int} {Q : Option sn_V → sn_H → Prop} {N a : Int} (hYX : sn_YX Y0 X0) (hI : sk_Iv σ) (hc : σ 2 15 ≠ 0) (hN : N = σ 3 0) (h3 : 3 ≤ N) (h6 : N ≤ 6) (hrn : 3 ≤ σ 9 0 - σ 9 1) (hA : a = 0 → σ 211 4 = 0) (kk : ∀ (n k : Nat) Y X, sk_ext n0 Y0 X0 n Y X → n ≤ n0 + 50 → k ≤ k0 + 400 → Q (some (sn_i 1)) (sn_hh n k Y σ X)) : sn_Wp 87 0 [sn_r 2, sn_i N, sn_i a, sn_u, sn_u, sn_u, sn_u, sn_u, sn_u, sn_u, sn_u] [] (sn_hh n0 k0 Y0 σ X0) Q := by
  have hC := hI.1.2.2.2.2.2 hc
  have h38 := hI.1.1
  have hRk := hC.2.2
  have hrn8 : σ 212 8 = σ 9 0 - σ 9 1 := hRk.1.trans hI.2.1.2.2.1
  have hA8 := sk_A_bd hI.2.1
  have hb12 := hC.2.1
  have hNN : ((N.toNat : Nat) : Int) = σ 3 0 := by omega
  have goR : ∀ (d r : Nat) (all last : Int) (g9 g10 : sn_V) (n k : Nat) (Y : Nat → Nat × Nat) (X : Nat → Nat → sn_V) (J K : Int → Int), (r : Int) + d = σ 212 8 → sk_ext n0 Y0 X0 n Y X → sk_ar n Y X (231 + n0) N.toNat J → sk_ar n Y X (231 + (n0 + 1)) N.toNat K → n ≤ n0 + 50 → k ≤ k0 + 400 → (∀ s, 0 ≤ s → s < N → J s = σ 213 s ∧ K s = σ 214 s) → all = sn_sum (fun s => σ 213 s + σ 214 s) 8 → 0 ≤ all ∧ all ≤ 1200 → ((r = 0 ∧ last = -1) ∨ (1 ≤ r ∧ last = σ 213 (σ 215 ((r : Int) - 1)) + σ 214 (σ 215 ((r : Int) - 1)))) → sn_Wp 87 323 [sn_r 2, sn_i N, sn_i a, sn_r (231 + n0), sn_r (231 + (n0 + 1)), sn_i all, sn_i last, sn_i (σ 9 0 - σ 9 1), sn_i (r : Int), g9, g10] [] (sn_hh n k Y σ X) Q := by
    intro d
    induction d with
    | zero =>
      intro r all last g9 g10 n k Y X J K hd hE hJ hK hn hk hv hall hab hl
      refine sn_q_iload sn_bc_87 dL_areGiven_323 rfl ?_
      refine sn_q_iload sn_bc_87 dL_areGiven_325 rfl ?_
      refine sn_q_icge (t := 430) sn_bc_87 dL_areGiven_327 rfl (fun c_327 => ?_) (fun c_327 => ?_)
      · refine sn_q_aloadn sn_bc_87 dL_areGiven_430 rfl ?_
        refine sn_q_invV sn_bc_87 dL_areGiven_431 sn_oc_87 sn_pv_10_106 (by decide) rfl (by decide) (sn_h1 (by decide)) rfl rfl rfl rfl (sk_meanTotal sk_dv_all (sk_ext_YX hE hYX) hI (by omega) (fun τ hq => ?_))
        rw [hq.2.1 hc]
        refine sn_q_iload sn_bc_87 dL_areGiven_434 rfl ?_
        refine sn_q_i2d sn_bc_87 dL_areGiven_436 ?_
        refine sn_q_iload sn_bc_87 dL_areGiven_437 rfl ?_
        refine sn_q_i2d sn_bc_87 dL_areGiven_439 ?_
        refine sn_q_ddiv sn_bc_87 dL_areGiven_440 (sk_dv_all _ _ (by omega) (by omega) (by omega) (by omega)) ?_
        refine sn_q_dcmp sn_bc_87 dL_areGiven_441 ?_
        rw [hall, sk_dcmp_all (by omega) (by omega) (by omega) (by omega)]
        show sn_Wp _ _ _ (sn_i 0 :: _) _ _
        refine sn_q_ifne (t := 449) sn_bc_87 dL_areGiven_442 rfl (fun c => absurd c (by decide)) (fun _ => ?_)
        refine sn_q_iconst sn_bc_87 dL_areGiven_445 rfl ?_
        refine sn_q_goto (t := 450) sn_bc_87 dL_areGiven_446 rfl ?_
        refine sn_q_zret sn_bc_87 dL_areGiven_450 rfl (by omega) ?_
        exact kk n k Y X hE hn hk
      · exfalso; omega
    | succ d ih =>
      intro r all last g9 g10 n k Y X J K hd hE hJ hK hn hk hv hall hab hl
      refine sn_q_iload sn_bc_87 dL_areGiven_323 rfl ?_
      refine sn_q_iload sn_bc_87 dL_areGiven_325 rfl ?_
      refine sn_q_icge (t := 430) sn_bc_87 dL_areGiven_327 rfl (fun c_327 => ?_) (fun c_327 => ?_)
      · exfalso; omega
      · refine sn_q_aloadn sn_bc_87 dL_areGiven_330 rfl ?_
        refine sn_q_iload sn_bc_87 dL_areGiven_331 rfl ?_
        refine sn_q_invV sn_bc_87 dL_areGiven_333 sn_oc_87 sn_pv_10_103 (by decide) rfl (by decide) (sn_h1 (by decide)) rfl rfl rfl rfl (sk_ranked (sk_ext_YX hE hYX) hI (by omega) (by omega) (fun τ hq hlt => ?_))
        rw [hq.2.1 hc]
        rw [hq.2.1 hc] at hlt
        have hw := hRk.2.2.1 (r : Int) (by omega) (by omega)
        have hwN := hI.2.1.1 _ hw.1 hw.2.1 hw.2.2.1
        have h10 := hw.2.2.1
        refine sn_q_ist9 sn_bc_87 dL_areGiven_336 rfl ?_
        refine sn_q_aloadn sn_bc_87 dL_areGiven_338 rfl ?_
        refine sn_q_iload sn_bc_87 dL_areGiven_339 rfl ?_
        refine sn_q_bipush sn_bc_87 dL_areGiven_341 rfl ?_
        refine sn_q_invV sn_bc_87 dL_areGiven_343 sn_oc_87 sn_pv_10_54 (by decide) rfl (by decide) (sn_h1 (by decide)) rfl rfl rfl rfl (sk_ofSong7 (sk_ext_YX hE hYX) hI (by omega) (by omega) h10 (fun τ hq => ?_))
        rw [hq.2.1 hc]
        have htb := sk_tot_bd hC _ hw.1 hw.2.1
        refine sn_q_ist10 sn_bc_87 dL_areGiven_346 rfl ?_
        refine sn_q_aloadn sn_bc_87 dL_areGiven_348 rfl ?_
        refine sn_q_iload sn_bc_87 dL_areGiven_349 rfl ?_
        refine sn_q_bipush sn_bc_87 dL_areGiven_351 rfl ?_
        refine sn_q_invV sn_bc_87 dL_areGiven_353 sn_oc_87 sn_pv_10_54 (by decide) rfl (by decide) (sn_h1 (by decide)) rfl rfl rfl rfl (sk_ofSong8 (sk_ext_YX hE hYX) hI (by omega) (by omega) h10 (fun τ hq r' hr => ?_))
        rw [hq.2.1 hc]
        rw [hq.2.1 hc] at hr
        
        refine sn_q_iload sn_bc_87 dL_areGiven_356 rfl ?_
        refine sn_q_icne (t := 418) sn_bc_87 dL_areGiven_358 rfl (fun c_358 => ?_) (fun c_358 => ?_)
        · exfalso
          have hrr : r' = (r : Int) := by
            rcases hr with ⟨-, z⟩ | ⟨z1, z2, z3⟩
            · exact absurd rfl (z (r : Int) (by omega) (by omega))
            · by_cases g1 : r' < (r : Int)
              · exact absurd z3 (hRk.2.2.2.2.1 r' (r : Int) z1 g1 (by omega))
              · by_cases g2 : (r : Int) < r'
                · exact absurd z3.symm (hRk.2.2.2.2.1 (r : Int) r' (by omega) g2 (by omega))
                · omega
          have hvw := hv _ hw.1 (by omega)
          have hrd : 1 ≤ r → σ 213 (σ 215 (r : Int)) + σ 214 (σ 215 (r : Int)) ≤ σ 213 (σ 215 ((r : Int) - 1)) + σ 214 (σ 215 ((r : Int) - 1)) := fun q => by
            have := hRk.2.2.2.2.2 ((r : Int) - 1) (by omega) (by omega)
            rw [show (r : Int) - 1 + 1 = (r : Int) by omega] at this
            exact this
          first
            | omega
            | (rw [hvw.1] at *; omega)
            | (rw [hvw.1, hvw.2] at *; omega)
        · refine sn_q_aloadn sn_bc_87 dL_areGiven_361 rfl ?_
          refine sn_q_iload sn_bc_87 dL_areGiven_362 rfl ?_
          refine sn_q_iconst sn_bc_87 dL_areGiven_364 rfl ?_
          refine sn_q_invV sn_bc_87 dL_areGiven_365 sn_oc_87 sn_pv_10_54 (by decide) rfl (by decide) (sn_h1 (by decide)) rfl rfl rfl rfl (sk_ofSong5 (sk_ext_YX hE hYX) hI (by omega) (by omega) h10 (fun τ hq => ?_))
          rw [hq.2.1 hc]
          refine sn_q_aloadn sn_bc_87 dL_areGiven_368 rfl ?_
          refine sn_q_iload sn_bc_87 dL_areGiven_369 rfl ?_
          refine sk_l_iald hJ sn_bc_87 dL_areGiven_371 (by omega) (by omega) ?_
          refine sn_q_icne (t := 418) sn_bc_87 dL_areGiven_372 rfl (fun c_372 => ?_) (fun c_372 => ?_)
          · exfalso
            have hrr : r' = (r : Int) := by
              rcases hr with ⟨-, z⟩ | ⟨z1, z2, z3⟩
              · exact absurd rfl (z (r : Int) (by omega) (by omega))
              · by_cases g1 : r' < (r : Int)
                · exact absurd z3 (hRk.2.2.2.2.1 r' (r : Int) z1 g1 (by omega))
                · by_cases g2 : (r : Int) < r'
                  · exact absurd z3.symm (hRk.2.2.2.2.1 (r : Int) r' (by omega) g2 (by omega))
                  · omega
            have hvw := hv _ hw.1 (by omega)
            have hrd : 1 ≤ r → σ 213 (σ 215 (r : Int)) + σ 214 (σ 215 (r : Int)) ≤ σ 213 (σ 215 ((r : Int) - 1)) + σ 214 (σ 215 ((r : Int) - 1)) := fun q => by
              have := hRk.2.2.2.2.2 ((r : Int) - 1) (by omega) (by omega)
              rw [show (r : Int) - 1 + 1 = (r : Int) by omega] at this
              exact this
            first
              | omega
              | (rw [hvw.1] at *; omega)
              | (rw [hvw.1, hvw.2] at *; omega)
          · refine sn_q_aloadn sn_bc_87 dL_areGiven_375 rfl ?_
            refine sn_q_iload sn_bc_87 dL_areGiven_376 rfl ?_
            refine sn_q_bipush sn_bc_87 dL_areGiven_378 rfl ?_
            refine sn_q_invV sn_bc_87 dL_areGiven_380 sn_oc_87 sn_pv_10_54 (by decide) rfl (by decide) (sn_h1 (by decide)) rfl rfl rfl rfl (sk_ofSong6 (sk_ext_YX hE hYX) hI (by omega) (by omega) h10 (fun τ hq => ?_))
            rw [hq.2.1 hc]
            refine sn_q_aload sn_bc_87 dL_areGiven_383 rfl ?_
            refine sn_q_iload sn_bc_87 dL_areGiven_385 rfl ?_
            refine sk_l_iald hK sn_bc_87 dL_areGiven_387 (by omega) (by omega) ?_
            refine sn_q_icne (t := 418) sn_bc_87 dL_areGiven_388 rfl (fun c_388 => ?_) (fun c_388 => ?_)
            · exfalso
              have hrr : r' = (r : Int) := by
                rcases hr with ⟨-, z⟩ | ⟨z1, z2, z3⟩
                · exact absurd rfl (z (r : Int) (by omega) (by omega))
                · by_cases g1 : r' < (r : Int)
                  · exact absurd z3 (hRk.2.2.2.2.1 r' (r : Int) z1 g1 (by omega))
                  · by_cases g2 : (r : Int) < r'
                    · exact absurd z3.symm (hRk.2.2.2.2.1 (r : Int) r' (by omega) g2 (by omega))
                    · omega
              have hvw := hv _ hw.1 (by omega)
              have hrd : 1 ≤ r → σ 213 (σ 215 (r : Int)) + σ 214 (σ 215 (r : Int)) ≤ σ 213 (σ 215 ((r : Int) - 1)) + σ 214 (σ 215 ((r : Int) - 1)) := fun q => by
                have := hRk.2.2.2.2.2 ((r : Int) - 1) (by omega) (by omega)
                rw [show (r : Int) - 1 + 1 = (r : Int) by omega] at this
                exact this
              first
                | omega
                | (rw [hvw.1] at *; omega)
                | (rw [hvw.1, hvw.2] at *; omega)
            · refine sn_q_iload sn_bc_87 dL_areGiven_391 rfl ?_
              refine sn_q_aloadn sn_bc_87 dL_areGiven_393 rfl ?_
              refine sn_q_iload sn_bc_87 dL_areGiven_394 rfl ?_
              refine sk_l_iald hJ sn_bc_87 dL_areGiven_396 (by omega) (by omega) ?_
              refine sn_q_aload sn_bc_87 dL_areGiven_397 rfl ?_
              refine sn_q_iload sn_bc_87 dL_areGiven_399 rfl ?_
              refine sk_l_iald hK sn_bc_87 dL_areGiven_401 (by omega) (by omega) ?_
              refine sn_q_iadd sn_bc_87 dL_areGiven_402 (by omega) (by omega) ?_
              refine sn_q_icne (t := 418) sn_bc_87 dL_areGiven_403 rfl (fun c_403 => ?_) (fun c_403 => ?_)
              · exfalso
                have hrr : r' = (r : Int) := by
                  rcases hr with ⟨-, z⟩ | ⟨z1, z2, z3⟩
                  · exact absurd rfl (z (r : Int) (by omega) (by omega))
                  · by_cases g1 : r' < (r : Int)
                    · exact absurd z3 (hRk.2.2.2.2.1 r' (r : Int) z1 g1 (by omega))
                    · by_cases g2 : (r : Int) < r'
                      · exact absurd z3.symm (hRk.2.2.2.2.1 (r : Int) r' (by omega) g2 (by omega))
                      · omega
                have hvw := hv _ hw.1 (by omega)
                have hrd : 1 ≤ r → σ 213 (σ 215 (r : Int)) + σ 214 (σ 215 (r : Int)) ≤ σ 213 (σ 215 ((r : Int) - 1)) + σ 214 (σ 215 ((r : Int) - 1)) := fun q => by
                  have := hRk.2.2.2.2.2 ((r : Int) - 1) (by omega) (by omega)
                  rw [show (r : Int) - 1 + 1 = (r : Int) by omega] at this
                  exact this
                first
                  | omega
                  | (rw [hvw.1] at *; omega)
                  | (rw [hvw.1, hvw.2] at *; omega)
              · refine sn_q_iload sn_bc_87 dL_areGiven_406 rfl ?_
                refine sn_q_iflt (t := 420) sn_bc_87 dL_areGiven_408 rfl (fun c_408 => ?_) (fun c_408 => ?_)
                · refine sn_q_iload sn_bc_87 dL_areGiven_420 rfl ?_
                  refine sn_q_ist6 sn_bc_87 dL_areGiven_422 rfl ?_
                  refine sn_q_inc8 sn_bc_87 dL_areGiven_424 rfl (by omega) (by omega) ?_
                  refine sn_q_goto (t := 323) sn_bc_87 dL_areGiven_427 rfl ?_
                  exact ih (r + 1) all _ _ _ n k Y X J K (by omega) hE hJ hK hn hk hv hall hab (Or.inr ⟨by omega, by rw [show ((r + 1 : Nat) : Int) - 1 = (r : Int) by omega]⟩)
                · refine sn_q_iload sn_bc_87 dL_areGiven_411 rfl ?_
                  refine sn_q_iload sn_bc_87 dL_areGiven_413 rfl ?_
                  refine sn_q_icle (t := 420) sn_bc_87 dL_areGiven_415 rfl (fun c_415 => ?_) (fun c_415 => ?_)
                  · refine sn_q_iload sn_bc_87 dL_areGiven_420 rfl ?_
                    refine sn_q_ist6 sn_bc_87 dL_areGiven_422 rfl ?_
                    refine sn_q_inc8 sn_bc_87 dL_areGiven_424 rfl (by omega) (by omega) ?_
                    refine sn_q_goto (t := 323) sn_bc_87 dL_areGiven_427 rfl ?_
                    exact ih (r + 1) all _ _ _ n k Y X J K (by omega) hE hJ hK hn hk hv hall hab (Or.inr ⟨by omega, by rw [show ((r + 1 : Nat) : Int) - 1 = (r : Int) by omega]⟩)
                  · exfalso
                    have hrr : r' = (r : Int) := by
                      rcases hr with ⟨-, z⟩ | ⟨z1, z2, z3⟩
                      · exact absurd rfl (z (r : Int) (by omega) (by omega))
                      · by_cases g1 : r' < (r : Int)
                        · exact absurd z3 (hRk.2.2.2.2.1 r' (r : Int) z1 g1 (by omega))
                        · by_cases g2 : (r : Int) < r'
                          · exact absurd z3.symm (hRk.2.2.2.2.1 (r : Int) r' (by omega) g2 (by omega))
                          · omega
                    have hvw := hv _ hw.1 (by omega)
                    have hrd : 1 ≤ r → σ 213 (σ 215 (r : Int)) + σ 214 (σ 215 (r : Int)) ≤ σ 213 (σ 215 ((r : Int) - 1)) + σ 214 (σ 215 ((r : Int) - 1)) := fun q => by
                      have := hRk.2.2.2.2.2 ((r : Int) - 1) (by omega) (by omega)
                      rw [show (r : Int) - 1 + 1 = (r : Int) by omega] at this
                      exact this
                    first
                      | omega
                      | (rw [hvw.1] at *; omega)
                      | (rw [hvw.1, hvw.2] at *; omega)
  have goL : ∀ (d i : Nat) (all : Int) (g7 g8 g9 g10 : sn_V) (n k : Nat) (Y : Nat → Nat × Nat) (X : Nat → Nat → sn_V) (J K : Int → Int), (i : Int) + d = N → sk_ext n0 Y0 X0 n Y X → sk_ar n Y X (231 + n0) N.toNat J → sk_ar n Y X (231 + (n0 + 1)) N.toNat K → n ≤ n0 + 2 + 7 * i → k ≤ k0 + 12 + 50 * i → sk_gJ σ 83 N i 0 J → sk_gJ σ 198 N i 0 K → all = sn_sum (fun l => sk_gA σ l 8) i → 0 ≤ all ∧ all ≤ 200 * (i : Int) → sn_Wp 87 15 [sn_r 2, sn_i N, sn_i a, sn_r (231 + n0), sn_r (231 + (n0 + 1)), sn_i all, sn_i (i : Int), g7, g8, g9, g10] [] (sn_hh n k Y σ X) Q := by
    intro d
    induction d with
    | zero =>
      intro i all g7 g8 g9 g10 n k Y X J K hd hE hJ hK hn hk hj hkk hall hab
      have hiN : i = N.toNat := by omega
      subst hiN
      have hall := hall.trans (sk_gA_all hI hC hNN)
      refine sn_q_iload sn_bc_87 dL_areGiven_15 rfl ?_
      refine sn_q_iloadn sn_bc_87 dL_areGiven_17 rfl ?_
      refine sn_q_icge (t := 304) sn_bc_87 dL_areGiven_18 rfl (fun c_18 => ?_) (fun c_18 => ?_)
      · refine sn_q_iconst sn_bc_87 dL_areGiven_304 rfl ?_
        refine sn_q_ist6 sn_bc_87 dL_areGiven_305 rfl ?_
        refine sn_q_aloadn sn_bc_87 dL_areGiven_307 rfl ?_
        refine sn_q_iconst sn_bc_87 dL_areGiven_308 rfl ?_
        refine sn_q_invV sn_bc_87 dL_areGiven_309 sn_oc_87 sn_pv_10_33 (by decide) rfl (by decide) (sn_h1 (by decide)) rfl rfl rfl rfl (sk_many3 (sk_ext_YX hE hYX) hI (fun τ hq => ?_))
        rw [hq.2.1 hc]
        refine sn_q_aloadn sn_bc_87 dL_areGiven_312 rfl ?_
        refine sn_q_iconst sn_bc_87 dL_areGiven_313 rfl ?_
        refine sn_q_invV sn_bc_87 dL_areGiven_314 sn_oc_87 sn_pv_10_33 (by decide) rfl (by decide) (sn_h1 (by decide)) rfl rfl rfl rfl (sk_many4 (sk_ext_YX hE hYX) hI (fun τ hq => ?_))
        rw [hq.2.1 hc]
        refine sn_q_isub sn_bc_87 dL_areGiven_317 (by omega) (by omega) ?_
        refine sn_q_ist7 sn_bc_87 dL_areGiven_318 rfl ?_
        refine sn_q_iconst sn_bc_87 dL_areGiven_320 rfl ?_
        refine sn_q_ist8 sn_bc_87 dL_areGiven_321 rfl ?_
        exact goR (σ 212 8).toNat 0 all (-1) _ _ n k Y X J K (by omega) hE hJ hK (by omega) (by omega) (fun s a1 a2 => ⟨sk_gJ_all hI hC hNN (Or.inl rfl) hj a1 a2 (by omega), sk_gJ_all hI hC hNN (Or.inr rfl) hkk a1 a2 (by omega)⟩) hall (by omega) (Or.inl ⟨rfl, rfl⟩)
      · exfalso; omega
    | succ d ih =>
      intro i all g7 g8 g9 g10 n k Y X J K hd hE hJ hK hn hk hj hkk hall hab
      have hlf := (hC.1 (i : Int) (by omega) (by omega)).1
      have hpt := (hC.1 (i : Int) (by omega) (by omega)).2.1
      have goV : ∀ (d x : Nat) (all : Int) (g9 g10 : sn_V) (n k : Nat) (Y : Nat → Nat × Nat) (X : Nat → Nat → sn_V) (J K T : Int → Int) (qT : Nat), 231 + (n0 + 1) < qT → x + d = 13 → 1 ≤ x → sk_ext n0 Y0 X0 n Y X → sk_ar n Y X (231 + n0) N.toNat J → sk_ar n Y X (231 + (n0 + 1)) N.toNat K → sk_ar n Y X qT 13 T → n ≤ n0 + 2 + 7 * (i + 1) → k ≤ k0 + 12 + 50 * (i + 1) → sk_gJ σ 83 N (i + 1) 0 J → sk_gJ σ 198 N (i + 1) 0 K → sk_gT σ i N.toNat T → all = sn_sum (fun l => sk_gA σ l 8) (i + 1) → 0 ≤ all ∧ all ≤ 200 * ((i + 1 : Nat) : Int) → sn_Wp 87 183 [sn_r 2, sn_i N, sn_i a, sn_r (231 + n0), sn_r (231 + (n0 + 1)), sn_i all, sn_i (i : Int), sn_r qT, sn_i (x : Int), g9, g10] [] (sn_hh n k Y σ X) Q := by
        intro d
        induction d with
        | zero =>
          intro x all g9 g10 n k Y X J K T qT hqT hx hx1 hE hJ hK hT hn hk hj hkk ht hall hab
          have hgv := @sn_gv_bd σ (i : Int)
          have hlf' := hlf
          obtain ⟨-, l2, l3, l4, -, -⟩ := hlf
          have h12 : σ 93 (i : Int) = 0 → T 12 = 1 := fun hv => by
            obtain ⟨c2, hc2⟩ := sk_cand (σ := σ) (by have := hI.2.1.2.2.1; omega) (i : Int)
            obtain ⟨c, c0, c8, c12⟩ := sk_pt_12 hlf' hpt hI.2.2.2.1 (by omega) (by omega) hv hc2
            rcases (ht 12 (by decide) (by decide)).2.2 (by decide) with ⟨-, z⟩ | ⟨z, -⟩
            · exfalso
              by_cases g : c < N
              · exact z c c0 (by omega) c12
              · have h10c : σ 10 c = 0 := by
                  by_cases e : σ 10 c = 0
                  · exact e
                  · have := hI.2.1.1 c c0 c8 e; omega
                have := ((sk_vf hC (l := (i : Int)) (by omega) (by omega) c0 c8).2.2 (Or.inr (Or.inl h10c))).1
                omega
            · exact z
          refine sn_q_iload sn_bc_87 dL_areGiven_183 rfl ?_
          refine sn_q_bipush sn_bc_87 dL_areGiven_185 rfl ?_
          refine sn_q_icge (t := 207) sn_bc_87 dL_areGiven_187 rfl (fun c_187 => ?_) (fun c_187 => ?_)
          · refine sn_q_aloadn sn_bc_87 dL_areGiven_207 rfl ?_
            refine sn_q_iload sn_bc_87 dL_areGiven_208 rfl ?_
            refine sn_q_iconst sn_bc_87 dL_areGiven_210 rfl ?_
            refine sn_q_invV sn_bc_87 dL_areGiven_211 sn_oc_87 sn_pv_10_100 (by decide) rfl (by decide) (sn_h1 (by decide)) rfl rfl rfl rfl (sk_ofLand5 (sk_ext_YX hE hYX) hI (by omega) (by omega) (fun τ hq => ?_))
            rw [hq.2.1 hc]
            refine sn_q_iconst sn_bc_87 dL_areGiven_214 rfl ?_
            refine sn_q_icne (t := 222) sn_bc_87 dL_areGiven_215 rfl (fun c_215 => ?_) (fun c_215 => ?_)
            · refine sn_q_iconst sn_bc_87 dL_areGiven_222 rfl ?_
              refine sn_q_ist8 sn_bc_87 dL_areGiven_223 rfl ?_
              refine sn_q_aloadn sn_bc_87 dL_areGiven_225 rfl ?_
              refine sn_q_iload sn_bc_87 dL_areGiven_226 rfl ?_
              refine sn_q_iconst sn_bc_87 dL_areGiven_228 rfl ?_
              refine sn_q_invV sn_bc_87 dL_areGiven_229 sn_oc_87 sn_pv_10_100 (by decide) rfl (by decide) (sn_h1 (by decide)) rfl rfl rfl rfl (sk_ofLand3 (sk_ext_YX hE hYX) hI (by omega) (by omega) (fun τ hq => ?_))
              rw [hq.2.1 hc]
              refine sn_q_iconst sn_bc_87 dL_areGiven_232 rfl ?_
              refine sn_q_icge (t := 241) sn_bc_87 dL_areGiven_233 rfl (fun c_233 => ?_) (fun c_233 => ?_)
              · refine sn_q_iloadn sn_bc_87 dL_areGiven_241 rfl ?_
                refine sn_q_ifne (t := 261) sn_bc_87 dL_areGiven_242 rfl (fun c_242 => ?_) (fun c_242 => ?_)
                · refine sn_q_iload sn_bc_87 dL_areGiven_261 rfl ?_
                  refine sn_q_ifne (t := 275) sn_bc_87 dL_areGiven_263 rfl (fun c => absurd c (by decide)) (fun _ => ?_)
                  refine sn_q_aload sn_bc_87 dL_areGiven_266 rfl ?_
                  refine sn_q_bipush sn_bc_87 dL_areGiven_268 rfl ?_
                  refine sk_l_iald hT sn_bc_87 dL_areGiven_270 (by omega) (by omega) ?_
                  refine sn_q_iconst sn_bc_87 dL_areGiven_271 rfl ?_
                  refine sn_q_icne (t := 296) sn_bc_87 dL_areGiven_272 rfl (fun c_272 => ?_) (fun c_272 => ?_)
                  · exfalso
                    by_cases hv0 : σ 93 (i : Int) = 0
                    · have h12 := h12 hv0
                      (try rw [if_pos hv0] at *)
                      omega
                    · (try rw [if_neg hv0] at *)
                      have l3a := hA
                      by_cases ha0 : a = 0
                      · have := l4 (hA ha0) hv0
                        omega
                      · omega
                  · refine sn_q_aloadn sn_bc_87 dL_areGiven_275 rfl ?_
                    refine sn_q_iload sn_bc_87 dL_areGiven_276 rfl ?_
                    refine sn_q_iconst sn_bc_87 dL_areGiven_278 rfl ?_
                    refine sn_q_invV sn_bc_87 dL_areGiven_279 sn_oc_87 sn_pv_10_100 (by decide) rfl (by decide) (sn_h1 (by decide)) rfl rfl rfl rfl (sk_ofLand4 (sk_ext_YX hE hYX) hI (by omega) (by omega) (fun τ hq => ?_))
                    rw [hq.2.1 hc]
                    refine sn_q_iflt (t := 298) sn_bc_87 dL_areGiven_282 rfl (fun c_282 => ?_) (fun c_282 => ?_)
                    · refine sn_q_inc6 sn_bc_87 dL_areGiven_298 rfl (by omega) (by omega) ?_
                      refine sn_q_goto (t := 15) sn_bc_87 dL_areGiven_301 rfl ?_
                      exact ih (i + 1) all _ _ _ _ n k Y X J K (by omega) hE hJ hK hn hk hj hkk hall hab
                    · refine sn_q_aloadn sn_bc_87 dL_areGiven_285 rfl ?_
                      refine sn_q_iload sn_bc_87 dL_areGiven_286 rfl ?_
                      refine sn_q_iconst sn_bc_87 dL_areGiven_288 rfl ?_
                      refine sn_q_invV sn_bc_87 dL_areGiven_289 sn_oc_87 sn_pv_10_100 (by decide) rfl (by decide) (sn_h1 (by decide)) rfl rfl rfl rfl (sk_ofLand3 (sk_ext_YX hE hYX) hI (by omega) (by omega) (fun τ hq => ?_))
                      rw [hq.2.1 hc]
                      refine sn_q_iconst sn_bc_87 dL_areGiven_292 rfl ?_
                      refine sn_q_icge (t := 298) sn_bc_87 dL_areGiven_293 rfl (fun c_293 => ?_) (fun c_293 => ?_)
                      · refine sn_q_inc6 sn_bc_87 dL_areGiven_298 rfl (by omega) (by omega) ?_
                        refine sn_q_goto (t := 15) sn_bc_87 dL_areGiven_301 rfl ?_
                        exact ih (i + 1) all _ _ _ _ n k Y X J K (by omega) hE hJ hK hn hk hj hkk hall hab
                      · exfalso
                        by_cases hv0 : σ 93 (i : Int) = 0
                        · have h12 := h12 hv0
                          (try rw [if_pos hv0] at *)
                          omega
                        · (try rw [if_neg hv0] at *)
                          have l3a := hA
                          by_cases ha0 : a = 0
                          · have := l4 (hA ha0) hv0
                            omega
                          · omega
                · refine sn_q_iload sn_bc_87 dL_areGiven_245 rfl ?_
                  refine sn_q_ifeq (t := 261) sn_bc_87 dL_areGiven_247 rfl (fun _ => ?_) (fun c => absurd (by decide) c)
                  refine sn_q_iload sn_bc_87 dL_areGiven_261 rfl ?_
                  refine sn_q_ifne (t := 275) sn_bc_87 dL_areGiven_263 rfl (fun c => absurd c (by decide)) (fun _ => ?_)
                  refine sn_q_aload sn_bc_87 dL_areGiven_266 rfl ?_
                  refine sn_q_bipush sn_bc_87 dL_areGiven_268 rfl ?_
                  refine sk_l_iald hT sn_bc_87 dL_areGiven_270 (by omega) (by omega) ?_
                  refine sn_q_iconst sn_bc_87 dL_areGiven_271 rfl ?_
                  refine sn_q_icne (t := 296) sn_bc_87 dL_areGiven_272 rfl (fun c_272 => ?_) (fun c_272 => ?_)
                  · exfalso
                    by_cases hv0 : σ 93 (i : Int) = 0
                    · have h12 := h12 hv0
                      (try rw [if_pos hv0] at *)
                      omega
                    · (try rw [if_neg hv0] at *)
                      have l3a := hA
                      by_cases ha0 : a = 0
                      · have := l4 (hA ha0) hv0
                        omega
                      · omega
                  · refine sn_q_aloadn sn_bc_87 dL_areGiven_275 rfl ?_
                    refine sn_q_iload sn_bc_87 dL_areGiven_276 rfl ?_
                    refine sn_q_iconst sn_bc_87 dL_areGiven_278 rfl ?_
                    refine sn_q_invV sn_bc_87 dL_areGiven_279 sn_oc_87 sn_pv_10_100 (by decide) rfl (by decide) (sn_h1 (by decide)) rfl rfl rfl rfl (sk_ofLand4 (sk_ext_YX hE hYX) hI (by omega) (by omega) (fun τ hq => ?_))
                    rw [hq.2.1 hc]
                    refine sn_q_iflt (t := 298) sn_bc_87 dL_areGiven_282 rfl (fun c_282 => ?_) (fun c_282 => ?_)
                    · refine sn_q_inc6 sn_bc_87 dL_areGiven_298 rfl (by omega) (by omega) ?_
                      refine sn_q_goto (t := 15) sn_bc_87 dL_areGiven_301 rfl ?_
                      exact ih (i + 1) all _ _ _ _ n k Y X J K (by omega) hE hJ hK hn hk hj hkk hall hab
                    · refine sn_q_aloadn sn_bc_87 dL_areGiven_285 rfl ?_
                      refine sn_q_iload sn_bc_87 dL_areGiven_286 rfl ?_
                      refine sn_q_iconst sn_bc_87 dL_areGiven_288 rfl ?_
                      refine sn_q_invV sn_bc_87 dL_areGiven_289 sn_oc_87 sn_pv_10_100 (by decide) rfl (by decide) (sn_h1 (by decide)) rfl rfl rfl rfl (sk_ofLand3 (sk_ext_YX hE hYX) hI (by omega) (by omega) (fun τ hq => ?_))
                      rw [hq.2.1 hc]
                      refine sn_q_iconst sn_bc_87 dL_areGiven_292 rfl ?_
                      refine sn_q_icge (t := 298) sn_bc_87 dL_areGiven_293 rfl (fun c_293 => ?_) (fun c_293 => ?_)
                      · refine sn_q_inc6 sn_bc_87 dL_areGiven_298 rfl (by omega) (by omega) ?_
                        refine sn_q_goto (t := 15) sn_bc_87 dL_areGiven_301 rfl ?_
                        exact ih (i + 1) all _ _ _ _ n k Y X J K (by omega) hE hJ hK hn hk hj hkk hall hab
                      · exfalso
                        by_cases hv0 : σ 93 (i : Int) = 0
                        · have h12 := h12 hv0
                          (try rw [if_pos hv0] at *)
                          omega
                        · (try rw [if_neg hv0] at *)
                          have l3a := hA
                          by_cases ha0 : a = 0
                          · have := l4 (hA ha0) hv0
                            omega
                          · omega
              · refine sn_q_iload sn_bc_87 dL_areGiven_236 rfl ?_
                refine sn_q_ifeq (t := 296) sn_bc_87 dL_areGiven_238 rfl (fun _ => ?_) (fun c => absurd (by decide) c)
                exfalso
                by_cases hv0 : σ 93 (i : Int) = 0
                · have h12 := h12 hv0
                  (try rw [if_pos hv0] at *)
                  omega
                · (try rw [if_neg hv0] at *)
                  have l3a := hA
                  by_cases ha0 : a = 0
                  · have := l4 (hA ha0) hv0
                    omega
                  · omega
            · refine sn_q_iconst sn_bc_87 dL_areGiven_218 rfl ?_
              refine sn_q_goto (t := 223) sn_bc_87 dL_areGiven_219 rfl ?_
              refine sn_q_ist8 sn_bc_87 dL_areGiven_223 rfl ?_
              refine sn_q_aloadn sn_bc_87 dL_areGiven_225 rfl ?_
              refine sn_q_iload sn_bc_87 dL_areGiven_226 rfl ?_
              refine sn_q_iconst sn_bc_87 dL_areGiven_228 rfl ?_
              refine sn_q_invV sn_bc_87 dL_areGiven_229 sn_oc_87 sn_pv_10_100 (by decide) rfl (by decide) (sn_h1 (by decide)) rfl rfl rfl rfl (sk_ofLand3 (sk_ext_YX hE hYX) hI (by omega) (by omega) (fun τ hq => ?_))
              rw [hq.2.1 hc]
              refine sn_q_iconst sn_bc_87 dL_areGiven_232 rfl ?_
              refine sn_q_icge (t := 241) sn_bc_87 dL_areGiven_233 rfl (fun c_233 => ?_) (fun c_233 => ?_)
              · refine sn_q_iloadn sn_bc_87 dL_areGiven_241 rfl ?_
                refine sn_q_ifne (t := 261) sn_bc_87 dL_areGiven_242 rfl (fun c_242 => ?_) (fun c_242 => ?_)
                · refine sn_q_iload sn_bc_87 dL_areGiven_261 rfl ?_
                  refine sn_q_ifne (t := 275) sn_bc_87 dL_areGiven_263 rfl (fun _ => ?_) (fun c => absurd (by decide) c)
                  refine sn_q_aloadn sn_bc_87 dL_areGiven_275 rfl ?_
                  refine sn_q_iload sn_bc_87 dL_areGiven_276 rfl ?_
                  refine sn_q_iconst sn_bc_87 dL_areGiven_278 rfl ?_
                  refine sn_q_invV sn_bc_87 dL_areGiven_279 sn_oc_87 sn_pv_10_100 (by decide) rfl (by decide) (sn_h1 (by decide)) rfl rfl rfl rfl (sk_ofLand4 (sk_ext_YX hE hYX) hI (by omega) (by omega) (fun τ hq => ?_))
                  rw [hq.2.1 hc]
                  refine sn_q_iflt (t := 298) sn_bc_87 dL_areGiven_282 rfl (fun c_282 => ?_) (fun c_282 => ?_)
                  · refine sn_q_inc6 sn_bc_87 dL_areGiven_298 rfl (by omega) (by omega) ?_
                    refine sn_q_goto (t := 15) sn_bc_87 dL_areGiven_301 rfl ?_
                    exact ih (i + 1) all _ _ _ _ n k Y X J K (by omega) hE hJ hK hn hk hj hkk hall hab
                  · refine sn_q_aloadn sn_bc_87 dL_areGiven_285 rfl ?_
                    refine sn_q_iload sn_bc_87 dL_areGiven_286 rfl ?_
                    refine sn_q_iconst sn_bc_87 dL_areGiven_288 rfl ?_
                    refine sn_q_invV sn_bc_87 dL_areGiven_289 sn_oc_87 sn_pv_10_100 (by decide) rfl (by decide) (sn_h1 (by decide)) rfl rfl rfl rfl (sk_ofLand3 (sk_ext_YX hE hYX) hI (by omega) (by omega) (fun τ hq => ?_))
                    rw [hq.2.1 hc]
                    refine sn_q_iconst sn_bc_87 dL_areGiven_292 rfl ?_
                    refine sn_q_icge (t := 298) sn_bc_87 dL_areGiven_293 rfl (fun c_293 => ?_) (fun c_293 => ?_)
                    · refine sn_q_inc6 sn_bc_87 dL_areGiven_298 rfl (by omega) (by omega) ?_
                      refine sn_q_goto (t := 15) sn_bc_87 dL_areGiven_301 rfl ?_
                      exact ih (i + 1) all _ _ _ _ n k Y X J K (by omega) hE hJ hK hn hk hj hkk hall hab
                    · exfalso
                      by_cases hv0 : σ 93 (i : Int) = 0
                      · have h12 := h12 hv0
                        (try rw [if_pos hv0] at *)
                        omega
                      · (try rw [if_neg hv0] at *)
                        have l3a := hA
                        by_cases ha0 : a = 0
                        · have := l4 (hA ha0) hv0
                          omega
                        · omega
                · refine sn_q_iload sn_bc_87 dL_areGiven_245 rfl ?_
                  refine sn_q_ifeq (t := 261) sn_bc_87 dL_areGiven_247 rfl (fun c => absurd c (by decide)) (fun _ => ?_)
                  refine sn_q_aloadn sn_bc_87 dL_areGiven_250 rfl ?_
                  refine sn_q_iload sn_bc_87 dL_areGiven_251 rfl ?_
                  refine sn_q_iconst sn_bc_87 dL_areGiven_253 rfl ?_
                  refine sn_q_invV sn_bc_87 dL_areGiven_254 sn_oc_87 sn_pv_10_100 (by decide) rfl (by decide) (sn_h1 (by decide)) rfl rfl rfl rfl (sk_ofLand3 (sk_ext_YX hE hYX) hI (by omega) (by omega) (fun τ hq => ?_))
                  rw [hq.2.1 hc]
                  refine sn_q_iconst sn_bc_87 dL_areGiven_257 rfl ?_
                  refine sn_q_icgt (t := 296) sn_bc_87 dL_areGiven_258 rfl (fun c_258 => ?_) (fun c_258 => ?_)
                  · exfalso
                    by_cases hv0 : σ 93 (i : Int) = 0
                    · have h12 := h12 hv0
                      (try rw [if_pos hv0] at *)
                      omega
                    · (try rw [if_neg hv0] at *)
                      have l3a := hA
                      by_cases ha0 : a = 0
                      · have := l4 (hA ha0) hv0
                        omega
                      · omega
                  · refine sn_q_iload sn_bc_87 dL_areGiven_261 rfl ?_
                    refine sn_q_ifne (t := 275) sn_bc_87 dL_areGiven_263 rfl (fun _ => ?_) (fun c => absurd (by decide) c)
                    refine sn_q_aloadn sn_bc_87 dL_areGiven_275 rfl ?_
                    refine sn_q_iload sn_bc_87 dL_areGiven_276 rfl ?_
                    refine sn_q_iconst sn_bc_87 dL_areGiven_278 rfl ?_
                    refine sn_q_invV sn_bc_87 dL_areGiven_279 sn_oc_87 sn_pv_10_100 (by decide) rfl (by decide) (sn_h1 (by decide)) rfl rfl rfl rfl (sk_ofLand4 (sk_ext_YX hE hYX) hI (by omega) (by omega) (fun τ hq => ?_))
                    rw [hq.2.1 hc]
                    refine sn_q_iflt (t := 298) sn_bc_87 dL_areGiven_282 rfl (fun c_282 => ?_) (fun c_282 => ?_)
                    · refine sn_q_inc6 sn_bc_87 dL_areGiven_298 rfl (by omega) (by omega) ?_
                      refine sn_q_goto (t := 15) sn_bc_87 dL_areGiven_301 rfl ?_
                      exact ih (i + 1) all _ _ _ _ n k Y X J K (by omega) hE hJ hK hn hk hj hkk hall hab
                    · refine sn_q_aloadn sn_bc_87 dL_areGiven_285 rfl ?_
                      refine sn_q_iload sn_bc_87 dL_areGiven_286 rfl ?_
                      refine sn_q_iconst sn_bc_87 dL_areGiven_288 rfl ?_
                      refine sn_q_invV sn_bc_87 dL_areGiven_289 sn_oc_87 sn_pv_10_100 (by decide) rfl (by decide) (sn_h1 (by decide)) rfl rfl rfl rfl (sk_ofLand3 (sk_ext_YX hE hYX) hI (by omega) (by omega) (fun τ hq => ?_))
                      rw [hq.2.1 hc]
                      refine sn_q_iconst sn_bc_87 dL_areGiven_292 rfl ?_
                      refine sn_q_icge (t := 298) sn_bc_87 dL_areGiven_293 rfl (fun c_293 => ?_) (fun c_293 => ?_)
                      · refine sn_q_inc6 sn_bc_87 dL_areGiven_298 rfl (by omega) (by omega) ?_
                        refine sn_q_goto (t := 15) sn_bc_87 dL_areGiven_301 rfl ?_
                        exact ih (i + 1) all _ _ _ _ n k Y X J K (by omega) hE hJ hK hn hk hj hkk hall hab
                      · exfalso
                        by_cases hv0 : σ 93 (i : Int) = 0
                        · have h12 := h12 hv0
                          (try rw [if_pos hv0] at *)
                          omega
                        · (try rw [if_neg hv0] at *)
                          have l3a := hA
                          by_cases ha0 : a = 0
                          · have := l4 (hA ha0) hv0
                            omega
                          · omega
              · refine sn_q_iload sn_bc_87 dL_areGiven_236 rfl ?_
                refine sn_q_ifeq (t := 296) sn_bc_87 dL_areGiven_238 rfl (fun c => absurd c (by decide)) (fun _ => ?_)
                refine sn_q_iloadn sn_bc_87 dL_areGiven_241 rfl ?_
                refine sn_q_ifne (t := 261) sn_bc_87 dL_areGiven_242 rfl (fun c_242 => ?_) (fun c_242 => ?_)
                · refine sn_q_iload sn_bc_87 dL_areGiven_261 rfl ?_
                  refine sn_q_ifne (t := 275) sn_bc_87 dL_areGiven_263 rfl (fun _ => ?_) (fun c => absurd (by decide) c)
                  refine sn_q_aloadn sn_bc_87 dL_areGiven_275 rfl ?_
                  refine sn_q_iload sn_bc_87 dL_areGiven_276 rfl ?_
                  refine sn_q_iconst sn_bc_87 dL_areGiven_278 rfl ?_
                  refine sn_q_invV sn_bc_87 dL_areGiven_279 sn_oc_87 sn_pv_10_100 (by decide) rfl (by decide) (sn_h1 (by decide)) rfl rfl rfl rfl (sk_ofLand4 (sk_ext_YX hE hYX) hI (by omega) (by omega) (fun τ hq => ?_))
                  rw [hq.2.1 hc]
                  refine sn_q_iflt (t := 298) sn_bc_87 dL_areGiven_282 rfl (fun c_282 => ?_) (fun c_282 => ?_)
                  · refine sn_q_inc6 sn_bc_87 dL_areGiven_298 rfl (by omega) (by omega) ?_
                    refine sn_q_goto (t := 15) sn_bc_87 dL_areGiven_301 rfl ?_
                    exact ih (i + 1) all _ _ _ _ n k Y X J K (by omega) hE hJ hK hn hk hj hkk hall hab
                  · refine sn_q_aloadn sn_bc_87 dL_areGiven_285 rfl ?_
                    refine sn_q_iload sn_bc_87 dL_areGiven_286 rfl ?_
                    refine sn_q_iconst sn_bc_87 dL_areGiven_288 rfl ?_
                    refine sn_q_invV sn_bc_87 dL_areGiven_289 sn_oc_87 sn_pv_10_100 (by decide) rfl (by decide) (sn_h1 (by decide)) rfl rfl rfl rfl (sk_ofLand3 (sk_ext_YX hE hYX) hI (by omega) (by omega) (fun τ hq => ?_))
                    rw [hq.2.1 hc]
                    refine sn_q_iconst sn_bc_87 dL_areGiven_292 rfl ?_
                    refine sn_q_icge (t := 298) sn_bc_87 dL_areGiven_293 rfl (fun c_293 => ?_) (fun c_293 => ?_)
                    · refine sn_q_inc6 sn_bc_87 dL_areGiven_298 rfl (by omega) (by omega) ?_
                      refine sn_q_goto (t := 15) sn_bc_87 dL_areGiven_301 rfl ?_
                      exact ih (i + 1) all _ _ _ _ n k Y X J K (by omega) hE hJ hK hn hk hj hkk hall hab
                    · exfalso
                      by_cases hv0 : σ 93 (i : Int) = 0
                      · have h12 := h12 hv0
                        (try rw [if_pos hv0] at *)
                        omega
                      · (try rw [if_neg hv0] at *)
                        have l3a := hA
                        by_cases ha0 : a = 0
                        · have := l4 (hA ha0) hv0
                          omega
                        · omega
                · refine sn_q_iload sn_bc_87 dL_areGiven_245 rfl ?_
                  refine sn_q_ifeq (t := 261) sn_bc_87 dL_areGiven_247 rfl (fun c => absurd c (by decide)) (fun _ => ?_)
                  refine sn_q_aloadn sn_bc_87 dL_areGiven_250 rfl ?_
                  refine sn_q_iload sn_bc_87 dL_areGiven_251 rfl ?_
                  refine sn_q_iconst sn_bc_87 dL_areGiven_253 rfl ?_
                  refine sn_q_invV sn_bc_87 dL_areGiven_254 sn_oc_87 sn_pv_10_100 (by decide) rfl (by decide) (sn_h1 (by decide)) rfl rfl rfl rfl (sk_ofLand3 (sk_ext_YX hE hYX) hI (by omega) (by omega) (fun τ hq => ?_))
                  rw [hq.2.1 hc]
                  refine sn_q_iconst sn_bc_87 dL_areGiven_257 rfl ?_
                  refine sn_q_icgt (t := 296) sn_bc_87 dL_areGiven_258 rfl (fun c_258 => ?_) (fun c_258 => ?_)
                  · exfalso
                    by_cases hv0 : σ 93 (i : Int) = 0
                    · have h12 := h12 hv0
                      (try rw [if_pos hv0] at *)
                      omega
                    · (try rw [if_neg hv0] at *)
                      have l3a := hA
                      by_cases ha0 : a = 0
                      · have := l4 (hA ha0) hv0
                        omega
                      · omega
                  · refine sn_q_iload sn_bc_87 dL_areGiven_261 rfl ?_
                    refine sn_q_ifne (t := 275) sn_bc_87 dL_areGiven_263 rfl (fun _ => ?_) (fun c => absurd (by decide) c)
                    refine sn_q_aloadn sn_bc_87 dL_areGiven_275 rfl ?_
                    refine sn_q_iload sn_bc_87 dL_areGiven_276 rfl ?_
                    refine sn_q_iconst sn_bc_87 dL_areGiven_278 rfl ?_
                    refine sn_q_invV sn_bc_87 dL_areGiven_279 sn_oc_87 sn_pv_10_100 (by decide) rfl (by decide) (sn_h1 (by decide)) rfl rfl rfl rfl (sk_ofLand4 (sk_ext_YX hE hYX) hI (by omega) (by omega) (fun τ hq => ?_))
                    rw [hq.2.1 hc]
                    refine sn_q_iflt (t := 298) sn_bc_87 dL_areGiven_282 rfl (fun c_282 => ?_) (fun c_282 => ?_)
                    · refine sn_q_inc6 sn_bc_87 dL_areGiven_298 rfl (by omega) (by omega) ?_
                      refine sn_q_goto (t := 15) sn_bc_87 dL_areGiven_301 rfl ?_
                      exact ih (i + 1) all _ _ _ _ n k Y X J K (by omega) hE hJ hK hn hk hj hkk hall hab
                    · refine sn_q_aloadn sn_bc_87 dL_areGiven_285 rfl ?_
                      refine sn_q_iload sn_bc_87 dL_areGiven_286 rfl ?_
                      refine sn_q_iconst sn_bc_87 dL_areGiven_288 rfl ?_
                      refine sn_q_invV sn_bc_87 dL_areGiven_289 sn_oc_87 sn_pv_10_100 (by decide) rfl (by decide) (sn_h1 (by decide)) rfl rfl rfl rfl (sk_ofLand3 (sk_ext_YX hE hYX) hI (by omega) (by omega) (fun τ hq => ?_))
                      rw [hq.2.1 hc]
                      refine sn_q_iconst sn_bc_87 dL_areGiven_292 rfl ?_
                      refine sn_q_icge (t := 298) sn_bc_87 dL_areGiven_293 rfl (fun c_293 => ?_) (fun c_293 => ?_)
                      · refine sn_q_inc6 sn_bc_87 dL_areGiven_298 rfl (by omega) (by omega) ?_
                        refine sn_q_goto (t := 15) sn_bc_87 dL_areGiven_301 rfl ?_
                        exact ih (i + 1) all _ _ _ _ n k Y X J K (by omega) hE hJ hK hn hk hj hkk hall hab
                      · exfalso
                        by_cases hv0 : σ 93 (i : Int) = 0
                        · have h12 := h12 hv0
                          (try rw [if_pos hv0] at *)
                          omega
                        · (try rw [if_neg hv0] at *)
                          have l3a := hA
                          by_cases ha0 : a = 0
                          · have := l4 (hA ha0) hv0
                            omega
                          · omega
          · exfalso; omega
        | succ d ihv =>
          intro x all g9 g10 n k Y X J K T qT hqT hx hx1 hE hJ hK hT hn hk hj hkk ht hall hab
          have htx := ht (x : Int) (by omega) (by omega)
          have htx1 := htx.2.2 (by omega)
          refine sn_q_iload sn_bc_87 dL_areGiven_183 rfl ?_
          refine sn_q_bipush sn_bc_87 dL_areGiven_185 rfl ?_
          refine sn_q_icge (t := 207) sn_bc_87 dL_areGiven_187 rfl (fun c_187 => ?_) (fun c_187 => ?_)
          · exfalso; omega
          · refine sn_q_aload sn_bc_87 dL_areGiven_190 rfl ?_
            refine sn_q_iload sn_bc_87 dL_areGiven_192 rfl ?_
            refine sk_l_iald hT sn_bc_87 dL_areGiven_194 (by omega) (by omega) ?_
            refine sn_q_iconst sn_bc_87 dL_areGiven_195 rfl ?_
            refine sn_q_icle (t := 201) sn_bc_87 dL_areGiven_196 rfl (fun c_196 => ?_) (fun c_196 => ?_)
            · refine sn_q_inc8 sn_bc_87 dL_areGiven_201 rfl (by omega) (by omega) ?_
              refine sn_q_goto (t := 183) sn_bc_87 dL_areGiven_204 rfl ?_
              exact ihv (x + 1) all _ _ n k Y X J K T qT hqT (by omega) (by omega) hE hJ hK hT hn hk hj hkk ht hall hab
            · exfalso; omega
      have goS : ∀ (d j : Nat) (all : Int) (g9 g10 : sn_V) (n k : Nat) (Y : Nat → Nat × Nat) (X : Nat → Nat → sn_V) (J K T : Int → Int) (qT : Nat), 231 + (n0 + 1) < qT → (j : Int) + d = N → sk_ext n0 Y0 X0 n Y X → sk_ar n Y X (231 + n0) N.toNat J → sk_ar n Y X (231 + (n0 + 1)) N.toNat K → sk_ar n Y X qT 13 T → n ≤ n0 + 2 + 7 * i + 1 + j → k ≤ k0 + 12 + 50 * i + 13 + 6 * j → sk_gJ σ 83 N i j J → sk_gJ σ 198 N i j K → sk_gT σ i j T → all = sn_sum (fun l => sk_gA σ l 8) i + sk_gA σ (i : Int) j → 0 ≤ all ∧ all ≤ 200 * (i : Int) + 24 * (j : Int) → sn_Wp 87 30 [sn_r 2, sn_i N, sn_i a, sn_r (231 + n0), sn_r (231 + (n0 + 1)), sn_i all, sn_i (i : Int), sn_r qT, sn_i (j : Int), g9, g10] [] (sn_hh n k Y σ X) Q := by
        intro d
        induction d with
        | zero =>
          intro j all g9 g10 n k Y X J K T qT hqT hd2 hE hJ hK hT hn hk hj hkk ht hall hab
          have ht' : sk_gT σ i N.toNat T := by rw [show N.toNat = j by omega]; exact ht
          have hA9 : sk_gA σ (i : Int) 8 = sk_gA σ (i : Int) j := by
            have := sk_sum_up (f := fun s => σ (83 + (i : Int)) s + σ (198 + (i : Int)) s) j (8 - j) (fun s s1 s2 => by
              have h10 : σ 10 (s : Int) = 0 := by
                by_cases e : σ 10 (s : Int) = 0
                · exact e
                · have := hI.2.1.1 (s : Int) (by omega) (by omega) e; omega
              have := (sk_vf hC (l := (i : Int)) (by omega) (by omega) (s := (s : Int)) (by omega) (by omega)).2.2 (Or.inr (Or.inl h10))
              omega)
            rw [show j + (8 - j) = 8 by omega] at this
            exact this
          refine sn_q_iload sn_bc_87 dL_areGiven_30 rfl ?_
          refine sn_q_iloadn sn_bc_87 dL_areGiven_32 rfl ?_
          refine sn_q_icge (t := 180) sn_bc_87 dL_areGiven_33 rfl (fun c_33 => ?_) (fun c_33 => ?_)
          · refine sn_q_iconst sn_bc_87 dL_areGiven_180 rfl ?_
            refine sn_q_ist8 sn_bc_87 dL_areGiven_181 rfl ?_
            exact goV 12 1 all _ _ n k Y X J K T qT hqT (by omega) (by omega) hE hJ hK hT (by omega) (by omega) (sk_gJ_n hj (by omega)) (sk_gJ_n hkk (by omega)) ht' (by rw [hall, ← hA9]; rfl) (by omega)
          · exfalso; omega
        | succ d ihs =>
          intro j all g9 g10 n k Y X J K T qT hqT hd2 hE hJ hK hT hn hk hj hkk ht hall hab
          have hvf := sk_vf hC (l := (i : Int)) (by omega) (by omega) (s := (j : Int)) (by omega) (by omega)
          obtain ⟨f1, f2, f3⟩ := hvf
          have hJb := sk_gJ_bd hj (by omega) (by omega) hb12 (Or.inl rfl) (s := (j : Int)) (by omega) (by omega)
          have hKb := sk_gJ_bd hkk (by omega) (by omega) hb12 (Or.inr rfl) (s := (j : Int)) (by omega) (by omega)
          have hTb := ht (σ (83 + (i : Int)) (j : Int)) (by omega) (by omega)
          have hall' : sk_gA σ (i : Int) (j + 1) = sk_gA σ (i : Int) j + (σ (83 + (i : Int)) (j : Int) + σ (198 + (i : Int)) (j : Int)) := rfl
          refine sn_q_iload sn_bc_87 dL_areGiven_30 rfl ?_
          refine sn_q_iloadn sn_bc_87 dL_areGiven_32 rfl ?_
          refine sn_q_icge (t := 180) sn_bc_87 dL_areGiven_33 rfl (fun c_33 => ?_) (fun c_33 => ?_)
          · exfalso; omega
          · refine sn_q_aloadn sn_bc_87 dL_areGiven_36 rfl ?_
            refine sn_q_iload sn_bc_87 dL_areGiven_37 rfl ?_
            refine sk_l_has (sk_ext_YX hE hYX) hI hc (by omega) (by omega) sn_bc_87 dL_areGiven_39 sn_oc_87 sn_px_10_92 sn_ps_10_92 rfl (fun h10 => ?_) (fun h10 Y1 X1 he => ?_)
            · refine sn_q_ifne (t := 48) sn_bc_87 dL_areGiven_42 rfl (fun _ => ?_) (fun c => absurd (by decide) c)
              refine sn_q_aloadn sn_bc_87 dL_areGiven_48 rfl ?_
              refine sn_q_iload sn_bc_87 dL_areGiven_49 rfl ?_
              refine sn_q_iload sn_bc_87 dL_areGiven_51 rfl ?_
              refine sn_q_iconst sn_bc_87 dL_areGiven_53 rfl ?_
              refine sn_q_invV sn_bc_87 dL_areGiven_54 sn_oc_87 sn_pv_10_96 (by decide) rfl (by decide) (sn_h1 (by decide)) rfl rfl rfl rfl (sk_gives_j (sk_ext_YX hE hYX) hI (by omega) (by omega) (by omega) (by omega) h10 (fun τ hq => ?_))
              rw [hq.2.1 hc]
              refine sn_q_ist9 sn_bc_87 dL_areGiven_57 rfl ?_
              refine sn_q_aloadn sn_bc_87 dL_areGiven_59 rfl ?_
              refine sn_q_iload sn_bc_87 dL_areGiven_60 rfl ?_
              refine sn_q_iload sn_bc_87 dL_areGiven_62 rfl ?_
              refine sn_q_iconst sn_bc_87 dL_areGiven_64 rfl ?_
              refine sn_q_invV sn_bc_87 dL_areGiven_65 sn_oc_87 sn_pv_10_96 (by decide) rfl (by decide) (sn_h1 (by decide)) rfl rfl rfl rfl (sk_gives_p (sk_ext_YX hE hYX) hI (by omega) (by omega) (by omega) (by omega) h10 (fun τ hq => ?_))
              rw [hq.2.1 hc]
              refine sn_q_ist10 sn_bc_87 dL_areGiven_68 rfl ?_
              refine sn_q_iload sn_bc_87 dL_areGiven_70 rfl ?_
              refine sn_q_iflt (t := 134) sn_bc_87 dL_areGiven_72 rfl (fun c_72 => ?_) (fun c_72 => ?_)
              · exfalso
                first
                  | omega
                  | (clear hTb f3; omega)
                  | (have f3 := f3 (Or.inl (by omega)); clear hTb; omega)
                  | (clear hTb; split at he4 <;> omega)
              · refine sn_q_iload sn_bc_87 dL_areGiven_75 rfl ?_
                refine sn_q_bipush sn_bc_87 dL_areGiven_77 rfl ?_
                refine sn_q_icgt (t := 134) sn_bc_87 dL_areGiven_79 rfl (fun c_79 => ?_) (fun c_79 => ?_)
                · exfalso
                  first
                    | omega
                    | (clear hTb f3; omega)
                    | (have f3 := f3 (Or.inl (by omega)); clear hTb; omega)
                    | (clear hTb; split at he4 <;> omega)
                · refine sn_q_iload sn_bc_87 dL_areGiven_82 rfl ?_
                  refine sn_q_bipush sn_bc_87 dL_areGiven_84 rfl ?_
                  refine sn_q_iceq (t := 134) sn_bc_87 dL_areGiven_86 rfl (fun c_86 => ?_) (fun c_86 => ?_)
                  · exfalso
                    first
                      | omega
                      | (clear hTb f3; omega)
                      | (have f3 := f3 (Or.inl (by omega)); clear hTb; omega)
                      | (clear hTb; split at he4 <;> omega)
                  · refine sn_q_iload sn_bc_87 dL_areGiven_89 rfl ?_
                    refine sn_q_bipush sn_bc_87 dL_areGiven_91 rfl ?_
                    refine sn_q_iceq (t := 134) sn_bc_87 dL_areGiven_93 rfl (fun c_93 => ?_) (fun c_93 => ?_)
                    · exfalso
                      first
                        | omega
                        | (clear hTb f3; omega)
                        | (have f3 := f3 (Or.inl (by omega)); clear hTb; omega)
                        | (clear hTb; split at he4 <;> omega)
                    · refine sn_q_iload sn_bc_87 dL_areGiven_96 rfl ?_
                      refine sn_q_iflt (t := 134) sn_bc_87 dL_areGiven_98 rfl (fun c_98 => ?_) (fun c_98 => ?_)
                      · exfalso
                        first
                          | omega
                          | (clear hTb f3; omega)
                          | (have f3 := f3 (Or.inl (by omega)); clear hTb; omega)
                          | (clear hTb; split at he4 <;> omega)
                      · refine sn_q_iload sn_bc_87 dL_areGiven_101 rfl ?_
                        refine sn_q_bipush sn_bc_87 dL_areGiven_103 rfl ?_
                        refine sn_q_icgt (t := 134) sn_bc_87 dL_areGiven_105 rfl (fun c_105 => ?_) (fun c_105 => ?_)
                        · exfalso
                          first
                            | omega
                            | (clear hTb f3; omega)
                            | (have f3 := f3 (Or.inl (by omega)); clear hTb; omega)
                            | (clear hTb; split at he4 <;> omega)
                        · refine sn_q_iload sn_bc_87 dL_areGiven_108 rfl ?_
                          refine sn_q_iload sn_bc_87 dL_areGiven_110 rfl ?_
                          refine sn_q_iceq (t := 126) sn_bc_87 dL_areGiven_112 rfl (fun c_112 => ?_) (fun c_112 => ?_)
                          · refine sn_q_iload sn_bc_87 dL_areGiven_126 rfl ?_
                            refine sn_q_iload sn_bc_87 dL_areGiven_128 rfl ?_
                            refine sn_q_iadd sn_bc_87 dL_areGiven_130 (by omega) (by omega) ?_
                            refine sn_q_ifle (t := 136) sn_bc_87 dL_areGiven_131 rfl (fun c_131 => ?_) (fun c_131 => ?_)
                            · refine sn_q_aloadn sn_bc_87 dL_areGiven_136 rfl ?_
                              refine sn_q_iload sn_bc_87 dL_areGiven_137 rfl ?_
                              refine sn_q_dup2 sn_bc_87 dL_areGiven_139 rfl ?_
                              refine sk_l_iald hJ sn_bc_87 dL_areGiven_140 (by omega) (by omega) ?_
                              refine sn_q_iload sn_bc_87 dL_areGiven_141 rfl ?_
                              refine sn_q_iadd sn_bc_87 dL_areGiven_143 (by omega) (by omega) ?_
                              refine sk_l_iast hJ sn_bc_87 dL_areGiven_144 (by omega) (by omega) (fun hJ => ?_)
                              have hE := sk_ext_v hE hJ (by omega)
                              have hK := sk_ar_v hK hJ (by omega)
                              have hT := sk_ar_v hT hJ (by omega)
                              refine sn_q_aload sn_bc_87 dL_areGiven_145 rfl ?_
                              refine sn_q_iload sn_bc_87 dL_areGiven_147 rfl ?_
                              refine sn_q_dup2 sn_bc_87 dL_areGiven_149 rfl ?_
                              refine sk_l_iald hK sn_bc_87 dL_areGiven_150 (by omega) (by omega) ?_
                              refine sn_q_iload sn_bc_87 dL_areGiven_151 rfl ?_
                              refine sn_q_iadd sn_bc_87 dL_areGiven_153 (by omega) (by omega) ?_
                              refine sk_l_iast hK sn_bc_87 dL_areGiven_154 (by omega) (by omega) (fun hK => ?_)
                              have hE := sk_ext_v hE hK (by omega)
                              have hJ := sk_ar_v hJ hK (by omega)
                              have hT := sk_ar_v hT hK (by omega)
                              refine sn_q_iload sn_bc_87 dL_areGiven_155 rfl ?_
                              refine sn_q_iload sn_bc_87 dL_areGiven_157 rfl ?_
                              refine sn_q_iload sn_bc_87 dL_areGiven_159 rfl ?_
                              refine sn_q_iadd sn_bc_87 dL_areGiven_161 (by omega) (by omega) ?_
                              refine sn_q_iadd sn_bc_87 dL_areGiven_162 (by omega) (by omega) ?_
                              refine sn_q_ist5 sn_bc_87 dL_areGiven_163 rfl ?_
                              refine sn_q_aload sn_bc_87 dL_areGiven_165 rfl ?_
                              refine sn_q_iload sn_bc_87 dL_areGiven_167 rfl ?_
                              refine sn_q_dup2 sn_bc_87 dL_areGiven_169 rfl ?_
                              refine sk_l_iald hT sn_bc_87 dL_areGiven_170 (by omega) (by omega) ?_
                              refine sn_q_iconst sn_bc_87 dL_areGiven_171 rfl ?_
                              refine sn_q_iadd sn_bc_87 dL_areGiven_172 (by omega) (by omega) ?_
                              refine sk_l_iast hT sn_bc_87 dL_areGiven_173 (by omega) (by omega) (fun hT => ?_)
                              have hE := sk_ext_v hE hT (by omega)
                              have hJ := sk_ar_v hJ hT (by omega)
                              have hK := sk_ar_v hK hT (by omega)
                              refine sn_q_inc8 sn_bc_87 dL_areGiven_174 rfl (by omega) (by omega) ?_
                              refine sn_q_goto (t := 30) sn_bc_87 dL_areGiven_177 rfl ?_
                              first
                                | exact ihs (j + 1) _ _ _ _ _ _ _ _ _ _ qT hqT (by omega) hE hJ hK hT (by omega) (by omega) (sk_gJ_s hj (by omega)) (sk_gJ_s hkk (by omega)) (sk_gT_s ht (by omega) (fun s s1 s2 e => by
                                    by_cases z : σ (83 + (i : Int)) s = 0
                                    · exact z
                                    · have := sk_pt_one hlf.1 hpt s1 (by omega) (show (0 : Int) ≤ (j : Int) by omega) (by omega) e z
                                      omega)) (by rw [hall', hall]; omega) (by omega)
                                | exact ihs (j + 1) _ _ _ _ _ _ _ _ _ _ qT hqT (by omega) hE hJ hK hT (by omega) (by omega) (sk_gJ_z hj (f3 (Or.inr (Or.inl h10))).1) (sk_gJ_z hkk (f3 (Or.inr (Or.inl h10))).2) (sk_gT_z ht (f3 (Or.inr (Or.inl h10))).1) (by have := f3 (Or.inr (Or.inl h10)); rw [hall', hall]; omega) (by omega)
                            · exfalso
                              first
                                | omega
                                | (clear hTb f3; omega)
                                | (have f3 := f3 (Or.inl (by omega)); clear hTb; omega)
                                | (clear hTb; split at he4 <;> omega)
                          · refine sn_q_aloadn sn_bc_87 dL_areGiven_115 rfl ?_
                            refine sn_q_iload sn_bc_87 dL_areGiven_116 rfl ?_
                            refine sn_q_iconst sn_bc_87 dL_areGiven_118 rfl ?_
                            refine sn_q_invV sn_bc_87 dL_areGiven_119 sn_oc_87 sn_pv_10_54 (by decide) rfl (by decide) (sn_h1 (by decide)) rfl rfl rfl rfl (sk_ofSong4 (sk_ext_YX hE hYX) hI (by omega) (by omega) h10 (fun τ hq => ?_))
                            rw [hq.2.1 hc]
                            obtain ⟨e4, he4⟩ : ∃ e : Int, e = (if σ 11 (j : Int) = 0 then 0 else 1) := ⟨_, rfl⟩
                            rw [← he4]
                            refine sn_q_iconst sn_bc_87 dL_areGiven_122 rfl ?_
                            refine sn_q_icne (t := 136) sn_bc_87 dL_areGiven_123 rfl (fun c_123 => ?_) (fun c_123 => ?_)
                            · refine sn_q_aloadn sn_bc_87 dL_areGiven_136 rfl ?_
                              refine sn_q_iload sn_bc_87 dL_areGiven_137 rfl ?_
                              refine sn_q_dup2 sn_bc_87 dL_areGiven_139 rfl ?_
                              refine sk_l_iald hJ sn_bc_87 dL_areGiven_140 (by omega) (by omega) ?_
                              refine sn_q_iload sn_bc_87 dL_areGiven_141 rfl ?_
                              refine sn_q_iadd sn_bc_87 dL_areGiven_143 (by omega) (by omega) ?_
                              refine sk_l_iast hJ sn_bc_87 dL_areGiven_144 (by omega) (by omega) (fun hJ => ?_)
                              have hE := sk_ext_v hE hJ (by omega)
                              have hK := sk_ar_v hK hJ (by omega)
                              have hT := sk_ar_v hT hJ (by omega)
                              refine sn_q_aload sn_bc_87 dL_areGiven_145 rfl ?_
                              refine sn_q_iload sn_bc_87 dL_areGiven_147 rfl ?_
                              refine sn_q_dup2 sn_bc_87 dL_areGiven_149 rfl ?_
                              refine sk_l_iald hK sn_bc_87 dL_areGiven_150 (by omega) (by omega) ?_
                              refine sn_q_iload sn_bc_87 dL_areGiven_151 rfl ?_
                              refine sn_q_iadd sn_bc_87 dL_areGiven_153 (by omega) (by omega) ?_
                              refine sk_l_iast hK sn_bc_87 dL_areGiven_154 (by omega) (by omega) (fun hK => ?_)
                              have hE := sk_ext_v hE hK (by omega)
                              have hJ := sk_ar_v hJ hK (by omega)
                              have hT := sk_ar_v hT hK (by omega)
                              refine sn_q_iload sn_bc_87 dL_areGiven_155 rfl ?_
                              refine sn_q_iload sn_bc_87 dL_areGiven_157 rfl ?_
                              refine sn_q_iload sn_bc_87 dL_areGiven_159 rfl ?_
                              refine sn_q_iadd sn_bc_87 dL_areGiven_161 (by omega) (by omega) ?_
                              refine sn_q_iadd sn_bc_87 dL_areGiven_162 (by omega) (by omega) ?_
                              refine sn_q_ist5 sn_bc_87 dL_areGiven_163 rfl ?_
                              refine sn_q_aload sn_bc_87 dL_areGiven_165 rfl ?_
                              refine sn_q_iload sn_bc_87 dL_areGiven_167 rfl ?_
                              refine sn_q_dup2 sn_bc_87 dL_areGiven_169 rfl ?_
                              refine sk_l_iald hT sn_bc_87 dL_areGiven_170 (by omega) (by omega) ?_
                              refine sn_q_iconst sn_bc_87 dL_areGiven_171 rfl ?_
                              refine sn_q_iadd sn_bc_87 dL_areGiven_172 (by omega) (by omega) ?_
                              refine sk_l_iast hT sn_bc_87 dL_areGiven_173 (by omega) (by omega) (fun hT => ?_)
                              have hE := sk_ext_v hE hT (by omega)
                              have hJ := sk_ar_v hJ hT (by omega)
                              have hK := sk_ar_v hK hT (by omega)
                              refine sn_q_inc8 sn_bc_87 dL_areGiven_174 rfl (by omega) (by omega) ?_
                              refine sn_q_goto (t := 30) sn_bc_87 dL_areGiven_177 rfl ?_
                              first
                                | exact ihs (j + 1) _ _ _ _ _ _ _ _ _ _ qT hqT (by omega) hE hJ hK hT (by omega) (by omega) (sk_gJ_s hj (by omega)) (sk_gJ_s hkk (by omega)) (sk_gT_s ht (by omega) (fun s s1 s2 e => by
                                    by_cases z : σ (83 + (i : Int)) s = 0
                                    · exact z
                                    · have := sk_pt_one hlf.1 hpt s1 (by omega) (show (0 : Int) ≤ (j : Int) by omega) (by omega) e z
                                      omega)) (by rw [hall', hall]; omega) (by omega)
                                | exact ihs (j + 1) _ _ _ _ _ _ _ _ _ _ qT hqT (by omega) hE hJ hK hT (by omega) (by omega) (sk_gJ_z hj (f3 (Or.inr (Or.inl h10))).1) (sk_gJ_z hkk (f3 (Or.inr (Or.inl h10))).2) (sk_gT_z ht (f3 (Or.inr (Or.inl h10))).1) (by have := f3 (Or.inr (Or.inl h10)); rw [hall', hall]; omega) (by omega)
                            · refine sn_q_iload sn_bc_87 dL_areGiven_126 rfl ?_
                              refine sn_q_iload sn_bc_87 dL_areGiven_128 rfl ?_
                              refine sn_q_iadd sn_bc_87 dL_areGiven_130 (by omega) (by omega) ?_
                              refine sn_q_ifle (t := 136) sn_bc_87 dL_areGiven_131 rfl (fun c_131 => ?_) (fun c_131 => ?_)
                              · refine sn_q_aloadn sn_bc_87 dL_areGiven_136 rfl ?_
                                refine sn_q_iload sn_bc_87 dL_areGiven_137 rfl ?_
                                refine sn_q_dup2 sn_bc_87 dL_areGiven_139 rfl ?_
                                refine sk_l_iald hJ sn_bc_87 dL_areGiven_140 (by omega) (by omega) ?_
                                refine sn_q_iload sn_bc_87 dL_areGiven_141 rfl ?_
                                refine sn_q_iadd sn_bc_87 dL_areGiven_143 (by omega) (by omega) ?_
                                refine sk_l_iast hJ sn_bc_87 dL_areGiven_144 (by omega) (by omega) (fun hJ => ?_)
                                have hE := sk_ext_v hE hJ (by omega)
                                have hK := sk_ar_v hK hJ (by omega)
                                have hT := sk_ar_v hT hJ (by omega)
                                refine sn_q_aload sn_bc_87 dL_areGiven_145 rfl ?_
                                refine sn_q_iload sn_bc_87 dL_areGiven_147 rfl ?_
                                refine sn_q_dup2 sn_bc_87 dL_areGiven_149 rfl ?_
                                refine sk_l_iald hK sn_bc_87 dL_areGiven_150 (by omega) (by omega) ?_
                                refine sn_q_iload sn_bc_87 dL_areGiven_151 rfl ?_
                                refine sn_q_iadd sn_bc_87 dL_areGiven_153 (by omega) (by omega) ?_
                                refine sk_l_iast hK sn_bc_87 dL_areGiven_154 (by omega) (by omega) (fun hK => ?_)
                                have hE := sk_ext_v hE hK (by omega)
                                have hJ := sk_ar_v hJ hK (by omega)
                                have hT := sk_ar_v hT hK (by omega)
                                refine sn_q_iload sn_bc_87 dL_areGiven_155 rfl ?_
                                refine sn_q_iload sn_bc_87 dL_areGiven_157 rfl ?_
                                refine sn_q_iload sn_bc_87 dL_areGiven_159 rfl ?_
                                refine sn_q_iadd sn_bc_87 dL_areGiven_161 (by omega) (by omega) ?_
                                refine sn_q_iadd sn_bc_87 dL_areGiven_162 (by omega) (by omega) ?_
                                refine sn_q_ist5 sn_bc_87 dL_areGiven_163 rfl ?_
                                refine sn_q_aload sn_bc_87 dL_areGiven_165 rfl ?_
                                refine sn_q_iload sn_bc_87 dL_areGiven_167 rfl ?_
                                refine sn_q_dup2 sn_bc_87 dL_areGiven_169 rfl ?_
                                refine sk_l_iald hT sn_bc_87 dL_areGiven_170 (by omega) (by omega) ?_
                                refine sn_q_iconst sn_bc_87 dL_areGiven_171 rfl ?_
                                refine sn_q_iadd sn_bc_87 dL_areGiven_172 (by omega) (by omega) ?_
                                refine sk_l_iast hT sn_bc_87 dL_areGiven_173 (by omega) (by omega) (fun hT => ?_)
                                have hE := sk_ext_v hE hT (by omega)
                                have hJ := sk_ar_v hJ hT (by omega)
                                have hK := sk_ar_v hK hT (by omega)
                                refine sn_q_inc8 sn_bc_87 dL_areGiven_174 rfl (by omega) (by omega) ?_
                                refine sn_q_goto (t := 30) sn_bc_87 dL_areGiven_177 rfl ?_
                                first
                                  | exact ihs (j + 1) _ _ _ _ _ _ _ _ _ _ qT hqT (by omega) hE hJ hK hT (by omega) (by omega) (sk_gJ_s hj (by omega)) (sk_gJ_s hkk (by omega)) (sk_gT_s ht (by omega) (fun s s1 s2 e => by
                                      by_cases z : σ (83 + (i : Int)) s = 0
                                      · exact z
                                      · have := sk_pt_one hlf.1 hpt s1 (by omega) (show (0 : Int) ≤ (j : Int) by omega) (by omega) e z
                                        omega)) (by rw [hall', hall]; omega) (by omega)
                                  | exact ihs (j + 1) _ _ _ _ _ _ _ _ _ _ qT hqT (by omega) hE hJ hK hT (by omega) (by omega) (sk_gJ_z hj (f3 (Or.inr (Or.inl h10))).1) (sk_gJ_z hkk (f3 (Or.inr (Or.inl h10))).2) (sk_gT_z ht (f3 (Or.inr (Or.inl h10))).1) (by have := f3 (Or.inr (Or.inl h10)); rw [hall', hall]; omega) (by omega)
                              · exfalso
                                first
                                  | omega
                                  | (clear hTb f3; omega)
                                  | (have f3 := f3 (Or.inl (by omega)); clear hTb; omega)
                                  | (clear hTb; split at he4 <;> omega)
            · have hE := sk_ext_tr hE he
              have hJ := sk_ext_ar he hJ
              have hK := sk_ext_ar he hK
              have hT := sk_ext_ar he hT
              refine sn_q_ifne (t := 48) sn_bc_87 dL_areGiven_42 rfl (fun c => absurd c (by decide)) (fun _ => ?_)
              refine sn_q_goto (t := 174) sn_bc_87 dL_areGiven_45 rfl ?_
              refine sn_q_inc8 sn_bc_87 dL_areGiven_174 rfl (by omega) (by omega) ?_
              refine sn_q_goto (t := 30) sn_bc_87 dL_areGiven_177 rfl ?_
              first
                | exact ihs (j + 1) _ _ _ _ _ _ _ _ _ _ qT hqT (by omega) hE hJ hK hT (by omega) (by omega) (sk_gJ_s hj (by omega)) (sk_gJ_s hkk (by omega)) (sk_gT_s ht (by omega) (fun s s1 s2 e => by
                    by_cases z : σ (83 + (i : Int)) s = 0
                    · exact z
                    · have := sk_pt_one hlf.1 hpt s1 (by omega) (show (0 : Int) ≤ (j : Int) by omega) (by omega) e z
                      omega)) (by rw [hall', hall]; omega) (by omega)
                | exact ihs (j + 1) _ _ _ _ _ _ _ _ _ _ qT hqT (by omega) hE hJ hK hT (by omega) (by omega) (sk_gJ_z hj (f3 (Or.inr (Or.inl h10))).1) (sk_gJ_z hkk (f3 (Or.inr (Or.inl h10))).2) (sk_gT_z ht (f3 (Or.inr (Or.inl h10))).1) (by have := f3 (Or.inr (Or.inl h10)); rw [hall', hall]; omega) (by omega)
      refine sn_q_iload sn_bc_87 dL_areGiven_15 rfl ?_
      refine sn_q_iloadn sn_bc_87 dL_areGiven_17 rfl ?_
      refine sn_q_icge (t := 304) sn_bc_87 dL_areGiven_18 rfl (fun c_18 => ?_) (fun c_18 => ?_)
      · exfalso; omega
      · have hE0 := hK.2.1
        refine sn_q_bipush sn_bc_87 dL_areGiven_21 rfl ?_
        refine sk_l_new sn_bc_87 dL_areGiven_23 (by omega) (by omega) (fun Y1 X1 he hT => ?_)
        have hE := sk_ext_tr hE he
        have hJ := sk_ext_ar he hJ
        have hK := sk_ext_ar he hK
        refine sn_q_ast7 sn_bc_87 dL_areGiven_25 rfl ?_
        refine sn_q_iconst sn_bc_87 dL_areGiven_27 rfl ?_
        refine sn_q_ist8 sn_bc_87 dL_areGiven_28 rfl ?_
        exact goS N.toNat 0 all _ _ _ _ _ _ J K (fun _ => 0) (231 + n) (by omega) (by omega) hE hJ hK hT (by omega) (by omega) hj hkk (fun x a1 a2 => ⟨Int.le_refl _, Int.le_refl _, fun q => Or.inl ⟨rfl, fun s s1 s2 => by omega⟩⟩) (by rw [hall]; exact (Int.add_zero _).symm) (by omega)
  have hE : sk_ext n0 Y0 X0 n0 Y0 X0 := sk_ext_rf
  refine sn_q_iloadn sn_bc_87 dL_areGiven_0 rfl ?_
  refine sk_l_new sn_bc_87 dL_areGiven_1 (by omega) (by omega) (fun Y1 X1 he hJ => ?_)
  have hE := sk_ext_tr hE he
  refine sn_q_astn3 sn_bc_87 dL_areGiven_3 rfl ?_
  refine sn_q_iloadn sn_bc_87 dL_areGiven_4 rfl ?_
  refine sk_l_new sn_bc_87 dL_areGiven_5 (by omega) (by omega) (fun Y1 X1 he hK => ?_)
  have hE := sk_ext_tr hE he
  have hJ := sk_ext_ar he hJ
  refine sn_q_ast4 sn_bc_87 dL_areGiven_7 rfl ?_
  refine sn_q_iconst sn_bc_87 dL_areGiven_9 rfl ?_
  refine sn_q_ist5 sn_bc_87 dL_areGiven_10 rfl ?_
  refine sn_q_iconst sn_bc_87 dL_areGiven_12 rfl ?_
  refine sn_q_ist6 sn_bc_87 dL_areGiven_13 rfl ?_
  exact goL N.toNat 0 0 _ _ _ _ _ _ _ _ _ _ (by omega) hE hJ hK (by omega) (by omega) (fun s a1 a2 => by rw [if_neg (by omega)]; rfl) (fun s a1 a2 => by rw [if_neg (by omega)]; rfl) rfl (by omega)
