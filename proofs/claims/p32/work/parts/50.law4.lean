/-! the law: the voting of a year -/
theorem sk_lw_votes {Y0 : Nat → Nat × Nat} {X0 : Nat → Nat → sn_V} {Q : Option sn_V → sn_H → Prop} {N lim aud y S : Int} {qB qC : Nat} {bed : Int → Int} (hYX : sn_YX Y0 X0) (hsc : sk_sc Y0 X0) (hN3 : 3 ≤ N) (hN6 : N ≤ 6) (hl1 : 1 ≤ lim) (hl8 : lim ≤ 8) (hy0 : 0 ≤ y) (hy1 : y ≤ 1) (hqB : 231 ≤ qB) (hqC : 231 ≤ qC) (hBC : qB ≠ qC) {n k : Nat} {Y : Nat → Nat × Nat} (K : ∀ (X : Nat → Nat → sn_V) (σ : Int → Int → Int) (g8 g9 g12 g13 g14 g15 g16 g17 g18 : sn_V) (j : Int), sk_ext 0 Y0 X0 n Y X → sk_ar n Y X qB N.toNat bed → sk_Yv N bed lim aud y S σ → sn_Wp 129 616 [sn_r 0, sn_r 2, sn_i N, sn_r qB, sn_i lim, sn_i aud, sn_i y, sn_i S, g8, g9, sn_r qC, sn_i j, g12, g13, g14, g15, g16, g17, g18] [] (sn_hh n k Y σ X) Q) : ∀ (d j : Nat) (g8 g9 g12 g13 g14 g15 g16 g17 g18 : sn_V) (X : Nat → Nat → sn_V) (C : Int → Int) (σ : Int → Int → Int), (j : Int) + d = 50 → sk_ext 0 Y0 X0 n Y X → sk_ar n Y X qB N.toNat bed → sk_ar n Y X qC (10 * N).toNat C → sk_Yv N bed lim aud y S σ → (∀ t, 0 ≤ t → t < 10 * N → C t = σ 178 t) → sn_Wp 129 303 [sn_r 0, sn_r 2, sn_i N, sn_r qB, sn_i lim, sn_i aud, sn_i y, sn_i S, g8, g9, sn_r qC, sn_i (j : Int), g12, g13, g14, g15, g16, g17, g18] [] (sn_hh n k Y σ X) Q := by
  intro d
  induction d with
  | zero =>
    intro j g8 g9 g12 g13 g14 g15 g16 g17 g18 X C σ hd hE hB hC hV hCv
    refine sn_q_iload sn_bc_129 dL_law_303 rfl ?_
    refine sn_q_bipush sn_bc_129 dL_law_305 rfl ?_
    refine sn_q_icge (t := 616) sn_bc_129 dL_law_307 rfl (fun c_307 => ?_) (fun c_307 => ?_)
    · exact K X σ _ _ _ _ _ _ _ _ _ _ hE hB hV
    · exfalso; omega
  | succ d ih =>
    intro j g8 g9 g12 g13 g14 g15 g16 g17 g18 X C σ hd hE hB hC hV hCv
    have hI := hV.1
    have hph := hV.2.2.1
    have hS9 := hV.2.2.2.1
    have h39 := hV.2.2.2.2.1
    have hN0 := hV.2.1.2.1
    have hlim := hV.2.1.2.2.2.2.2.1
    have hA := sk_A_bd hI.2.1
    have h15 := hI.2.2.1.1
    refine sn_q_iload sn_bc_129 dL_law_303 rfl ?_
    refine sn_q_bipush sn_bc_129 dL_law_305 rfl ?_
    refine sn_q_icge (t := 616) sn_bc_129 dL_law_307 rfl (fun c_307 => ?_) (fun c_307 => ?_)
    · exfalso; omega
    · refine sn_q_aloadn sn_bc_129 dL_law_310 rfl ?_
      refine sn_q_iload sn_bc_129 dL_law_311 rfl ?_
      refine sn_q_iconst sn_bc_129 dL_law_313 rfl ?_
      refine sn_q_iload sn_bc_129 dL_law_314 rfl ?_
      refine sn_q_imul sn_bc_129 dL_law_316 (by omega) (by omega) ?_
      refine sn_q_iadd sn_bc_129 dL_law_317 (by omega) (by omega) ?_
      refine sn_q_bipush sn_bc_129 dL_law_318 rfl ?_
      refine sn_q_irem sn_bc_129 dL_law_320 (by omega) (by omega) (by omega) (by omega) ?_
      refine sn_q_invS sn_bc_129 dL_law_321 sn_oc_129 sn_px_10_12 sn_ps_10_12 (by decide) rfl rfl rfl (sk_cellG (sk_ext_sc hE hsc) (by omega) (by omega) (fun v321 => ?_))
      refine sn_q_bipush sn_bc_129 dL_law_324 rfl ?_
      refine sn_q_iload sn_bc_129 dL_law_326 rfl ?_
      refine sn_q_imul sn_bc_129 dL_law_328 (by omega) (by omega) ?_
      refine sk_q_iaddG sn_bc_129 dL_law_329 (fun x => ?_)
      refine sn_q_istoreL sn_bc_129 dL_law_330 (show (12 : Nat) < 19 from by decide) rfl rfl ?_
      refine sn_q_iload sn_bc_129 dL_law_332 rfl ?_
      refine sn_q_iloadn sn_bc_129 dL_law_334 rfl ?_
      refine sn_q_invS sn_bc_129 dL_law_335 sn_oc_129 sn_px_10_18 sn_ps_10_18 (by decide) rfl rfl rfl (sk_belowG (by omega) (by omega) (fun v335 a335 b335 => ?_))
      refine sn_q_istoreL sn_bc_129 dL_law_338 (show (13 : Nat) < 19 from by decide) rfl rfl ?_
      refine sn_q_aloadn sn_bc_129 dL_law_340 rfl ?_
      refine sn_q_iload sn_bc_129 dL_law_341 rfl ?_
      refine sn_q_iconst sn_bc_129 dL_law_343 rfl ?_
      refine sn_q_ishr sn_bc_129 dL_law_344 ?_
      refine sn_q_iload sn_bc_129 dL_law_345 rfl ?_
      refine sn_q_invS sn_bc_129 dL_law_347 sn_oc_129 sn_px_10_18 sn_ps_10_18 (by decide) rfl rfl rfl (sk_belowG (by omega) (by omega) (fun v347 a347 b347 => ?_))
      refine sn_q_invV sn_bc_129 dL_law_350 sn_oc_129 sn_pv_10_47 (by decide) rfl (by decide) (sn_h1 (by decide)) rfl rfl rfl rfl (sk_at hI (by omega) (by omega) ?_)
      have hso := hI.2.2.1.2.2.1 _ a347 (by omega)
      obtain ⟨w, hw⟩ : ∃ w : Int, w = σ 16 v347 := ⟨_, rfl⟩
      rw [← hw] at hso ⊢
      have w0 := hso.1
      have w8 := hso.2.1
      have w10 := hso.2.2
      have wN : w < N := by have := hI.2.1.1 w w0 w8 w10; omega
      refine sn_q_istoreL sn_bc_129 dL_law_353 (show (14 : Nat) < 19 from by decide) rfl rfl ?_
      refine sn_q_iload sn_bc_129 dL_law_355 rfl ?_
      refine sn_q_iconst sn_bc_129 dL_law_357 rfl ?_
      refine sn_q_ishr sn_bc_129 dL_law_358 ?_
      refine sn_q_bipush sn_bc_129 dL_law_359 rfl ?_
      refine sn_q_invS sn_bc_129 dL_law_361 sn_oc_129 sn_px_10_18 sn_ps_10_18 (by decide) rfl rfl rfl (sk_belowG (by omega) (by omega) (fun v361 a361 b361 => ?_))
      refine sn_q_istoreL sn_bc_129 dL_law_364 (show (15 : Nat) < 19 from by decide) rfl rfl ?_
      refine sn_q_iload sn_bc_129 dL_law_366 rfl ?_
      refine sn_q_iconst sn_bc_129 dL_law_368 rfl ?_
      refine sn_q_icge (t := 402) sn_bc_129 dL_law_369 rfl (fun c_369 => ?_) (fun c_369 => ?_)
      · refine sn_q_iload sn_bc_129 dL_law_402 rfl ?_
        refine sn_q_bipush sn_bc_129 dL_law_404 rfl ?_
        refine sn_q_icge (t := 548) sn_bc_129 dL_law_406 rfl (fun c_406 => ?_) (fun c_406 => ?_)
        · refine sn_q_iload sn_bc_129 dL_law_548 rfl ?_
          refine sn_q_bipush sn_bc_129 dL_law_550 rfl ?_
          refine sn_q_icne (t := 610) sn_bc_129 dL_law_552 rfl (fun c_552 => ?_) (fun c_552 => ?_)
          · refine sn_q_iincL sn_bc_129 dL_law_610 (show (11 : Nat) < 19 from by decide) rfl rfl (by omega) (by omega) rfl ?_
            refine sn_q_goto (t := 303) sn_bc_129 dL_law_613 rfl ?_
            first
              | exact ih (j + 1) _ _ _ _ _ _ _ _ _ X _ τ (by omega) hE hB hC (sk_Yv_t hV hIτ (fun a c g => hft a c (by omega) (by omega)) (by rw [hft 9 0 (by omega) (by omega), hft 9 1 (by omega) (by omega)]; exact h39)) (fun t a1 a2 => by rw [hft 178 t (by omega) (by omega)]; exact hCv t a1 a2)
              | exact ih (j + 1) _ _ _ _ _ _ _ _ _ _ _ τ (by omega) hE hB hC (sk_Yv_t hV hIτ (fun a c g => hft a c (by omega) (by omega) (by omega)) (by rw [hft 9 0 (by omega) (by omega) (by omega), hft 9 1 (by omega) (by omega) (by omega)]; exact h39)) (fun t a1 a2 => by
                  (try dsimp only)
                  by_cases e : t = 10 * v335 + v432
                  · rw [if_pos e, e, e178, hc0]
                  · rw [if_neg e, hft 178 t (by omega) (by omega) (by omega)]; exact hCv t a1 a2)
              | exact ih (j + 1) _ _ _ _ _ _ _ _ _ X _ χ (by omega) hE hB hC (sk_Yv_q (sk_Yv_t hV hIτ (fun a c g => hf1 a c (by omega) (by omega) (by omega) (by omega) (by omega)) (by rw [hf1 9 0 (by omega) (by omega) (by omega) (by omega) (by omega), e91]; omega)) hqχ) (fun t a1 a2 => by rw [hqχ.1 178 t (by omega) (by omega), hf1 178 t (by omega) (by omega) (by omega) (by omega) (by omega)]; exact hCv t a1 a2)
              | exact ih (j + 1) _ _ _ _ _ _ _ _ _ X _ τ (by omega) hE hB hC hV hCv
              | exact ih (j + 1) _ _ _ _ _ _ _ _ _ X _ σ (by omega) hE hB hC hV hCv
          · refine sn_q_aloadn sn_bc_129 dL_law_555 rfl ?_
            refine sn_q_iconst sn_bc_129 dL_law_556 rfl ?_
            refine sn_q_invV sn_bc_129 dL_law_557 sn_oc_129 sn_pv_10_33 (by decide) rfl (by decide) (sn_h1 (by decide)) rfl rfl rfl rfl (sk_many3 (sk_ext_YX hE hYX) hI (fun τ hq => ?_))
            have hV := sk_Yv_q hV hq
            have q91 := hq.1 9 1 (by omega) (by omega)
            have w10 : τ 10 w ≠ 0 := by rw [hq.1 10 w (by omega) (by omega)]; exact w10
            have hCv : ∀ t, 0 ≤ t → t < 10 * N → C t = τ 178 t := fun t a1 a2 => by rw [hq.1 178 t (by omega) (by omega)]; exact hCv t a1 a2
            have hI := hV.1
            have hph := hV.2.2.1
            have hS9 := hV.2.2.2.1
            have h39 := hV.2.2.2.2.1
            have hN0 := hV.2.1.2.1
            have hlim := hV.2.1.2.2.2.2.2.1
            have hA := sk_A_bd hI.2.1
            have h15 := hI.2.2.1.1
            refine sn_q_aloadn sn_bc_129 dL_law_560 rfl ?_
            refine sn_q_iconst sn_bc_129 dL_law_561 rfl ?_
            refine sn_q_invV sn_bc_129 dL_law_562 sn_oc_129 sn_pv_10_33 (by decide) rfl (by decide) (sn_h1 (by decide)) rfl rfl rfl rfl (sk_many4 (sk_ext_YX hE hYX) hI (fun τ hq => ?_))
            have hV := sk_Yv_q hV hq
            have q91 := hq.1 9 1 (by omega) (by omega)
            have w10 : τ 10 w ≠ 0 := by rw [hq.1 10 w (by omega) (by omega)]; exact w10
            have hCv : ∀ t, 0 ≤ t → t < 10 * N → C t = τ 178 t := fun t a1 a2 => by rw [hq.1 178 t (by omega) (by omega)]; exact hCv t a1 a2
            have hI := hV.1
            have hph := hV.2.2.1
            have hS9 := hV.2.2.2.1
            have h39 := hV.2.2.2.2.1
            have hN0 := hV.2.1.2.1
            have hlim := hV.2.1.2.2.2.2.2.1
            have hA := sk_A_bd hI.2.1
            have h15 := hI.2.2.1.1
            refine sn_q_isub sn_bc_129 dL_law_565 (by omega) (by omega) ?_
            refine sn_q_iconst sn_bc_129 dL_law_566 rfl ?_
            refine sn_q_icle (t := 610) sn_bc_129 dL_law_567 rfl (fun c_567 => ?_) (fun c_567 => ?_)
            · refine sn_q_iincL sn_bc_129 dL_law_610 (show (11 : Nat) < 19 from by decide) rfl rfl (by omega) (by omega) rfl ?_
              refine sn_q_goto (t := 303) sn_bc_129 dL_law_613 rfl ?_
              first
                | exact ih (j + 1) _ _ _ _ _ _ _ _ _ X _ τ (by omega) hE hB hC (sk_Yv_t hV hIτ (fun a c g => hft a c (by omega) (by omega)) (by rw [hft 9 0 (by omega) (by omega), hft 9 1 (by omega) (by omega)]; exact h39)) (fun t a1 a2 => by rw [hft 178 t (by omega) (by omega)]; exact hCv t a1 a2)
                | exact ih (j + 1) _ _ _ _ _ _ _ _ _ _ _ τ (by omega) hE hB hC (sk_Yv_t hV hIτ (fun a c g => hft a c (by omega) (by omega) (by omega)) (by rw [hft 9 0 (by omega) (by omega) (by omega), hft 9 1 (by omega) (by omega) (by omega)]; exact h39)) (fun t a1 a2 => by
                    (try dsimp only)
                    by_cases e : t = 10 * v335 + v432
                    · rw [if_pos e, e, e178, hc0]
                    · rw [if_neg e, hft 178 t (by omega) (by omega) (by omega)]; exact hCv t a1 a2)
                | exact ih (j + 1) _ _ _ _ _ _ _ _ _ X _ χ (by omega) hE hB hC (sk_Yv_q (sk_Yv_t hV hIτ (fun a c g => hf1 a c (by omega) (by omega) (by omega) (by omega) (by omega)) (by rw [hf1 9 0 (by omega) (by omega) (by omega) (by omega) (by omega), e91]; omega)) hqχ) (fun t a1 a2 => by rw [hqχ.1 178 t (by omega) (by omega), hf1 178 t (by omega) (by omega) (by omega) (by omega) (by omega)]; exact hCv t a1 a2)
                | exact ih (j + 1) _ _ _ _ _ _ _ _ _ X _ τ (by omega) hE hB hC hV hCv
                | exact ih (j + 1) _ _ _ _ _ _ _ _ _ X _ σ (by omega) hE hB hC hV hCv
            · refine sn_q_aloadn sn_bc_129 dL_law_570 rfl ?_
              refine sn_q_iload sn_bc_129 dL_law_571 rfl ?_
              refine sn_q_iconst sn_bc_129 dL_law_573 rfl ?_
              refine sn_q_invV sn_bc_129 dL_law_574 sn_oc_129 sn_pv_10_54 (by decide) rfl (by decide) (sn_h1 (by decide)) rfl rfl rfl rfl (sk_ofSong4x (sk_ext_YX hE hYX) hI w0 w8 w10 (fun τ e4 hq h11 => ?_))
              have hV := sk_Yv_q hV hq
              have q91 := hq.1 9 1 (by omega) (by omega)
              have w10 : τ 10 w ≠ 0 := by rw [hq.1 10 w (by omega) (by omega)]; exact w10
              have hCv : ∀ t, 0 ≤ t → t < 10 * N → C t = τ 178 t := fun t a1 a2 => by rw [hq.1 178 t (by omega) (by omega)]; exact hCv t a1 a2
              have hI := hV.1
              have hph := hV.2.2.1
              have hS9 := hV.2.2.2.1
              have h39 := hV.2.2.2.2.1
              have hN0 := hV.2.1.2.1
              have hlim := hV.2.1.2.2.2.2.2.1
              have hA := sk_A_bd hI.2.1
              have h15 := hI.2.2.1.1
              refine sn_q_ifne (t := 610) sn_bc_129 dL_law_577 rfl (fun c_577 => ?_) (fun c_577 => ?_)
              · refine sn_q_iincL sn_bc_129 dL_law_610 (show (11 : Nat) < 19 from by decide) rfl rfl (by omega) (by omega) rfl ?_
                refine sn_q_goto (t := 303) sn_bc_129 dL_law_613 rfl ?_
                first
                  | exact ih (j + 1) _ _ _ _ _ _ _ _ _ X _ τ (by omega) hE hB hC (sk_Yv_t hV hIτ (fun a c g => hft a c (by omega) (by omega)) (by rw [hft 9 0 (by omega) (by omega), hft 9 1 (by omega) (by omega)]; exact h39)) (fun t a1 a2 => by rw [hft 178 t (by omega) (by omega)]; exact hCv t a1 a2)
                  | exact ih (j + 1) _ _ _ _ _ _ _ _ _ _ _ τ (by omega) hE hB hC (sk_Yv_t hV hIτ (fun a c g => hft a c (by omega) (by omega) (by omega)) (by rw [hft 9 0 (by omega) (by omega) (by omega), hft 9 1 (by omega) (by omega) (by omega)]; exact h39)) (fun t a1 a2 => by
                      (try dsimp only)
                      by_cases e : t = 10 * v335 + v432
                      · rw [if_pos e, e, e178, hc0]
                      · rw [if_neg e, hft 178 t (by omega) (by omega) (by omega)]; exact hCv t a1 a2)
                  | exact ih (j + 1) _ _ _ _ _ _ _ _ _ X _ χ (by omega) hE hB hC (sk_Yv_q (sk_Yv_t hV hIτ (fun a c g => hf1 a c (by omega) (by omega) (by omega) (by omega) (by omega)) (by rw [hf1 9 0 (by omega) (by omega) (by omega) (by omega) (by omega), e91]; omega)) hqχ) (fun t a1 a2 => by rw [hqχ.1 178 t (by omega) (by omega), hf1 178 t (by omega) (by omega) (by omega) (by omega) (by omega)]; exact hCv t a1 a2)
                  | exact ih (j + 1) _ _ _ _ _ _ _ _ _ X _ τ (by omega) hE hB hC hV hCv
                  | exact ih (j + 1) _ _ _ _ _ _ _ _ _ X _ σ (by omega) hE hB hC hV hCv
              · refine sn_q_iload sn_bc_129 dL_law_580 rfl ?_
                refine sn_q_iconst sn_bc_129 dL_law_582 rfl ?_
                refine sn_q_ishr sn_bc_129 dL_law_583 ?_
                refine sn_q_iconst sn_bc_129 dL_law_584 rfl ?_
                refine sn_q_invS sn_bc_129 dL_law_585 sn_oc_129 sn_px_10_18 sn_ps_10_18 (by decide) rfl rfl rfl (sk_belowG (by omega) (by omega) (fun v585 a585 b585 => ?_))
                refine sn_q_ifne (t := 610) sn_bc_129 dL_law_588 rfl (fun c_588 => ?_) (fun c_588 => ?_)
                · refine sn_q_iincL sn_bc_129 dL_law_610 (show (11 : Nat) < 19 from by decide) rfl rfl (by omega) (by omega) rfl ?_
                  refine sn_q_goto (t := 303) sn_bc_129 dL_law_613 rfl ?_
                  first
                    | exact ih (j + 1) _ _ _ _ _ _ _ _ _ X _ τ (by omega) hE hB hC (sk_Yv_t hV hIτ (fun a c g => hft a c (by omega) (by omega)) (by rw [hft 9 0 (by omega) (by omega), hft 9 1 (by omega) (by omega)]; exact h39)) (fun t a1 a2 => by rw [hft 178 t (by omega) (by omega)]; exact hCv t a1 a2)
                    | exact ih (j + 1) _ _ _ _ _ _ _ _ _ _ _ τ (by omega) hE hB hC (sk_Yv_t hV hIτ (fun a c g => hft a c (by omega) (by omega) (by omega)) (by rw [hft 9 0 (by omega) (by omega) (by omega), hft 9 1 (by omega) (by omega) (by omega)]; exact h39)) (fun t a1 a2 => by
                        (try dsimp only)
                        by_cases e : t = 10 * v335 + v432
                        · rw [if_pos e, e, e178, hc0]
                        · rw [if_neg e, hft 178 t (by omega) (by omega) (by omega)]; exact hCv t a1 a2)
                    | exact ih (j + 1) _ _ _ _ _ _ _ _ _ X _ χ (by omega) hE hB hC (sk_Yv_q (sk_Yv_t hV hIτ (fun a c g => hf1 a c (by omega) (by omega) (by omega) (by omega) (by omega)) (by rw [hf1 9 0 (by omega) (by omega) (by omega) (by omega) (by omega), e91]; omega)) hqχ) (fun t a1 a2 => by rw [hqχ.1 178 t (by omega) (by omega), hf1 178 t (by omega) (by omega) (by omega) (by omega) (by omega)]; exact hCv t a1 a2)
                    | exact ih (j + 1) _ _ _ _ _ _ _ _ _ X _ τ (by omega) hE hB hC hV hCv
                    | exact ih (j + 1) _ _ _ _ _ _ _ _ _ X _ σ (by omega) hE hB hC hV hCv
                · refine sn_q_aloadn sn_bc_129 dL_law_591 rfl ?_
                  refine sn_q_iload sn_bc_129 dL_law_592 rfl ?_
                  refine sn_q_invV sn_bc_129 dL_law_594 sn_oc_129 sn_pv_10_60 (by decide) rfl (by decide) (sn_h1 (by decide)) rfl rfl rfl rfl (sk_disqualify hI (Or.inl hph) w0 (by omega) w10 (h11 (by omega)) (by omega) (fun τ hIτ hft e11 e91 h219 h227 => ?_))
                  have hf1 := hft
                  have hI := hIτ
                  refine sn_q_iload sn_bc_129 dL_law_597 rfl ?_
                  refine sn_q_aloadn sn_bc_129 dL_law_599 rfl ?_
                  refine sn_q_iconst sn_bc_129 dL_law_600 rfl ?_
                  refine sn_q_invV sn_bc_129 dL_law_601 sn_oc_129 sn_pv_10_33 (by decide) rfl (by decide) (sn_h1 (by decide)) rfl rfl rfl rfl (sk_many4 (sk_ext_YX hE hYX) hI (fun χ hqχ => ?_))
                  have p91 : χ 9 1 = τ 9 1 := hqχ.1 9 1 (by omega) (by omega)
                  rw [p91, e91]
                  refine sn_q_isub sn_bc_129 dL_law_604 (by omega) (by omega) ?_
                  refine sn_q_iceq (t := 610) sn_bc_129 dL_law_605 rfl (fun c_605 => ?_) (fun c_605 => ?_)
                  · refine sn_q_iincL sn_bc_129 dL_law_610 (show (11 : Nat) < 19 from by decide) rfl rfl (by omega) (by omega) rfl ?_
                    refine sn_q_goto (t := 303) sn_bc_129 dL_law_613 rfl ?_
                    first
                      | exact ih (j + 1) _ _ _ _ _ _ _ _ _ X _ τ (by omega) hE hB hC (sk_Yv_t hV hIτ (fun a c g => hft a c (by omega) (by omega)) (by rw [hft 9 0 (by omega) (by omega), hft 9 1 (by omega) (by omega)]; exact h39)) (fun t a1 a2 => by rw [hft 178 t (by omega) (by omega)]; exact hCv t a1 a2)
                      | exact ih (j + 1) _ _ _ _ _ _ _ _ _ _ _ τ (by omega) hE hB hC (sk_Yv_t hV hIτ (fun a c g => hft a c (by omega) (by omega) (by omega)) (by rw [hft 9 0 (by omega) (by omega) (by omega), hft 9 1 (by omega) (by omega) (by omega)]; exact h39)) (fun t a1 a2 => by
                          (try dsimp only)
                          by_cases e : t = 10 * v335 + v432
                          · rw [if_pos e, e, e178, hc0]
                          · rw [if_neg e, hft 178 t (by omega) (by omega) (by omega)]; exact hCv t a1 a2)
                      | exact ih (j + 1) _ _ _ _ _ _ _ _ _ X _ χ (by omega) hE hB hC (sk_Yv_q (sk_Yv_t hV hIτ (fun a c g => hf1 a c (by omega) (by omega) (by omega) (by omega) (by omega)) (by rw [hf1 9 0 (by omega) (by omega) (by omega) (by omega) (by omega), e91]; omega)) hqχ) (fun t a1 a2 => by rw [hqχ.1 178 t (by omega) (by omega), hf1 178 t (by omega) (by omega) (by omega) (by omega) (by omega)]; exact hCv t a1 a2)
                      | exact ih (j + 1) _ _ _ _ _ _ _ _ _ X _ τ (by omega) hE hB hC hV hCv
                      | exact ih (j + 1) _ _ _ _ _ _ _ _ _ X _ σ (by omega) hE hB hC hV hCv
                  · exfalso; omega
        · refine sn_q_iload sn_bc_129 dL_law_409 rfl ?_
          refine sn_q_iload sn_bc_129 dL_law_411 rfl ?_
          refine sn_q_iceq (t := 548) sn_bc_129 dL_law_413 rfl (fun c_413 => ?_) (fun c_413 => ?_)
          · refine sn_q_iload sn_bc_129 dL_law_548 rfl ?_
            refine sn_q_bipush sn_bc_129 dL_law_550 rfl ?_
            refine sn_q_icne (t := 610) sn_bc_129 dL_law_552 rfl (fun c_552 => ?_) (fun c_552 => ?_)
            · refine sn_q_iincL sn_bc_129 dL_law_610 (show (11 : Nat) < 19 from by decide) rfl rfl (by omega) (by omega) rfl ?_
              refine sn_q_goto (t := 303) sn_bc_129 dL_law_613 rfl ?_
              first
                | exact ih (j + 1) _ _ _ _ _ _ _ _ _ X _ τ (by omega) hE hB hC (sk_Yv_t hV hIτ (fun a c g => hft a c (by omega) (by omega)) (by rw [hft 9 0 (by omega) (by omega), hft 9 1 (by omega) (by omega)]; exact h39)) (fun t a1 a2 => by rw [hft 178 t (by omega) (by omega)]; exact hCv t a1 a2)
                | exact ih (j + 1) _ _ _ _ _ _ _ _ _ _ _ τ (by omega) hE hB hC (sk_Yv_t hV hIτ (fun a c g => hft a c (by omega) (by omega) (by omega)) (by rw [hft 9 0 (by omega) (by omega) (by omega), hft 9 1 (by omega) (by omega) (by omega)]; exact h39)) (fun t a1 a2 => by
                    (try dsimp only)
                    by_cases e : t = 10 * v335 + v432
                    · rw [if_pos e, e, e178, hc0]
                    · rw [if_neg e, hft 178 t (by omega) (by omega) (by omega)]; exact hCv t a1 a2)
                | exact ih (j + 1) _ _ _ _ _ _ _ _ _ X _ χ (by omega) hE hB hC (sk_Yv_q (sk_Yv_t hV hIτ (fun a c g => hf1 a c (by omega) (by omega) (by omega) (by omega) (by omega)) (by rw [hf1 9 0 (by omega) (by omega) (by omega) (by omega) (by omega), e91]; omega)) hqχ) (fun t a1 a2 => by rw [hqχ.1 178 t (by omega) (by omega), hf1 178 t (by omega) (by omega) (by omega) (by omega) (by omega)]; exact hCv t a1 a2)
                | exact ih (j + 1) _ _ _ _ _ _ _ _ _ X _ τ (by omega) hE hB hC hV hCv
                | exact ih (j + 1) _ _ _ _ _ _ _ _ _ X _ σ (by omega) hE hB hC hV hCv
            · refine sn_q_aloadn sn_bc_129 dL_law_555 rfl ?_
              refine sn_q_iconst sn_bc_129 dL_law_556 rfl ?_
              refine sn_q_invV sn_bc_129 dL_law_557 sn_oc_129 sn_pv_10_33 (by decide) rfl (by decide) (sn_h1 (by decide)) rfl rfl rfl rfl (sk_many3 (sk_ext_YX hE hYX) hI (fun τ hq => ?_))
              have hV := sk_Yv_q hV hq
              have q91 := hq.1 9 1 (by omega) (by omega)
              have w10 : τ 10 w ≠ 0 := by rw [hq.1 10 w (by omega) (by omega)]; exact w10
              have hCv : ∀ t, 0 ≤ t → t < 10 * N → C t = τ 178 t := fun t a1 a2 => by rw [hq.1 178 t (by omega) (by omega)]; exact hCv t a1 a2
              have hI := hV.1
              have hph := hV.2.2.1
              have hS9 := hV.2.2.2.1
              have h39 := hV.2.2.2.2.1
              have hN0 := hV.2.1.2.1
              have hlim := hV.2.1.2.2.2.2.2.1
              have hA := sk_A_bd hI.2.1
              have h15 := hI.2.2.1.1
              refine sn_q_aloadn sn_bc_129 dL_law_560 rfl ?_
              refine sn_q_iconst sn_bc_129 dL_law_561 rfl ?_
              refine sn_q_invV sn_bc_129 dL_law_562 sn_oc_129 sn_pv_10_33 (by decide) rfl (by decide) (sn_h1 (by decide)) rfl rfl rfl rfl (sk_many4 (sk_ext_YX hE hYX) hI (fun τ hq => ?_))
              have hV := sk_Yv_q hV hq
              have q91 := hq.1 9 1 (by omega) (by omega)
              have w10 : τ 10 w ≠ 0 := by rw [hq.1 10 w (by omega) (by omega)]; exact w10
              have hCv : ∀ t, 0 ≤ t → t < 10 * N → C t = τ 178 t := fun t a1 a2 => by rw [hq.1 178 t (by omega) (by omega)]; exact hCv t a1 a2
              have hI := hV.1
              have hph := hV.2.2.1
              have hS9 := hV.2.2.2.1
              have h39 := hV.2.2.2.2.1
              have hN0 := hV.2.1.2.1
              have hlim := hV.2.1.2.2.2.2.2.1
              have hA := sk_A_bd hI.2.1
              have h15 := hI.2.2.1.1
              refine sn_q_isub sn_bc_129 dL_law_565 (by omega) (by omega) ?_
              refine sn_q_iconst sn_bc_129 dL_law_566 rfl ?_
              refine sn_q_icle (t := 610) sn_bc_129 dL_law_567 rfl (fun c_567 => ?_) (fun c_567 => ?_)
              · refine sn_q_iincL sn_bc_129 dL_law_610 (show (11 : Nat) < 19 from by decide) rfl rfl (by omega) (by omega) rfl ?_
                refine sn_q_goto (t := 303) sn_bc_129 dL_law_613 rfl ?_
                first
                  | exact ih (j + 1) _ _ _ _ _ _ _ _ _ X _ τ (by omega) hE hB hC (sk_Yv_t hV hIτ (fun a c g => hft a c (by omega) (by omega)) (by rw [hft 9 0 (by omega) (by omega), hft 9 1 (by omega) (by omega)]; exact h39)) (fun t a1 a2 => by rw [hft 178 t (by omega) (by omega)]; exact hCv t a1 a2)
                  | exact ih (j + 1) _ _ _ _ _ _ _ _ _ _ _ τ (by omega) hE hB hC (sk_Yv_t hV hIτ (fun a c g => hft a c (by omega) (by omega) (by omega)) (by rw [hft 9 0 (by omega) (by omega) (by omega), hft 9 1 (by omega) (by omega) (by omega)]; exact h39)) (fun t a1 a2 => by
                      (try dsimp only)
                      by_cases e : t = 10 * v335 + v432
                      · rw [if_pos e, e, e178, hc0]
                      · rw [if_neg e, hft 178 t (by omega) (by omega) (by omega)]; exact hCv t a1 a2)
                  | exact ih (j + 1) _ _ _ _ _ _ _ _ _ X _ χ (by omega) hE hB hC (sk_Yv_q (sk_Yv_t hV hIτ (fun a c g => hf1 a c (by omega) (by omega) (by omega) (by omega) (by omega)) (by rw [hf1 9 0 (by omega) (by omega) (by omega) (by omega) (by omega), e91]; omega)) hqχ) (fun t a1 a2 => by rw [hqχ.1 178 t (by omega) (by omega), hf1 178 t (by omega) (by omega) (by omega) (by omega) (by omega)]; exact hCv t a1 a2)
                  | exact ih (j + 1) _ _ _ _ _ _ _ _ _ X _ τ (by omega) hE hB hC hV hCv
                  | exact ih (j + 1) _ _ _ _ _ _ _ _ _ X _ σ (by omega) hE hB hC hV hCv
              · refine sn_q_aloadn sn_bc_129 dL_law_570 rfl ?_
                refine sn_q_iload sn_bc_129 dL_law_571 rfl ?_
                refine sn_q_iconst sn_bc_129 dL_law_573 rfl ?_
                refine sn_q_invV sn_bc_129 dL_law_574 sn_oc_129 sn_pv_10_54 (by decide) rfl (by decide) (sn_h1 (by decide)) rfl rfl rfl rfl (sk_ofSong4x (sk_ext_YX hE hYX) hI w0 w8 w10 (fun τ e4 hq h11 => ?_))
                have hV := sk_Yv_q hV hq
                have q91 := hq.1 9 1 (by omega) (by omega)
                have w10 : τ 10 w ≠ 0 := by rw [hq.1 10 w (by omega) (by omega)]; exact w10
                have hCv : ∀ t, 0 ≤ t → t < 10 * N → C t = τ 178 t := fun t a1 a2 => by rw [hq.1 178 t (by omega) (by omega)]; exact hCv t a1 a2
                have hI := hV.1
                have hph := hV.2.2.1
                have hS9 := hV.2.2.2.1
                have h39 := hV.2.2.2.2.1
                have hN0 := hV.2.1.2.1
                have hlim := hV.2.1.2.2.2.2.2.1
                have hA := sk_A_bd hI.2.1
                have h15 := hI.2.2.1.1
                refine sn_q_ifne (t := 610) sn_bc_129 dL_law_577 rfl (fun c_577 => ?_) (fun c_577 => ?_)
                · refine sn_q_iincL sn_bc_129 dL_law_610 (show (11 : Nat) < 19 from by decide) rfl rfl (by omega) (by omega) rfl ?_
                  refine sn_q_goto (t := 303) sn_bc_129 dL_law_613 rfl ?_
                  first
                    | exact ih (j + 1) _ _ _ _ _ _ _ _ _ X _ τ (by omega) hE hB hC (sk_Yv_t hV hIτ (fun a c g => hft a c (by omega) (by omega)) (by rw [hft 9 0 (by omega) (by omega), hft 9 1 (by omega) (by omega)]; exact h39)) (fun t a1 a2 => by rw [hft 178 t (by omega) (by omega)]; exact hCv t a1 a2)
                    | exact ih (j + 1) _ _ _ _ _ _ _ _ _ _ _ τ (by omega) hE hB hC (sk_Yv_t hV hIτ (fun a c g => hft a c (by omega) (by omega) (by omega)) (by rw [hft 9 0 (by omega) (by omega) (by omega), hft 9 1 (by omega) (by omega) (by omega)]; exact h39)) (fun t a1 a2 => by
                        (try dsimp only)
                        by_cases e : t = 10 * v335 + v432
                        · rw [if_pos e, e, e178, hc0]
                        · rw [if_neg e, hft 178 t (by omega) (by omega) (by omega)]; exact hCv t a1 a2)
                    | exact ih (j + 1) _ _ _ _ _ _ _ _ _ X _ χ (by omega) hE hB hC (sk_Yv_q (sk_Yv_t hV hIτ (fun a c g => hf1 a c (by omega) (by omega) (by omega) (by omega) (by omega)) (by rw [hf1 9 0 (by omega) (by omega) (by omega) (by omega) (by omega), e91]; omega)) hqχ) (fun t a1 a2 => by rw [hqχ.1 178 t (by omega) (by omega), hf1 178 t (by omega) (by omega) (by omega) (by omega) (by omega)]; exact hCv t a1 a2)
                    | exact ih (j + 1) _ _ _ _ _ _ _ _ _ X _ τ (by omega) hE hB hC hV hCv
                    | exact ih (j + 1) _ _ _ _ _ _ _ _ _ X _ σ (by omega) hE hB hC hV hCv
                · refine sn_q_iload sn_bc_129 dL_law_580 rfl ?_
                  refine sn_q_iconst sn_bc_129 dL_law_582 rfl ?_
                  refine sn_q_ishr sn_bc_129 dL_law_583 ?_
                  refine sn_q_iconst sn_bc_129 dL_law_584 rfl ?_
                  refine sn_q_invS sn_bc_129 dL_law_585 sn_oc_129 sn_px_10_18 sn_ps_10_18 (by decide) rfl rfl rfl (sk_belowG (by omega) (by omega) (fun v585 a585 b585 => ?_))
                  refine sn_q_ifne (t := 610) sn_bc_129 dL_law_588 rfl (fun c_588 => ?_) (fun c_588 => ?_)
                  · refine sn_q_iincL sn_bc_129 dL_law_610 (show (11 : Nat) < 19 from by decide) rfl rfl (by omega) (by omega) rfl ?_
                    refine sn_q_goto (t := 303) sn_bc_129 dL_law_613 rfl ?_
                    first
                      | exact ih (j + 1) _ _ _ _ _ _ _ _ _ X _ τ (by omega) hE hB hC (sk_Yv_t hV hIτ (fun a c g => hft a c (by omega) (by omega)) (by rw [hft 9 0 (by omega) (by omega), hft 9 1 (by omega) (by omega)]; exact h39)) (fun t a1 a2 => by rw [hft 178 t (by omega) (by omega)]; exact hCv t a1 a2)
                      | exact ih (j + 1) _ _ _ _ _ _ _ _ _ _ _ τ (by omega) hE hB hC (sk_Yv_t hV hIτ (fun a c g => hft a c (by omega) (by omega) (by omega)) (by rw [hft 9 0 (by omega) (by omega) (by omega), hft 9 1 (by omega) (by omega) (by omega)]; exact h39)) (fun t a1 a2 => by
                          (try dsimp only)
                          by_cases e : t = 10 * v335 + v432
                          · rw [if_pos e, e, e178, hc0]
                          · rw [if_neg e, hft 178 t (by omega) (by omega) (by omega)]; exact hCv t a1 a2)
                      | exact ih (j + 1) _ _ _ _ _ _ _ _ _ X _ χ (by omega) hE hB hC (sk_Yv_q (sk_Yv_t hV hIτ (fun a c g => hf1 a c (by omega) (by omega) (by omega) (by omega) (by omega)) (by rw [hf1 9 0 (by omega) (by omega) (by omega) (by omega) (by omega), e91]; omega)) hqχ) (fun t a1 a2 => by rw [hqχ.1 178 t (by omega) (by omega), hf1 178 t (by omega) (by omega) (by omega) (by omega) (by omega)]; exact hCv t a1 a2)
                      | exact ih (j + 1) _ _ _ _ _ _ _ _ _ X _ τ (by omega) hE hB hC hV hCv
                      | exact ih (j + 1) _ _ _ _ _ _ _ _ _ X _ σ (by omega) hE hB hC hV hCv
                  · refine sn_q_aloadn sn_bc_129 dL_law_591 rfl ?_
                    refine sn_q_iload sn_bc_129 dL_law_592 rfl ?_
                    refine sn_q_invV sn_bc_129 dL_law_594 sn_oc_129 sn_pv_10_60 (by decide) rfl (by decide) (sn_h1 (by decide)) rfl rfl rfl rfl (sk_disqualify hI (Or.inl hph) w0 (by omega) w10 (h11 (by omega)) (by omega) (fun τ hIτ hft e11 e91 h219 h227 => ?_))
                    have hf1 := hft
                    have hI := hIτ
                    refine sn_q_iload sn_bc_129 dL_law_597 rfl ?_
                    refine sn_q_aloadn sn_bc_129 dL_law_599 rfl ?_
                    refine sn_q_iconst sn_bc_129 dL_law_600 rfl ?_
                    refine sn_q_invV sn_bc_129 dL_law_601 sn_oc_129 sn_pv_10_33 (by decide) rfl (by decide) (sn_h1 (by decide)) rfl rfl rfl rfl (sk_many4 (sk_ext_YX hE hYX) hI (fun χ hqχ => ?_))
                    have p91 : χ 9 1 = τ 9 1 := hqχ.1 9 1 (by omega) (by omega)
                    rw [p91, e91]
                    refine sn_q_isub sn_bc_129 dL_law_604 (by omega) (by omega) ?_
                    refine sn_q_iceq (t := 610) sn_bc_129 dL_law_605 rfl (fun c_605 => ?_) (fun c_605 => ?_)
                    · refine sn_q_iincL sn_bc_129 dL_law_610 (show (11 : Nat) < 19 from by decide) rfl rfl (by omega) (by omega) rfl ?_
                      refine sn_q_goto (t := 303) sn_bc_129 dL_law_613 rfl ?_
                      first
                        | exact ih (j + 1) _ _ _ _ _ _ _ _ _ X _ τ (by omega) hE hB hC (sk_Yv_t hV hIτ (fun a c g => hft a c (by omega) (by omega)) (by rw [hft 9 0 (by omega) (by omega), hft 9 1 (by omega) (by omega)]; exact h39)) (fun t a1 a2 => by rw [hft 178 t (by omega) (by omega)]; exact hCv t a1 a2)
                        | exact ih (j + 1) _ _ _ _ _ _ _ _ _ _ _ τ (by omega) hE hB hC (sk_Yv_t hV hIτ (fun a c g => hft a c (by omega) (by omega) (by omega)) (by rw [hft 9 0 (by omega) (by omega) (by omega), hft 9 1 (by omega) (by omega) (by omega)]; exact h39)) (fun t a1 a2 => by
                            (try dsimp only)
                            by_cases e : t = 10 * v335 + v432
                            · rw [if_pos e, e, e178, hc0]
                            · rw [if_neg e, hft 178 t (by omega) (by omega) (by omega)]; exact hCv t a1 a2)
                        | exact ih (j + 1) _ _ _ _ _ _ _ _ _ X _ χ (by omega) hE hB hC (sk_Yv_q (sk_Yv_t hV hIτ (fun a c g => hf1 a c (by omega) (by omega) (by omega) (by omega) (by omega)) (by rw [hf1 9 0 (by omega) (by omega) (by omega) (by omega) (by omega), e91]; omega)) hqχ) (fun t a1 a2 => by rw [hqχ.1 178 t (by omega) (by omega), hf1 178 t (by omega) (by omega) (by omega) (by omega) (by omega)]; exact hCv t a1 a2)
                        | exact ih (j + 1) _ _ _ _ _ _ _ _ _ X _ τ (by omega) hE hB hC hV hCv
                        | exact ih (j + 1) _ _ _ _ _ _ _ _ _ X _ σ (by omega) hE hB hC hV hCv
                    · exfalso; omega
          · refine sn_q_aloadn sn_bc_129 dL_law_416 rfl ?_
            refine sn_q_iload sn_bc_129 dL_law_417 rfl ?_
            refine sn_q_iconst sn_bc_129 dL_law_419 rfl ?_
            refine sn_q_invV sn_bc_129 dL_law_420 sn_oc_129 sn_pv_10_54 (by decide) rfl (by decide) (sn_h1 (by decide)) rfl rfl rfl rfl (sk_ofSong4x (sk_ext_YX hE hYX) hI w0 w8 w10 (fun τ e4 hq h11 => ?_))
            have hV := sk_Yv_q hV hq
            have q91 := hq.1 9 1 (by omega) (by omega)
            have w10 : τ 10 w ≠ 0 := by rw [hq.1 10 w (by omega) (by omega)]; exact w10
            have hCv : ∀ t, 0 ≤ t → t < 10 * N → C t = τ 178 t := fun t a1 a2 => by rw [hq.1 178 t (by omega) (by omega)]; exact hCv t a1 a2
            have hI := hV.1
            have hph := hV.2.2.1
            have hS9 := hV.2.2.2.1
            have h39 := hV.2.2.2.2.1
            have hN0 := hV.2.1.2.1
            have hlim := hV.2.1.2.2.2.2.2.1
            have hA := sk_A_bd hI.2.1
            have h15 := hI.2.2.1.1
            refine sn_q_ifne (t := 548) sn_bc_129 dL_law_423 rfl (fun c_423 => ?_) (fun c_423 => ?_)
            · refine sn_q_iload sn_bc_129 dL_law_548 rfl ?_
              refine sn_q_bipush sn_bc_129 dL_law_550 rfl ?_
              refine sn_q_icne (t := 610) sn_bc_129 dL_law_552 rfl (fun c_552 => ?_) (fun c_552 => ?_)
              · refine sn_q_iincL sn_bc_129 dL_law_610 (show (11 : Nat) < 19 from by decide) rfl rfl (by omega) (by omega) rfl ?_
                refine sn_q_goto (t := 303) sn_bc_129 dL_law_613 rfl ?_
                first
                  | exact ih (j + 1) _ _ _ _ _ _ _ _ _ X _ τ (by omega) hE hB hC (sk_Yv_t hV hIτ (fun a c g => hft a c (by omega) (by omega)) (by rw [hft 9 0 (by omega) (by omega), hft 9 1 (by omega) (by omega)]; exact h39)) (fun t a1 a2 => by rw [hft 178 t (by omega) (by omega)]; exact hCv t a1 a2)
                  | exact ih (j + 1) _ _ _ _ _ _ _ _ _ _ _ τ (by omega) hE hB hC (sk_Yv_t hV hIτ (fun a c g => hft a c (by omega) (by omega) (by omega)) (by rw [hft 9 0 (by omega) (by omega) (by omega), hft 9 1 (by omega) (by omega) (by omega)]; exact h39)) (fun t a1 a2 => by
                      (try dsimp only)
                      by_cases e : t = 10 * v335 + v432
                      · rw [if_pos e, e, e178, hc0]
                      · rw [if_neg e, hft 178 t (by omega) (by omega) (by omega)]; exact hCv t a1 a2)
                  | exact ih (j + 1) _ _ _ _ _ _ _ _ _ X _ χ (by omega) hE hB hC (sk_Yv_q (sk_Yv_t hV hIτ (fun a c g => hf1 a c (by omega) (by omega) (by omega) (by omega) (by omega)) (by rw [hf1 9 0 (by omega) (by omega) (by omega) (by omega) (by omega), e91]; omega)) hqχ) (fun t a1 a2 => by rw [hqχ.1 178 t (by omega) (by omega), hf1 178 t (by omega) (by omega) (by omega) (by omega) (by omega)]; exact hCv t a1 a2)
                  | exact ih (j + 1) _ _ _ _ _ _ _ _ _ X _ τ (by omega) hE hB hC hV hCv
                  | exact ih (j + 1) _ _ _ _ _ _ _ _ _ X _ σ (by omega) hE hB hC hV hCv
              · refine sn_q_aloadn sn_bc_129 dL_law_555 rfl ?_
                refine sn_q_iconst sn_bc_129 dL_law_556 rfl ?_
                refine sn_q_invV sn_bc_129 dL_law_557 sn_oc_129 sn_pv_10_33 (by decide) rfl (by decide) (sn_h1 (by decide)) rfl rfl rfl rfl (sk_many3 (sk_ext_YX hE hYX) hI (fun τ hq => ?_))
                have hV := sk_Yv_q hV hq
                have q91 := hq.1 9 1 (by omega) (by omega)
                have w10 : τ 10 w ≠ 0 := by rw [hq.1 10 w (by omega) (by omega)]; exact w10
                have hCv : ∀ t, 0 ≤ t → t < 10 * N → C t = τ 178 t := fun t a1 a2 => by rw [hq.1 178 t (by omega) (by omega)]; exact hCv t a1 a2
                have hI := hV.1
                have hph := hV.2.2.1
                have hS9 := hV.2.2.2.1
                have h39 := hV.2.2.2.2.1
                have hN0 := hV.2.1.2.1
                have hlim := hV.2.1.2.2.2.2.2.1
                have hA := sk_A_bd hI.2.1
                have h15 := hI.2.2.1.1
                refine sn_q_aloadn sn_bc_129 dL_law_560 rfl ?_
                refine sn_q_iconst sn_bc_129 dL_law_561 rfl ?_
                refine sn_q_invV sn_bc_129 dL_law_562 sn_oc_129 sn_pv_10_33 (by decide) rfl (by decide) (sn_h1 (by decide)) rfl rfl rfl rfl (sk_many4 (sk_ext_YX hE hYX) hI (fun τ hq => ?_))
                have hV := sk_Yv_q hV hq
                have q91 := hq.1 9 1 (by omega) (by omega)
                have w10 : τ 10 w ≠ 0 := by rw [hq.1 10 w (by omega) (by omega)]; exact w10
                have hCv : ∀ t, 0 ≤ t → t < 10 * N → C t = τ 178 t := fun t a1 a2 => by rw [hq.1 178 t (by omega) (by omega)]; exact hCv t a1 a2
                have hI := hV.1
                have hph := hV.2.2.1
                have hS9 := hV.2.2.2.1
                have h39 := hV.2.2.2.2.1
                have hN0 := hV.2.1.2.1
                have hlim := hV.2.1.2.2.2.2.2.1
                have hA := sk_A_bd hI.2.1
                have h15 := hI.2.2.1.1
                refine sn_q_isub sn_bc_129 dL_law_565 (by omega) (by omega) ?_
                refine sn_q_iconst sn_bc_129 dL_law_566 rfl ?_
                refine sn_q_icle (t := 610) sn_bc_129 dL_law_567 rfl (fun c_567 => ?_) (fun c_567 => ?_)
                · refine sn_q_iincL sn_bc_129 dL_law_610 (show (11 : Nat) < 19 from by decide) rfl rfl (by omega) (by omega) rfl ?_
                  refine sn_q_goto (t := 303) sn_bc_129 dL_law_613 rfl ?_
                  first
                    | exact ih (j + 1) _ _ _ _ _ _ _ _ _ X _ τ (by omega) hE hB hC (sk_Yv_t hV hIτ (fun a c g => hft a c (by omega) (by omega)) (by rw [hft 9 0 (by omega) (by omega), hft 9 1 (by omega) (by omega)]; exact h39)) (fun t a1 a2 => by rw [hft 178 t (by omega) (by omega)]; exact hCv t a1 a2)
                    | exact ih (j + 1) _ _ _ _ _ _ _ _ _ _ _ τ (by omega) hE hB hC (sk_Yv_t hV hIτ (fun a c g => hft a c (by omega) (by omega) (by omega)) (by rw [hft 9 0 (by omega) (by omega) (by omega), hft 9 1 (by omega) (by omega) (by omega)]; exact h39)) (fun t a1 a2 => by
                        (try dsimp only)
                        by_cases e : t = 10 * v335 + v432
                        · rw [if_pos e, e, e178, hc0]
                        · rw [if_neg e, hft 178 t (by omega) (by omega) (by omega)]; exact hCv t a1 a2)
                    | exact ih (j + 1) _ _ _ _ _ _ _ _ _ X _ χ (by omega) hE hB hC (sk_Yv_q (sk_Yv_t hV hIτ (fun a c g => hf1 a c (by omega) (by omega) (by omega) (by omega) (by omega)) (by rw [hf1 9 0 (by omega) (by omega) (by omega) (by omega) (by omega), e91]; omega)) hqχ) (fun t a1 a2 => by rw [hqχ.1 178 t (by omega) (by omega), hf1 178 t (by omega) (by omega) (by omega) (by omega) (by omega)]; exact hCv t a1 a2)
                    | exact ih (j + 1) _ _ _ _ _ _ _ _ _ X _ τ (by omega) hE hB hC hV hCv
                    | exact ih (j + 1) _ _ _ _ _ _ _ _ _ X _ σ (by omega) hE hB hC hV hCv
                · refine sn_q_aloadn sn_bc_129 dL_law_570 rfl ?_
                  refine sn_q_iload sn_bc_129 dL_law_571 rfl ?_
                  refine sn_q_iconst sn_bc_129 dL_law_573 rfl ?_
                  refine sn_q_invV sn_bc_129 dL_law_574 sn_oc_129 sn_pv_10_54 (by decide) rfl (by decide) (sn_h1 (by decide)) rfl rfl rfl rfl (sk_ofSong4x (sk_ext_YX hE hYX) hI w0 w8 w10 (fun τ e4 hq h11 => ?_))
                  have hV := sk_Yv_q hV hq
                  have q91 := hq.1 9 1 (by omega) (by omega)
                  have w10 : τ 10 w ≠ 0 := by rw [hq.1 10 w (by omega) (by omega)]; exact w10
                  have hCv : ∀ t, 0 ≤ t → t < 10 * N → C t = τ 178 t := fun t a1 a2 => by rw [hq.1 178 t (by omega) (by omega)]; exact hCv t a1 a2
                  have hI := hV.1
                  have hph := hV.2.2.1
                  have hS9 := hV.2.2.2.1
                  have h39 := hV.2.2.2.2.1
                  have hN0 := hV.2.1.2.1
                  have hlim := hV.2.1.2.2.2.2.2.1
                  have hA := sk_A_bd hI.2.1
                  have h15 := hI.2.2.1.1
                  refine sn_q_ifne (t := 610) sn_bc_129 dL_law_577 rfl (fun c_577 => ?_) (fun c_577 => ?_)
                  · refine sn_q_iincL sn_bc_129 dL_law_610 (show (11 : Nat) < 19 from by decide) rfl rfl (by omega) (by omega) rfl ?_
                    refine sn_q_goto (t := 303) sn_bc_129 dL_law_613 rfl ?_
                    first
                      | exact ih (j + 1) _ _ _ _ _ _ _ _ _ X _ τ (by omega) hE hB hC (sk_Yv_t hV hIτ (fun a c g => hft a c (by omega) (by omega)) (by rw [hft 9 0 (by omega) (by omega), hft 9 1 (by omega) (by omega)]; exact h39)) (fun t a1 a2 => by rw [hft 178 t (by omega) (by omega)]; exact hCv t a1 a2)
                      | exact ih (j + 1) _ _ _ _ _ _ _ _ _ _ _ τ (by omega) hE hB hC (sk_Yv_t hV hIτ (fun a c g => hft a c (by omega) (by omega) (by omega)) (by rw [hft 9 0 (by omega) (by omega) (by omega), hft 9 1 (by omega) (by omega) (by omega)]; exact h39)) (fun t a1 a2 => by
                          (try dsimp only)
                          by_cases e : t = 10 * v335 + v432
                          · rw [if_pos e, e, e178, hc0]
                          · rw [if_neg e, hft 178 t (by omega) (by omega) (by omega)]; exact hCv t a1 a2)
                      | exact ih (j + 1) _ _ _ _ _ _ _ _ _ X _ χ (by omega) hE hB hC (sk_Yv_q (sk_Yv_t hV hIτ (fun a c g => hf1 a c (by omega) (by omega) (by omega) (by omega) (by omega)) (by rw [hf1 9 0 (by omega) (by omega) (by omega) (by omega) (by omega), e91]; omega)) hqχ) (fun t a1 a2 => by rw [hqχ.1 178 t (by omega) (by omega), hf1 178 t (by omega) (by omega) (by omega) (by omega) (by omega)]; exact hCv t a1 a2)
                      | exact ih (j + 1) _ _ _ _ _ _ _ _ _ X _ τ (by omega) hE hB hC hV hCv
                      | exact ih (j + 1) _ _ _ _ _ _ _ _ _ X _ σ (by omega) hE hB hC hV hCv
                  · refine sn_q_iload sn_bc_129 dL_law_580 rfl ?_
                    refine sn_q_iconst sn_bc_129 dL_law_582 rfl ?_
                    refine sn_q_ishr sn_bc_129 dL_law_583 ?_
                    refine sn_q_iconst sn_bc_129 dL_law_584 rfl ?_
                    refine sn_q_invS sn_bc_129 dL_law_585 sn_oc_129 sn_px_10_18 sn_ps_10_18 (by decide) rfl rfl rfl (sk_belowG (by omega) (by omega) (fun v585 a585 b585 => ?_))
                    refine sn_q_ifne (t := 610) sn_bc_129 dL_law_588 rfl (fun c_588 => ?_) (fun c_588 => ?_)
                    · refine sn_q_iincL sn_bc_129 dL_law_610 (show (11 : Nat) < 19 from by decide) rfl rfl (by omega) (by omega) rfl ?_
                      refine sn_q_goto (t := 303) sn_bc_129 dL_law_613 rfl ?_
                      first
                        | exact ih (j + 1) _ _ _ _ _ _ _ _ _ X _ τ (by omega) hE hB hC (sk_Yv_t hV hIτ (fun a c g => hft a c (by omega) (by omega)) (by rw [hft 9 0 (by omega) (by omega), hft 9 1 (by omega) (by omega)]; exact h39)) (fun t a1 a2 => by rw [hft 178 t (by omega) (by omega)]; exact hCv t a1 a2)
                        | exact ih (j + 1) _ _ _ _ _ _ _ _ _ _ _ τ (by omega) hE hB hC (sk_Yv_t hV hIτ (fun a c g => hft a c (by omega) (by omega) (by omega)) (by rw [hft 9 0 (by omega) (by omega) (by omega), hft 9 1 (by omega) (by omega) (by omega)]; exact h39)) (fun t a1 a2 => by
                            (try dsimp only)
                            by_cases e : t = 10 * v335 + v432
                            · rw [if_pos e, e, e178, hc0]
                            · rw [if_neg e, hft 178 t (by omega) (by omega) (by omega)]; exact hCv t a1 a2)
                        | exact ih (j + 1) _ _ _ _ _ _ _ _ _ X _ χ (by omega) hE hB hC (sk_Yv_q (sk_Yv_t hV hIτ (fun a c g => hf1 a c (by omega) (by omega) (by omega) (by omega) (by omega)) (by rw [hf1 9 0 (by omega) (by omega) (by omega) (by omega) (by omega), e91]; omega)) hqχ) (fun t a1 a2 => by rw [hqχ.1 178 t (by omega) (by omega), hf1 178 t (by omega) (by omega) (by omega) (by omega) (by omega)]; exact hCv t a1 a2)
                        | exact ih (j + 1) _ _ _ _ _ _ _ _ _ X _ τ (by omega) hE hB hC hV hCv
                        | exact ih (j + 1) _ _ _ _ _ _ _ _ _ X _ σ (by omega) hE hB hC hV hCv
                    · refine sn_q_aloadn sn_bc_129 dL_law_591 rfl ?_
                      refine sn_q_iload sn_bc_129 dL_law_592 rfl ?_
                      refine sn_q_invV sn_bc_129 dL_law_594 sn_oc_129 sn_pv_10_60 (by decide) rfl (by decide) (sn_h1 (by decide)) rfl rfl rfl rfl (sk_disqualify hI (Or.inl hph) w0 (by omega) w10 (h11 (by omega)) (by omega) (fun τ hIτ hft e11 e91 h219 h227 => ?_))
                      have hf1 := hft
                      have hI := hIτ
                      refine sn_q_iload sn_bc_129 dL_law_597 rfl ?_
                      refine sn_q_aloadn sn_bc_129 dL_law_599 rfl ?_
                      refine sn_q_iconst sn_bc_129 dL_law_600 rfl ?_
                      refine sn_q_invV sn_bc_129 dL_law_601 sn_oc_129 sn_pv_10_33 (by decide) rfl (by decide) (sn_h1 (by decide)) rfl rfl rfl rfl (sk_many4 (sk_ext_YX hE hYX) hI (fun χ hqχ => ?_))
                      have p91 : χ 9 1 = τ 9 1 := hqχ.1 9 1 (by omega) (by omega)
                      rw [p91, e91]
                      refine sn_q_isub sn_bc_129 dL_law_604 (by omega) (by omega) ?_
                      refine sn_q_iceq (t := 610) sn_bc_129 dL_law_605 rfl (fun c_605 => ?_) (fun c_605 => ?_)
                      · refine sn_q_iincL sn_bc_129 dL_law_610 (show (11 : Nat) < 19 from by decide) rfl rfl (by omega) (by omega) rfl ?_
                        refine sn_q_goto (t := 303) sn_bc_129 dL_law_613 rfl ?_
                        first
                          | exact ih (j + 1) _ _ _ _ _ _ _ _ _ X _ τ (by omega) hE hB hC (sk_Yv_t hV hIτ (fun a c g => hft a c (by omega) (by omega)) (by rw [hft 9 0 (by omega) (by omega), hft 9 1 (by omega) (by omega)]; exact h39)) (fun t a1 a2 => by rw [hft 178 t (by omega) (by omega)]; exact hCv t a1 a2)
                          | exact ih (j + 1) _ _ _ _ _ _ _ _ _ _ _ τ (by omega) hE hB hC (sk_Yv_t hV hIτ (fun a c g => hft a c (by omega) (by omega) (by omega)) (by rw [hft 9 0 (by omega) (by omega) (by omega), hft 9 1 (by omega) (by omega) (by omega)]; exact h39)) (fun t a1 a2 => by
                              (try dsimp only)
                              by_cases e : t = 10 * v335 + v432
                              · rw [if_pos e, e, e178, hc0]
                              · rw [if_neg e, hft 178 t (by omega) (by omega) (by omega)]; exact hCv t a1 a2)
                          | exact ih (j + 1) _ _ _ _ _ _ _ _ _ X _ χ (by omega) hE hB hC (sk_Yv_q (sk_Yv_t hV hIτ (fun a c g => hf1 a c (by omega) (by omega) (by omega) (by omega) (by omega)) (by rw [hf1 9 0 (by omega) (by omega) (by omega) (by omega) (by omega), e91]; omega)) hqχ) (fun t a1 a2 => by rw [hqχ.1 178 t (by omega) (by omega), hf1 178 t (by omega) (by omega) (by omega) (by omega) (by omega)]; exact hCv t a1 a2)
                          | exact ih (j + 1) _ _ _ _ _ _ _ _ _ X _ τ (by omega) hE hB hC hV hCv
                          | exact ih (j + 1) _ _ _ _ _ _ _ _ _ X _ σ (by omega) hE hB hC hV hCv
                      · exfalso; omega
            · refine sn_q_iload sn_bc_129 dL_law_426 rfl ?_
              refine sn_q_iconst sn_bc_129 dL_law_428 rfl ?_
              refine sn_q_ishr sn_bc_129 dL_law_429 ?_
              refine sn_q_bipush sn_bc_129 dL_law_430 rfl ?_
              refine sn_q_invS sn_bc_129 dL_law_432 sn_oc_129 sn_px_10_18 sn_ps_10_18 (by decide) rfl rfl rfl (sk_belowG (by omega) (by omega) (fun v432 a432 b432 => ?_))
              refine sn_q_istoreL sn_bc_129 dL_law_435 (show (16 : Nat) < 19 from by decide) rfl rfl ?_
              refine sn_q_iload sn_bc_129 dL_law_437 rfl ?_
              refine sn_q_bipush sn_bc_129 dL_law_439 rfl ?_
              refine sn_q_ishr sn_bc_129 dL_law_441 ?_
              refine sn_q_iconst sn_bc_129 dL_law_442 rfl ?_
              refine sn_q_invS sn_bc_129 dL_law_443 sn_oc_129 sn_px_10_18 sn_ps_10_18 (by decide) rfl rfl rfl (sk_belowG (by omega) (by omega) (fun v443 a443 b443 => ?_))
              refine sn_q_ifne (t := 454) sn_bc_129 dL_law_446 rfl (fun c_446 => ?_) (fun c_446 => ?_)
              · refine sn_q_iconst sn_bc_129 dL_law_454 rfl ?_
                refine sn_q_iload sn_bc_129 dL_law_455 rfl ?_
                refine sn_q_iconst sn_bc_129 dL_law_457 rfl ?_
                refine sn_q_ishr sn_bc_129 dL_law_458 ?_
                refine sn_q_bipush sn_bc_129 dL_law_459 rfl ?_
                refine sn_q_invS sn_bc_129 dL_law_461 sn_oc_129 sn_px_10_18 sn_ps_10_18 (by decide) rfl rfl rfl (sk_belowG (by omega) (by omega) (fun v461 a461 b461 => ?_))
                refine sn_q_iadd sn_bc_129 dL_law_464 (by omega) (by omega) ?_
                refine sn_q_istoreL sn_bc_129 dL_law_465 (show (17 : Nat) < 19 from by decide) rfl rfl ?_
                refine sn_q_aloadn sn_bc_129 dL_law_467 rfl ?_
                refine sn_q_iload sn_bc_129 dL_law_468 rfl ?_
                refine sn_q_iload sn_bc_129 dL_law_470 rfl ?_
                refine sn_q_iload sn_bc_129 dL_law_472 rfl ?_
                refine sn_q_iload sn_bc_129 dL_law_474 rfl ?_
                refine sn_q_invV sn_bc_129 dL_law_476 sn_oc_129 sn_pv_10_57 (by decide) rfl (by decide) (sn_h1 (by decide)) rfl rfl rfl rfl (sk_call hI hph (by omega) (by omega) (by omega) (by omega) w0 w8 w10 (h11 (by omega)) (by omega) (by omega) (by omega) (fun t τ t0 tm tl tf e178 hIτ hft => ?_))
                have hIσ := hI
                have hI := hIτ
                have e19 : v335 * 10 + v432 = 10 * v335 + v432 := by omega
                rw [e19] at tl tf e178
                refine sn_q_istoreL sn_bc_129 dL_law_479 (show (18 : Nat) < 19 from by decide) rfl rfl ?_
                refine sn_q_aload sn_bc_129 dL_law_481 rfl ?_
                refine sn_q_bipush sn_bc_129 dL_law_483 rfl ?_
                refine sn_q_iload sn_bc_129 dL_law_485 rfl ?_
                refine sn_q_imul sn_bc_129 dL_law_487 (by omega) (by omega) ?_
                refine sn_q_iload sn_bc_129 dL_law_488 rfl ?_
                refine sn_q_iadd sn_bc_129 dL_law_490 (by omega) (by omega) ?_
                refine sn_q_dup2 sn_bc_129 dL_law_491 rfl ?_
                refine sk_l_iald hC sn_bc_129 dL_law_492 (by omega) (by omega) ?_
                have hc0 := hCv (10 * v335 + v432) (by omega) (by omega)
                have hu := hIσ.2.2.2.2.2.1 (10 * v335 + v432) (by omega) (by omega)
                refine sn_q_iload sn_bc_129 dL_law_493 rfl ?_
                refine sn_q_iadd sn_bc_129 dL_law_495 (by omega) (by omega) ?_
                refine sk_l_iast hC sn_bc_129 dL_law_496 (by omega) (by omega) (fun hC => ?_)
                have hE := sk_ext_v hE hC (by omega)
                have hB := sk_ar_v hB hC (by omega)
                refine sn_q_iload sn_bc_129 dL_law_497 rfl ?_
                refine sn_q_iload sn_bc_129 dL_law_499 rfl ?_
                refine sn_q_icgt (t := 543) sn_bc_129 dL_law_501 rfl (fun c_501 => ?_) (fun c_501 => ?_)
                · exfalso; omega
                · refine sn_q_aload sn_bc_129 dL_law_504 rfl ?_
                  refine sn_q_bipush sn_bc_129 dL_law_506 rfl ?_
                  refine sn_q_iload sn_bc_129 dL_law_508 rfl ?_
                  refine sn_q_imul sn_bc_129 dL_law_510 (by omega) (by omega) ?_
                  refine sn_q_iload sn_bc_129 dL_law_511 rfl ?_
                  refine sn_q_iadd sn_bc_129 dL_law_513 (by omega) (by omega) ?_
                  refine sk_l_iald hC sn_bc_129 dL_law_514 (by omega) (by omega) ?_
                  rw [if_pos rfl]
                  refine sn_q_iload sn_bc_129 dL_law_515 rfl ?_
                  refine sn_q_icgt (t := 543) sn_bc_129 dL_law_517 rfl (fun c_517 => ?_) (fun c_517 => ?_)
                  · exfalso; omega
                  · refine sn_q_iload sn_bc_129 dL_law_520 rfl ?_
                    refine sn_q_iload sn_bc_129 dL_law_522 rfl ?_
                    refine sn_q_icge (t := 545) sn_bc_129 dL_law_524 rfl (fun c_524 => ?_) (fun c_524 => ?_)
                    · refine sn_q_goto (t := 610) sn_bc_129 dL_law_545 rfl ?_
                      refine sn_q_iincL sn_bc_129 dL_law_610 (show (11 : Nat) < 19 from by decide) rfl rfl (by omega) (by omega) rfl ?_
                      refine sn_q_goto (t := 303) sn_bc_129 dL_law_613 rfl ?_
                      first
                        | exact ih (j + 1) _ _ _ _ _ _ _ _ _ X _ τ (by omega) hE hB hC (sk_Yv_t hV hIτ (fun a c g => hft a c (by omega) (by omega)) (by rw [hft 9 0 (by omega) (by omega), hft 9 1 (by omega) (by omega)]; exact h39)) (fun t a1 a2 => by rw [hft 178 t (by omega) (by omega)]; exact hCv t a1 a2)
                        | exact ih (j + 1) _ _ _ _ _ _ _ _ _ _ _ τ (by omega) hE hB hC (sk_Yv_t hV hIτ (fun a c g => hft a c (by omega) (by omega) (by omega)) (by rw [hft 9 0 (by omega) (by omega) (by omega), hft 9 1 (by omega) (by omega) (by omega)]; exact h39)) (fun t a1 a2 => by
                            (try dsimp only)
                            by_cases e : t = 10 * v335 + v432
                            · rw [if_pos e, e, e178, hc0]
                            · rw [if_neg e, hft 178 t (by omega) (by omega) (by omega)]; exact hCv t a1 a2)
                        | exact ih (j + 1) _ _ _ _ _ _ _ _ _ X _ χ (by omega) hE hB hC (sk_Yv_q (sk_Yv_t hV hIτ (fun a c g => hf1 a c (by omega) (by omega) (by omega) (by omega) (by omega)) (by rw [hf1 9 0 (by omega) (by omega) (by omega) (by omega) (by omega), e91]; omega)) hqχ) (fun t a1 a2 => by rw [hqχ.1 178 t (by omega) (by omega), hf1 178 t (by omega) (by omega) (by omega) (by omega) (by omega)]; exact hCv t a1 a2)
                        | exact ih (j + 1) _ _ _ _ _ _ _ _ _ X _ τ (by omega) hE hB hC hV hCv
                        | exact ih (j + 1) _ _ _ _ _ _ _ _ _ X _ σ (by omega) hE hB hC hV hCv
                    · refine sn_q_aload sn_bc_129 dL_law_527 rfl ?_
                      refine sn_q_bipush sn_bc_129 dL_law_529 rfl ?_
                      refine sn_q_iload sn_bc_129 dL_law_531 rfl ?_
                      refine sn_q_imul sn_bc_129 dL_law_533 (by omega) (by omega) ?_
                      refine sn_q_iload sn_bc_129 dL_law_534 rfl ?_
                      refine sn_q_iadd sn_bc_129 dL_law_536 (by omega) (by omega) ?_
                      refine sk_l_iald hC sn_bc_129 dL_law_537 (by omega) (by omega) ?_
                      rw [if_pos rfl]
                      refine sn_q_iload sn_bc_129 dL_law_538 rfl ?_
                      refine sn_q_icge (t := 545) sn_bc_129 dL_law_540 rfl (fun c_540 => ?_) (fun c_540 => ?_)
                      · refine sn_q_goto (t := 610) sn_bc_129 dL_law_545 rfl ?_
                        refine sn_q_iincL sn_bc_129 dL_law_610 (show (11 : Nat) < 19 from by decide) rfl rfl (by omega) (by omega) rfl ?_
                        refine sn_q_goto (t := 303) sn_bc_129 dL_law_613 rfl ?_
                        first
                          | exact ih (j + 1) _ _ _ _ _ _ _ _ _ X _ τ (by omega) hE hB hC (sk_Yv_t hV hIτ (fun a c g => hft a c (by omega) (by omega)) (by rw [hft 9 0 (by omega) (by omega), hft 9 1 (by omega) (by omega)]; exact h39)) (fun t a1 a2 => by rw [hft 178 t (by omega) (by omega)]; exact hCv t a1 a2)
                          | exact ih (j + 1) _ _ _ _ _ _ _ _ _ _ _ τ (by omega) hE hB hC (sk_Yv_t hV hIτ (fun a c g => hft a c (by omega) (by omega) (by omega)) (by rw [hft 9 0 (by omega) (by omega) (by omega), hft 9 1 (by omega) (by omega) (by omega)]; exact h39)) (fun t a1 a2 => by
                              (try dsimp only)
                              by_cases e : t = 10 * v335 + v432
                              · rw [if_pos e, e, e178, hc0]
                              · rw [if_neg e, hft 178 t (by omega) (by omega) (by omega)]; exact hCv t a1 a2)
                          | exact ih (j + 1) _ _ _ _ _ _ _ _ _ X _ χ (by omega) hE hB hC (sk_Yv_q (sk_Yv_t hV hIτ (fun a c g => hf1 a c (by omega) (by omega) (by omega) (by omega) (by omega)) (by rw [hf1 9 0 (by omega) (by omega) (by omega) (by omega) (by omega), e91]; omega)) hqχ) (fun t a1 a2 => by rw [hqχ.1 178 t (by omega) (by omega), hf1 178 t (by omega) (by omega) (by omega) (by omega) (by omega)]; exact hCv t a1 a2)
                          | exact ih (j + 1) _ _ _ _ _ _ _ _ _ X _ τ (by omega) hE hB hC hV hCv
                          | exact ih (j + 1) _ _ _ _ _ _ _ _ _ X _ σ (by omega) hE hB hC hV hCv
                      · exfalso; omega
              · refine sn_q_iload sn_bc_129 dL_law_449 rfl ?_
                refine sn_q_goto (t := 465) sn_bc_129 dL_law_451 rfl ?_
                refine sn_q_istoreL sn_bc_129 dL_law_465 (show (17 : Nat) < 19 from by decide) rfl rfl ?_
                refine sn_q_aloadn sn_bc_129 dL_law_467 rfl ?_
                refine sn_q_iload sn_bc_129 dL_law_468 rfl ?_
                refine sn_q_iload sn_bc_129 dL_law_470 rfl ?_
                refine sn_q_iload sn_bc_129 dL_law_472 rfl ?_
                refine sn_q_iload sn_bc_129 dL_law_474 rfl ?_
                refine sn_q_invV sn_bc_129 dL_law_476 sn_oc_129 sn_pv_10_57 (by decide) rfl (by decide) (sn_h1 (by decide)) rfl rfl rfl rfl (sk_call hI hph (by omega) (by omega) (by omega) (by omega) w0 w8 w10 (h11 (by omega)) (by omega) (by omega) (by omega) (fun t τ t0 tm tl tf e178 hIτ hft => ?_))
                have hIσ := hI
                have hI := hIτ
                have e19 : v335 * 10 + v432 = 10 * v335 + v432 := by omega
                rw [e19] at tl tf e178
                refine sn_q_istoreL sn_bc_129 dL_law_479 (show (18 : Nat) < 19 from by decide) rfl rfl ?_
                refine sn_q_aload sn_bc_129 dL_law_481 rfl ?_
                refine sn_q_bipush sn_bc_129 dL_law_483 rfl ?_
                refine sn_q_iload sn_bc_129 dL_law_485 rfl ?_
                refine sn_q_imul sn_bc_129 dL_law_487 (by omega) (by omega) ?_
                refine sn_q_iload sn_bc_129 dL_law_488 rfl ?_
                refine sn_q_iadd sn_bc_129 dL_law_490 (by omega) (by omega) ?_
                refine sn_q_dup2 sn_bc_129 dL_law_491 rfl ?_
                refine sk_l_iald hC sn_bc_129 dL_law_492 (by omega) (by omega) ?_
                have hc0 := hCv (10 * v335 + v432) (by omega) (by omega)
                have hu := hIσ.2.2.2.2.2.1 (10 * v335 + v432) (by omega) (by omega)
                refine sn_q_iload sn_bc_129 dL_law_493 rfl ?_
                refine sn_q_iadd sn_bc_129 dL_law_495 (by omega) (by omega) ?_
                refine sk_l_iast hC sn_bc_129 dL_law_496 (by omega) (by omega) (fun hC => ?_)
                have hE := sk_ext_v hE hC (by omega)
                have hB := sk_ar_v hB hC (by omega)
                refine sn_q_iload sn_bc_129 dL_law_497 rfl ?_
                refine sn_q_iload sn_bc_129 dL_law_499 rfl ?_
                refine sn_q_icgt (t := 543) sn_bc_129 dL_law_501 rfl (fun c_501 => ?_) (fun c_501 => ?_)
                · exfalso; omega
                · refine sn_q_aload sn_bc_129 dL_law_504 rfl ?_
                  refine sn_q_bipush sn_bc_129 dL_law_506 rfl ?_
                  refine sn_q_iload sn_bc_129 dL_law_508 rfl ?_
                  refine sn_q_imul sn_bc_129 dL_law_510 (by omega) (by omega) ?_
                  refine sn_q_iload sn_bc_129 dL_law_511 rfl ?_
                  refine sn_q_iadd sn_bc_129 dL_law_513 (by omega) (by omega) ?_
                  refine sk_l_iald hC sn_bc_129 dL_law_514 (by omega) (by omega) ?_
                  rw [if_pos rfl]
                  refine sn_q_iload sn_bc_129 dL_law_515 rfl ?_
                  refine sn_q_icgt (t := 543) sn_bc_129 dL_law_517 rfl (fun c_517 => ?_) (fun c_517 => ?_)
                  · exfalso; omega
                  · refine sn_q_iload sn_bc_129 dL_law_520 rfl ?_
                    refine sn_q_iload sn_bc_129 dL_law_522 rfl ?_
                    refine sn_q_icge (t := 545) sn_bc_129 dL_law_524 rfl (fun c_524 => ?_) (fun c_524 => ?_)
                    · refine sn_q_goto (t := 610) sn_bc_129 dL_law_545 rfl ?_
                      refine sn_q_iincL sn_bc_129 dL_law_610 (show (11 : Nat) < 19 from by decide) rfl rfl (by omega) (by omega) rfl ?_
                      refine sn_q_goto (t := 303) sn_bc_129 dL_law_613 rfl ?_
                      first
                        | exact ih (j + 1) _ _ _ _ _ _ _ _ _ X _ τ (by omega) hE hB hC (sk_Yv_t hV hIτ (fun a c g => hft a c (by omega) (by omega)) (by rw [hft 9 0 (by omega) (by omega), hft 9 1 (by omega) (by omega)]; exact h39)) (fun t a1 a2 => by rw [hft 178 t (by omega) (by omega)]; exact hCv t a1 a2)
                        | exact ih (j + 1) _ _ _ _ _ _ _ _ _ _ _ τ (by omega) hE hB hC (sk_Yv_t hV hIτ (fun a c g => hft a c (by omega) (by omega) (by omega)) (by rw [hft 9 0 (by omega) (by omega) (by omega), hft 9 1 (by omega) (by omega) (by omega)]; exact h39)) (fun t a1 a2 => by
                            (try dsimp only)
                            by_cases e : t = 10 * v335 + v432
                            · rw [if_pos e, e, e178, hc0]
                            · rw [if_neg e, hft 178 t (by omega) (by omega) (by omega)]; exact hCv t a1 a2)
                        | exact ih (j + 1) _ _ _ _ _ _ _ _ _ X _ χ (by omega) hE hB hC (sk_Yv_q (sk_Yv_t hV hIτ (fun a c g => hf1 a c (by omega) (by omega) (by omega) (by omega) (by omega)) (by rw [hf1 9 0 (by omega) (by omega) (by omega) (by omega) (by omega), e91]; omega)) hqχ) (fun t a1 a2 => by rw [hqχ.1 178 t (by omega) (by omega), hf1 178 t (by omega) (by omega) (by omega) (by omega) (by omega)]; exact hCv t a1 a2)
                        | exact ih (j + 1) _ _ _ _ _ _ _ _ _ X _ τ (by omega) hE hB hC hV hCv
                        | exact ih (j + 1) _ _ _ _ _ _ _ _ _ X _ σ (by omega) hE hB hC hV hCv
                    · refine sn_q_aload sn_bc_129 dL_law_527 rfl ?_
                      refine sn_q_bipush sn_bc_129 dL_law_529 rfl ?_
                      refine sn_q_iload sn_bc_129 dL_law_531 rfl ?_
                      refine sn_q_imul sn_bc_129 dL_law_533 (by omega) (by omega) ?_
                      refine sn_q_iload sn_bc_129 dL_law_534 rfl ?_
                      refine sn_q_iadd sn_bc_129 dL_law_536 (by omega) (by omega) ?_
                      refine sk_l_iald hC sn_bc_129 dL_law_537 (by omega) (by omega) ?_
                      rw [if_pos rfl]
                      refine sn_q_iload sn_bc_129 dL_law_538 rfl ?_
                      refine sn_q_icge (t := 545) sn_bc_129 dL_law_540 rfl (fun c_540 => ?_) (fun c_540 => ?_)
                      · refine sn_q_goto (t := 610) sn_bc_129 dL_law_545 rfl ?_
                        refine sn_q_iincL sn_bc_129 dL_law_610 (show (11 : Nat) < 19 from by decide) rfl rfl (by omega) (by omega) rfl ?_
                        refine sn_q_goto (t := 303) sn_bc_129 dL_law_613 rfl ?_
                        first
                          | exact ih (j + 1) _ _ _ _ _ _ _ _ _ X _ τ (by omega) hE hB hC (sk_Yv_t hV hIτ (fun a c g => hft a c (by omega) (by omega)) (by rw [hft 9 0 (by omega) (by omega), hft 9 1 (by omega) (by omega)]; exact h39)) (fun t a1 a2 => by rw [hft 178 t (by omega) (by omega)]; exact hCv t a1 a2)
                          | exact ih (j + 1) _ _ _ _ _ _ _ _ _ _ _ τ (by omega) hE hB hC (sk_Yv_t hV hIτ (fun a c g => hft a c (by omega) (by omega) (by omega)) (by rw [hft 9 0 (by omega) (by omega) (by omega), hft 9 1 (by omega) (by omega) (by omega)]; exact h39)) (fun t a1 a2 => by
                              (try dsimp only)
                              by_cases e : t = 10 * v335 + v432
                              · rw [if_pos e, e, e178, hc0]
                              · rw [if_neg e, hft 178 t (by omega) (by omega) (by omega)]; exact hCv t a1 a2)
                          | exact ih (j + 1) _ _ _ _ _ _ _ _ _ X _ χ (by omega) hE hB hC (sk_Yv_q (sk_Yv_t hV hIτ (fun a c g => hf1 a c (by omega) (by omega) (by omega) (by omega) (by omega)) (by rw [hf1 9 0 (by omega) (by omega) (by omega) (by omega) (by omega), e91]; omega)) hqχ) (fun t a1 a2 => by rw [hqχ.1 178 t (by omega) (by omega), hf1 178 t (by omega) (by omega) (by omega) (by omega) (by omega)]; exact hCv t a1 a2)
                          | exact ih (j + 1) _ _ _ _ _ _ _ _ _ X _ τ (by omega) hE hB hC hV hCv
                          | exact ih (j + 1) _ _ _ _ _ _ _ _ _ X _ σ (by omega) hE hB hC hV hCv
                      · exfalso; omega
      · refine sn_q_aloadn sn_bc_129 dL_law_372 rfl ?_
        refine sn_q_iload sn_bc_129 dL_law_373 rfl ?_
        refine sn_q_iload sn_bc_129 dL_law_375 rfl ?_
        refine sn_q_iconst sn_bc_129 dL_law_377 rfl ?_
        refine sn_q_ishr sn_bc_129 dL_law_378 ?_
        refine sn_q_iconst sn_bc_129 dL_law_379 rfl ?_
        refine sn_q_invS sn_bc_129 dL_law_380 sn_oc_129 sn_px_10_18 sn_ps_10_18 (by decide) rfl rfl rfl (sk_belowG (by omega) (by omega) (fun v380 a380 b380 => ?_))
        refine sn_q_iload sn_bc_129 dL_law_383 rfl ?_
        refine sn_q_bipush sn_bc_129 dL_law_385 rfl ?_
        refine sn_q_ishr sn_bc_129 dL_law_387 ?_
        refine sn_q_iconst sn_bc_129 dL_law_388 rfl ?_
        refine sn_q_invS sn_bc_129 dL_law_389 sn_oc_129 sn_px_10_18 sn_ps_10_18 (by decide) rfl rfl rfl (sk_belowG (by omega) (by omega) (fun v389 a389 b389 => ?_))
        refine sn_q_invV sn_bc_129 dL_law_392 sn_oc_129 sn_pv_10_50 (by decide) rfl (by decide) (sn_h1 (by decide)) rfl rfl rfl rfl (sk_jury hI hph (by omega) (by omega) (by omega) (by omega) (by omega) (by omega) h39 (fun r τ hr hIτ hft => ?_))
        refine sn_q_iload sn_bc_129 dL_law_395 rfl ?_
        refine sn_q_icne (t := 610) sn_bc_129 dL_law_397 rfl (fun c_397 => ?_) (fun c_397 => ?_)
        · refine sn_q_iincL sn_bc_129 dL_law_610 (show (11 : Nat) < 19 from by decide) rfl rfl (by omega) (by omega) rfl ?_
          refine sn_q_goto (t := 303) sn_bc_129 dL_law_613 rfl ?_
          first
            | exact ih (j + 1) _ _ _ _ _ _ _ _ _ X _ τ (by omega) hE hB hC (sk_Yv_t hV hIτ (fun a c g => hft a c (by omega) (by omega)) (by rw [hft 9 0 (by omega) (by omega), hft 9 1 (by omega) (by omega)]; exact h39)) (fun t a1 a2 => by rw [hft 178 t (by omega) (by omega)]; exact hCv t a1 a2)
            | exact ih (j + 1) _ _ _ _ _ _ _ _ _ _ _ τ (by omega) hE hB hC (sk_Yv_t hV hIτ (fun a c g => hft a c (by omega) (by omega) (by omega)) (by rw [hft 9 0 (by omega) (by omega) (by omega), hft 9 1 (by omega) (by omega) (by omega)]; exact h39)) (fun t a1 a2 => by
                (try dsimp only)
                by_cases e : t = 10 * v335 + v432
                · rw [if_pos e, e, e178, hc0]
                · rw [if_neg e, hft 178 t (by omega) (by omega) (by omega)]; exact hCv t a1 a2)
            | exact ih (j + 1) _ _ _ _ _ _ _ _ _ X _ χ (by omega) hE hB hC (sk_Yv_q (sk_Yv_t hV hIτ (fun a c g => hf1 a c (by omega) (by omega) (by omega) (by omega) (by omega)) (by rw [hf1 9 0 (by omega) (by omega) (by omega) (by omega) (by omega), e91]; omega)) hqχ) (fun t a1 a2 => by rw [hqχ.1 178 t (by omega) (by omega), hf1 178 t (by omega) (by omega) (by omega) (by omega) (by omega)]; exact hCv t a1 a2)
            | exact ih (j + 1) _ _ _ _ _ _ _ _ _ X _ τ (by omega) hE hB hC hV hCv
            | exact ih (j + 1) _ _ _ _ _ _ _ _ _ X _ σ (by omega) hE hB hC hV hCv
        · exfalso; omega
