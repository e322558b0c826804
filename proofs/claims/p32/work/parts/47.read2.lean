theorem sk_bdA {n n0 n1 n2 i : Nat} {N : Int} (h : n ≤ n0 + 14 * i) (h1 : n1 ≤ n + 1 + N.toNat) (h2 : n2 ≤ n1 + N.toNat) (h6 : N ≤ 6) : n2 ≤ n0 + 14 * (i + 1) := by omega
theorem sk_bdB {n n0 n1 n2 i : Nat} {N : Int} (h : n ≤ n0 + 80 * i) (h1 : n1 ≤ n + N.toNat + 6 * N.toNat) (h2 : n2 ≤ n1 + 6 * N.toNat) (h6 : N ≤ 6) : n2 ≤ n0 + 80 * (i + 1) := by omega
theorem sk_rd3 {n0 k0 : Nat} {Y0 : Nat → Nat × Nat} {X0 : Nat → Nat → sn_V} {σ0 : Int → Int → Int} {Q : Option sn_V → sn_H → Prop} {N y : Int} (hYX : sn_YX Y0 X0) (hN : N = σ0 3 0) (h3 : 3 ≤ N) (h6 : N ≤ 6) (hph0 : σ0 2 10 = 2) (kk : ∀ (n k : Nat) Y X σ, sk_ext n0 Y0 X0 n Y X → n ≤ n0 + 100 → k ≤ k0 + 600 → sk_Iv σ → σ 2 15 ≠ 0 → sk_kq σ0 σ → σ 3 0 ≤ σ 217 7 → (∀ s, 0 ≤ s → s < 8 → sn_run σ s → σ 230 s ≠ 0) → 3 ≤ σ 9 0 - σ 9 1 → Q (some (sn_i 1)) (sn_hh n k Y σ X)) : ∀ (d j : Nat) (σ : Int → Int → Int) (M : Int) (g6 g7 : sn_V) (n k : Nat) (Y : Nat → Nat × Nat) (X : Nat → Nat → sn_V), (j : Int) + d = M → M = σ 9 0 - σ 9 1 → 3 ≤ M → sk_ext n0 Y0 X0 n Y X → n ≤ n0 + 100 → k ≤ k0 + 600 → sk_Iv σ → σ 2 15 ≠ 0 → sk_kq σ0 σ → σ 217 7 = N → σ 217 8 = (j : Int) → (∀ l s, 0 ≤ l → l < N → 0 ≤ s → s < 8 → σ (219 + l) s = σ (83 + l) s) → (∀ s, 0 ≤ s → s < 8 → σ 230 s ≠ 0 → sn_run σ s) → sn_Wp 97 334 [sn_r 2, sn_r 0, sn_i N, sn_i y, sn_i M, sn_i (j : Int), g6, g7] [] (sn_hh n k Y σ X) Q := by
    intro d
    induction d with
    | zero =>
      intro j σ M g6 g7 n k Y X hd hM hM3 hE hn hk hI hc hkq h7 h8 hjs h230r
      have h30 := hkq 3 0 (by omega)
      have h38 := hI.1.1
      have hrn := hI.2.1.2.2.1
      have hns := hI.2.2.2.2.1.2.2.2.2.1
      have hall := sk_allread (σ := σ) (N := N) (by have := hI.2.2.2.2.1.2.2.2.1; omega) (by omega) (by omega) (fun l a1 a2 => hI.2.2.2.2.1.2.2.2.2.2.1 l (by omega) a2)
      have htl := sk_alltold (σ := σ) (by omega) h230r
      refine sn_q_iload sn_bc_97 dL_isRead_334 rfl ?_
      refine sn_q_iload sn_bc_97 dL_isRead_336 rfl ?_
      refine sn_q_icge (t := 416) sn_bc_97 dL_isRead_338 rfl (fun c_338 => ?_) (fun c_338 => ?_)
      · refine sn_q_aloadn sn_bc_97 dL_isRead_416 rfl ?_
        refine sn_q_invV sn_bc_97 dL_isRead_417 sn_oc_97 sn_pv_10_82 (by decide) rfl (by decide) (sn_h1 (by decide)) rfl rfl rfl rfl (sk_isOpen (Or.inr (by omega)) ?_)
        refine sn_q_ifne (t := 435) sn_bc_97 dL_isRead_420 rfl (fun c_420 => ?_) (fun c_420 => ?_)
        · exfalso
          first
            | omega
            | (rcases hr with ⟨z, -⟩ | ⟨z1, z2, z3, -⟩
               · omega
               · exact hall r z1 (by omega) z3)
        · refine sn_q_aloadn sn_bc_97 dL_isRead_423 rfl ?_
          refine sn_q_invV sn_bc_97 dL_isRead_424 sn_oc_97 sn_pv_10_86 (by decide) rfl (by decide) (sn_h1 (by decide)) rfl rfl rfl rfl (sk_nextRead (sk_ext_YX hE hYX) hI (fun τ r hq hr => ?_))
          have eτ := (hq.2.1 hc).symm
          subst eτ
          refine sn_q_iconst sn_bc_97 dL_isRead_427 rfl ?_
          refine sn_q_icne (t := 435) sn_bc_97 dL_isRead_428 rfl (fun c_428 => ?_) (fun c_428 => ?_)
          · exfalso
            first
              | omega
              | (rcases hr with ⟨z, -⟩ | ⟨z1, z2, z3, -⟩
                 · omega
                 · exact hall r z1 (by omega) z3)
          · refine sn_q_iconst sn_bc_97 dL_isRead_431 rfl ?_
            refine sn_q_goto (t := 436) sn_bc_97 dL_isRead_432 rfl ?_
            refine sn_q_zret sn_bc_97 dL_isRead_436 rfl (by omega) ?_
            exact kk n k Y X σ hE hn hk hI hc hkq (by omega) htl (by omega)
      · exfalso; omega
    | succ d ih =>
      intro j σ M g6 g7 n k Y X hd hM hM3 hE hn hk hI hc hkq h7 h8 hjs h230r
      have h30 := hkq 3 0 (by omega)
      have h38 := hI.1.1
      have hrn := hI.2.1.2.2.1
      have hns := hI.2.2.2.2.1.2.2.2.2.1
      have hph : σ 2 10 = 2 := (hkq 2 10 (by omega)).trans hph0
      have hA := sk_A_bd hI.2.1
      have hex := sk_untold (σ := σ) (by omega)
      refine sn_q_iload sn_bc_97 dL_isRead_334 rfl ?_
      refine sn_q_iload sn_bc_97 dL_isRead_336 rfl ?_
      refine sn_q_icge (t := 416) sn_bc_97 dL_isRead_338 rfl (fun c_338 => ?_) (fun c_338 => ?_)
      · exfalso; omega
      · refine sn_q_aloadn sn_bc_97 dL_isRead_341 rfl ?_
        refine sn_q_invV sn_bc_97 dL_isRead_342 sn_oc_97 sn_pv_10_118 (by decide) rfl (by decide) (sn_h1 (by decide)) rfl rfl rfl rfl (sk_readCalls (sk_ext_YX hE hYX) hI hph (by omega) hex (fun τ ω r hq hIω hCω hcω hr0 hr8 hrr hr230 hfω h227 h230 h217 => ?_))
        have eτ := (hq.2.1 hc).symm
        subst eτ
        have hI' := hI
        have hI := hIω
        have hc := hcω
        have e214 : ω 214 r = σ 214 r := hfω 214 r (by omega) (by omega) (by omega)
        have h10 : ω 10 r ≠ 0 := by rw [hfω 10 r (by omega) (by omega) (by omega)]; exact hrr.1
        have hb := sk_tot_bd (hI'.1.2.2.2.2.2 (by assumption)) r hr0 hr8
        have e1000 : (1000 * r + σ 214 r) / 1000 = r := by omega
        have ejo : sk_jo ω r = ω 213 r := sk_jo_all hI hCω (fun l s a1 a2 a3 a4 => by
          rw [hfω 3 0 (by omega) (by omega) (by omega)] at a2
          rw [hfω (219 + l) s (by omega) (by omega) (by omega), hfω (83 + l) s (by omega) (by omega) (by omega)]
          exact hjs l s a1 (by omega) a3 a4) r hr0 hr8
        have e217 := hfω 217 7 (by omega) (by omega) (by omega)
        refine sn_q_ist6 sn_bc_97 dL_isRead_345 rfl ?_
        refine sn_q_iload sn_bc_97 dL_isRead_347 rfl ?_
        refine sn_q_sipush sn_bc_97 dL_isRead_349 rfl ?_
        refine sn_q_irem sn_bc_97 dL_isRead_352 (by omega) (by omega) (by omega) (by omega) ?_
        refine sn_q_aloadn sn_bc_97 dL_isRead_353 rfl ?_
        refine sn_q_iload sn_bc_97 dL_isRead_354 rfl ?_
        refine sn_q_sipush sn_bc_97 dL_isRead_356 rfl ?_
        refine sn_q_idiv sn_bc_97 dL_isRead_359 (by omega) (by omega) (by omega) (by omega) ?_
        rw [e1000]
        refine sn_q_bipush sn_bc_97 dL_isRead_360 rfl ?_
        refine sn_q_invV sn_bc_97 dL_isRead_362 sn_oc_97 sn_pv_10_54 (by decide) rfl (by decide) (sn_h1 (by decide)) rfl rfl rfl rfl (sk_ofSong6 (sk_ext_YX hE hYX) hI (by omega) (by omega) h10 (fun τ hq => ?_))
        have eτ := (hq.2.1 hc).symm
        subst eτ
        refine sn_q_icne (t := 408) sn_bc_97 dL_isRead_365 rfl (fun c_365 => ?_) (fun c_365 => ?_)
        · exfalso; omega
        · refine sn_q_aloadn sn_bc_97 dL_isRead_368 rfl ?_
          refine sn_q_iload sn_bc_97 dL_isRead_369 rfl ?_
          refine sn_q_sipush sn_bc_97 dL_isRead_371 rfl ?_
          refine sn_q_idiv sn_bc_97 dL_isRead_374 (by omega) (by omega) (by omega) (by omega) ?_
          rw [e1000]
          refine sn_q_bipush sn_bc_97 dL_isRead_375 rfl ?_
          refine sn_q_invV sn_bc_97 dL_isRead_377 sn_oc_97 sn_pv_10_54 (by decide) rfl (by decide) (sn_h1 (by decide)) rfl rfl rfl rfl (sk_ofSong9 (sk_ext_YX hE hYX) hI (by omega) (by omega) h10 (fun τ hq => ?_))
          have eτ := (hq.2.1 hc).symm
          subst eτ
          refine sn_q_aloadn sn_bc_97 dL_isRead_380 rfl ?_
          refine sn_q_iload sn_bc_97 dL_isRead_381 rfl ?_
          refine sn_q_sipush sn_bc_97 dL_isRead_383 rfl ?_
          refine sn_q_idiv sn_bc_97 dL_isRead_386 (by omega) (by omega) (by omega) (by omega) ?_
          rw [e1000]
          refine sn_q_bipush sn_bc_97 dL_isRead_387 rfl ?_
          refine sn_q_invV sn_bc_97 dL_isRead_389 sn_oc_97 sn_pv_10_54 (by decide) rfl (by decide) (sn_h1 (by decide)) rfl rfl rfl rfl (sk_ofSong7 (sk_ext_YX hE hYX) hI (by omega) (by omega) h10 (fun τ hq => ?_))
          have eτ := (hq.2.1 hc).symm
          subst eτ
          refine sn_q_icne (t := 408) sn_bc_97 dL_isRead_392 rfl (fun c_392 => ?_) (fun c_392 => ?_)
          · exfalso; omega
          · refine sn_q_aloadn sn_bc_97 dL_isRead_395 rfl ?_
            refine sn_q_bipush sn_bc_97 dL_isRead_396 rfl ?_
            refine sn_q_invV sn_bc_97 dL_isRead_398 sn_oc_97 sn_pv_10_33 (by decide) rfl (by decide) (sn_h1 (by decide)) rfl rfl rfl rfl (sk_many8 (sk_ext_YX hE hYX) hI (fun τ hq => ?_))
            have eτ := (hq.2.1 hc).symm
            subst eτ
            refine sn_q_iload sn_bc_97 dL_isRead_401 rfl ?_
            refine sn_q_iconst sn_bc_97 dL_isRead_403 rfl ?_
            refine sn_q_iadd sn_bc_97 dL_isRead_404 (by omega) (by omega) ?_
            refine sn_q_icge (t := 410) sn_bc_97 dL_isRead_405 rfl (fun c_405 => ?_) (fun c_405 => ?_)
            · refine sn_q_inc5 sn_bc_97 dL_isRead_410 rfl (by omega) (by omega) ?_
              refine sn_q_goto (t := 334) sn_bc_97 dL_isRead_413 rfl ?_
              refine ih (j + 1) ω M _ _ n k Y X (by omega) ?_ hM3 hE hn hk hIω hcω (sk_kq_tr hkq (fun a c g => hfω a c (by omega) (by omega) (by omega))) (by omega) (by omega) (fun l s a1 a2 a3 a4 => ?_) (fun s a1 a2 a3 => ?_)
              · rw [hfω 9 0 (by omega) (by omega) (by omega), hfω 9 1 (by omega) (by omega) (by omega)]; exact hM
              · rw [hfω (219 + l) s (by omega) (by omega) (by omega), hfω (83 + l) s (by omega) (by omega) (by omega)]; exact hjs l s a1 a2 a3 a4
              · refine (sn_run_t (hfω 10 s (by omega) (by omega) (by omega)) (hfω 11 s (by omega) (by omega) (by omega))).mpr ?_
                by_cases e : s = r
                · rw [e]; exact hrr
                · rw [hfω 230 s (by omega) (by omega) (by omega)] at a3
                  exact h230r s a1 a2 a3
            · exfalso; omega
theorem sk_rd_out {n0 n k : Nat} {Y0 Y : Nat → Nat × Nat} {X0 X : Nat → Nat → sn_V} {σ : Int → Int → Int} {Q : Option sn_V → sn_H → Prop} {N y xi w : Int} {qD : Nat} (hYX : sn_YX Y0 X0) (hI : sk_Iv σ) (hc : σ 2 15 ≠ 0) (hN : N = σ 3 0) (hph : σ 2 10 = 2) (hw1 : 0 ≤ w) (hw2 : w < N) (h228 : σ 228 w ≠ 0) (h4 : 4 ≤ σ 9 0 - σ 9 1) (hE : sk_ext n0 Y0 X0 n Y X) (K : ∀ (g7 : sn_V) (ω : Int → Int → Int), sk_Iv ω → ω 2 15 ≠ 0 → sk_kq σ ω → ω 9 1 = σ 9 1 + 1 → ω 217 7 = σ 217 7 → (∀ s, ω 230 s = σ 230 s) → (∀ l, ω 228 l = σ 228 l) → sn_Wp 97 286 [sn_r 2, sn_r 0, sn_i N, sn_i y, sn_i xi, sn_i w, sn_r qD, g7] [] (sn_hh n k Y ω X) Q) : sn_Wp 97 216 [sn_r 2, sn_r 0, sn_i N, sn_i y, sn_i xi, sn_i w, sn_r qD, sn_i N] [] (sn_hh n k Y σ X) Q := by
  have hC := hI.1.2.2.2.2.2 hc
  have hA := sk_A_bd hI.2.1
  have h38 := hI.1.1
  have hr8 : σ 212 8 = σ 9 0 - σ 9 1 := hC.2.2.1.trans hI.2.1.2.2.1
  refine sn_q_aloadn sn_bc_97 dL_isRead_216 rfl ?_
  refine sn_q_iconst sn_bc_97 dL_isRead_217 rfl ?_
  refine sn_q_invV sn_bc_97 dL_isRead_218 sn_oc_97 sn_pv_10_103 (by decide) rfl (by decide) (sn_h1 (by decide)) rfl rfl rfl rfl (sk_ranked (sk_ext_YX hE hYX) hI (by omega) (by omega) (fun τ hq hlt => ?_))
  have eτ := (hq.2.1 hc).symm
  subst eτ
  have hO := hC.2.2.2.2.1 0 (by omega) (by omega)
  have hON := hI.2.1.1 _ hO.1 hO.2.1 hO.2.2.1
  have h10 := hO.2.2.1
  refine sn_q_ist7 sn_bc_97 dL_isRead_221 rfl ?_
  refine sn_q_aloadn sn_bc_97 dL_isRead_223 rfl ?_
  refine sn_q_iload sn_bc_97 dL_isRead_224 rfl ?_
  refine sn_q_invV sn_bc_97 dL_isRead_226 sn_oc_97 sn_pv_10_60 (by decide) rfl (by decide) (sn_h1 (by decide)) rfl rfl rfl rfl (sk_disqualify hI (Or.inr hph) hO.1 hON h10 hO.2.2.2 (by omega) (fun χ hIχ hfχ hχ11 hχ91 hχ219 hχ227 => ?_))
  have hI := hIχ
  refine sn_q_aloadn sn_bc_97 dL_isRead_229 rfl ?_
  refine sn_q_iconst sn_bc_97 dL_isRead_230 rfl ?_
  refine sn_q_invV sn_bc_97 dL_isRead_231 sn_oc_97 sn_pv_10_33 (by decide) rfl (by decide) (sn_h1 (by decide)) rfl rfl rfl rfl (sk_many3 (sk_ext_YX hE hYX) hI (fun ψ hψ => ?_))
  have hI := hψ.2.2.1
  have hc := hψ.2.2.2.2
  have hψf : ∀ a c, (a < 65 ∨ 217 ≤ a ∨ a = 211) → ¬ (a = 2 ∧ c = 15) → ψ a c = χ a c := fun a c g1 g2 => hψ.1 a c (by omega) g2
  have p90 : ψ 9 0 = σ 9 0 := (hψf 9 0 (by omega) (by omega)).trans (hfχ 9 0 (by omega) (by omega) (by omega) (by omega) (by omega))
  have p91 : ψ 9 1 = σ 9 1 + 1 := (hψf 9 1 (by omega) (by omega)).trans hχ91
  have p30 : ψ 3 0 = σ 3 0 := (hψf 3 0 (by omega) (by omega)).trans (hfχ 3 0 (by omega) (by omega) (by omega) (by omega) (by omega))
  have hkψ : sk_kq σ ψ := fun a c g => (hψf a c (by omega) (by omega)).trans (hfχ a c (by omega) (by omega) (by omega) (by omega) (by omega))
  have h10 : ψ 10 (σ 215 0) ≠ 0 := by rw [hkψ 10 _ (by omega)]; exact h10
  have p11 : ψ 11 (σ 215 0) = 1 := (hψf 11 _ (by omega) (by omega)).trans hχ11
  have pjo : sk_jo ψ (σ 215 0) + ψ 227 (σ 215 0) = 0 := by
    rw [sk_jo_z (fun l a1 a2 => (hψf (219 + l) _ (by omega) (by omega)).trans (hχ219 l a1 a2)), hψf 227 _ (by omega) (by omega), hχ227]; rfl
  have p228 : ∀ l, ψ 228 l = σ 228 l := fun l => (hψf 228 l (by omega) (by omega)).trans (hfχ 228 l (by omega) (by omega) (by omega) (by omega) (by omega))
  have p230 : ∀ l, ψ 230 l = σ 230 l := fun l => (hψf 230 l (by omega) (by omega)).trans (hfχ 230 l (by omega) (by omega) (by omega) (by omega) (by omega))
  have p217 : ψ 217 7 = σ 217 7 := (hψf 217 7 (by omega) (by omega)).trans (hfχ 217 7 (by omega) (by omega) (by omega) (by omega) (by omega))
  have hph : ψ 2 10 = 2 := (hkψ 2 10 (by omega)).trans hph
  have hwr : ψ 228 w ≠ 0 := by rw [p228]; exact h228
  refine sn_q_aloadn sn_bc_97 dL_isRead_234 rfl ?_
  refine sn_q_iconst sn_bc_97 dL_isRead_235 rfl ?_
  refine sn_q_invV sn_bc_97 dL_isRead_236 sn_oc_97 sn_pv_10_33 (by decide) rfl (by decide) (sn_h1 (by decide)) rfl rfl rfl rfl (sk_many4 (sk_ext_YX hE hYX) hI (fun τ hq => ?_))
  have eτ := (hq.2.1 hc).symm
  subst eτ
  refine sn_q_isub sn_bc_97 dL_isRead_239 (by omega) (by omega) ?_
  refine sn_q_icne (t := 284) sn_bc_97 dL_isRead_240 rfl (fun c_240 => ?_) (fun c_240 => ?_)
  · exfalso; omega
  · refine sn_q_aloadn sn_bc_97 dL_isRead_243 rfl ?_
    refine sn_q_iload sn_bc_97 dL_isRead_244 rfl ?_
    refine sn_q_bipush sn_bc_97 dL_isRead_246 rfl ?_
    refine sn_q_invV sn_bc_97 dL_isRead_248 sn_oc_97 sn_pv_10_54 (by decide) rfl (by decide) (sn_h1 (by decide)) rfl rfl rfl rfl (sk_ofSong9 (sk_ext_YX hE hYX) hI (by omega) (by omega) h10 (fun τ hq => ?_))
    have eτ := (hq.2.1 hc).symm
    subst eτ
    rw [pjo]
    refine sn_q_ifne (t := 284) sn_bc_97 dL_isRead_251 rfl (fun c_251 => ?_) (fun c_251 => ?_)
    · exfalso; omega
    · refine sn_q_aloadn sn_bc_97 dL_isRead_254 rfl ?_
      refine sn_q_iload sn_bc_97 dL_isRead_255 rfl ?_
      refine sn_q_bipush sn_bc_97 dL_isRead_257 rfl ?_
      refine sn_q_invV sn_bc_97 dL_isRead_259 sn_oc_97 sn_pv_10_54 (by decide) rfl (by decide) (sn_h1 (by decide)) rfl rfl rfl rfl (sk_ofSong8 (sk_ext_YX hE hYX) hI (by omega) (by omega) h10 (fun τ hq r' hr => ?_))
      have eτ := (hq.2.1 hc).symm
      subst eτ
      have hr1 : r' = -1 := by
        rcases hr with ⟨z, -⟩ | ⟨z1, z2, z3⟩
        · exact z
        · exfalso
          have := ((hI.1.2.2.2.2.2 hc).2.2.2.2.1 r' z1 z2).2.2.2
          rw [z3] at this
          omega
      refine sn_q_iconst sn_bc_97 dL_isRead_262 rfl ?_
      refine sn_q_icne (t := 284) sn_bc_97 dL_isRead_263 rfl (fun c_263 => ?_) (fun c_263 => ?_)
      · exfalso; omega
      · refine sn_q_aloadn sn_bc_97 dL_isRead_266 rfl ?_
        refine sn_q_iload sn_bc_97 dL_isRead_267 rfl ?_
        refine sn_q_invV sn_bc_97 dL_isRead_269 sn_oc_97 sn_pv_10_115 (by decide) rfl (by decide) (sn_h1 (by decide)) rfl rfl rfl rfl (sk_correct (sk_ext_YX hE hYX) hI hph (by omega) (by omega) hwr (fun τ ω r hq hIω hCω hcω hfω hpω hr0 hrz => ?_))
        have eτ := (hq.2.1 hc).symm
        subst eτ
        have hf1 := hfω
        have hp1 := hpω
        have hI := hIω
        have hc := hcω
        have hph : ω 2 10 = 2 := (hf1 2 10 (by omega) (by omega)).trans hph
        have hwr : ω 228 w ≠ 0 := by rw [hf1 228 w (by omega) (by omega)]; exact hwr
        have r30 : ω 3 0 = ψ 3 0 := hf1 3 0 (by omega) (by omega)
        refine sn_q_iflt (t := 284) sn_bc_97 dL_isRead_272 rfl (fun c_272 => ?_) (fun c_272 => ?_)
        · exfalso; omega
        · refine sn_q_aloadn sn_bc_97 dL_isRead_275 rfl ?_
          refine sn_q_iload sn_bc_97 dL_isRead_276 rfl ?_
          refine sn_q_invV sn_bc_97 dL_isRead_278 sn_oc_97 sn_pv_10_115 (by decide) rfl (by decide) (sn_h1 (by decide)) rfl rfl rfl rfl (sk_correct (sk_ext_YX hE hYX) hI hph (by omega) (by omega) hwr (fun τ ω r hq hIω hCω hcω hfω hpω hr0 hrz => ?_))
          have eτ := (hq.2.1 hc).symm
          subst eτ
          have hrz := hrz (fun s a1 a2 => by
            rw [hp1 s a1 a2, hf1 (83 + w) s (by omega) (by omega)])
          have hfz : ∀ a c, ¬ (a = 219 + w ∧ 0 ≤ c ∧ c < 8) → ¬ (a = 2 ∧ c = 14) → ω a c = ψ a c := fun a c g1 g2 => (hfω a c g1 g2).trans (hf1 a c g1 g2)
          refine sn_q_ifeq (t := 286) sn_bc_97 dL_isRead_281 rfl (fun c_281 => ?_) (fun c_281 => ?_)
          · exact K _ ω hIω hcω (sk_kq_tr hkψ (fun a c g => hfz a c (by omega) (by omega))) ((hfz 9 1 (by omega) (by omega)).trans p91) ((hfz 217 7 (by omega) (by omega)).trans p217) (fun s => (hfz 230 s (by omega) (by omega)).trans (p230 s)) (fun l => (hfz 228 l (by omega) (by omega)).trans (p228 l))
          · exfalso; omega
theorem sk_rd2 {n0 k0 : Nat} {Y0 : Nat → Nat × Nat} {X0 : Nat → Nat → sn_V} {σ0 : Int → Int → Int} {Q : Option sn_V → sn_H → Prop} {N y : Int} (hYX : sn_YX Y0 X0) (hN : N = σ0 3 0) (h3 : 3 ≤ N) (h6 : N ≤ 6) (hph0 : σ0 2 10 = 2) (kk : ∀ (n k : Nat) Y X σ, sk_ext n0 Y0 X0 n Y X → n ≤ n0 + 100 → k ≤ k0 + 600 → sk_Iv σ → σ 2 15 ≠ 0 → sk_kq σ0 σ → σ 3 0 ≤ σ 217 7 → (∀ s, 0 ≤ s → s < 8 → sn_run σ s → σ 230 s ≠ 0) → 3 ≤ σ 9 0 - σ 9 1 → Q (some (sn_i 1)) (sn_hh n k Y σ X)) : ∀ (d j : Nat) (σ : Int → Int → Int) (g5 g6 g7 : sn_V) (n k : Nat) (Y : Nat → Nat × Nat) (X : Nat → Nat → sn_V), (j : Int) + d = N → sk_ext n0 Y0 X0 n Y X → n ≤ n0 + 100 → k ≤ k0 + 600 → sk_rdI 0 N.toNat σ0 σ → (∀ l s, 0 ≤ l → l < (j : Int) → 0 ≤ s → s < 8 → σ (219 + l) s = σ (83 + l) s) → sn_Wp 97 295 [sn_r 2, sn_r 0, sn_i N, sn_i y, sn_i (j : Int), g5, g6, g7] [] (sn_hh n k Y σ X) Q := by
    intro d
    induction d with
    | zero =>
      intro j σ g5 g6 g7 n k Y X hd hE hn hk hR hjs
      obtain ⟨hI, hc, hkq, hph, hM3, h7, h230, -⟩ := hR
      have h38 := hI.1.1
      have hA := sk_A_bd hI.2.1
      have h8 : σ 217 8 = 0 := hI.2.2.2.2.1.2.2.2.2.1.trans (sk_sum_z 8 (fun s hs => if_pos (h230 s (by omega) (by omega))))
      refine sn_q_iload sn_bc_97 dL_isRead_295 rfl ?_
      refine sn_q_iloadn sn_bc_97 dL_isRead_297 rfl ?_
      refine sn_q_icge (t := 318) sn_bc_97 dL_isRead_298 rfl (fun c_298 => ?_) (fun c_298 => ?_)
      · refine sn_q_aloadn sn_bc_97 dL_isRead_318 rfl ?_
        refine sn_q_iconst sn_bc_97 dL_isRead_319 rfl ?_
        refine sn_q_invV sn_bc_97 dL_isRead_320 sn_oc_97 sn_pv_10_33 (by decide) rfl (by decide) (sn_h1 (by decide)) rfl rfl rfl rfl (sk_many3 (sk_ext_YX hE hYX) hI (fun τ hq => ?_))
        have eτ := (hq.2.1 hc).symm
        subst eτ
        refine sn_q_aloadn sn_bc_97 dL_isRead_323 rfl ?_
        refine sn_q_iconst sn_bc_97 dL_isRead_324 rfl ?_
        refine sn_q_invV sn_bc_97 dL_isRead_325 sn_oc_97 sn_pv_10_33 (by decide) rfl (by decide) (sn_h1 (by decide)) rfl rfl rfl rfl (sk_many4 (sk_ext_YX hE hYX) hI (fun τ hq => ?_))
        have eτ := (hq.2.1 hc).symm
        subst eτ
        refine sn_q_isub sn_bc_97 dL_isRead_328 (by omega) (by omega) ?_
        refine sn_q_ist4 sn_bc_97 dL_isRead_329 rfl ?_
        refine sn_q_iconst sn_bc_97 dL_isRead_331 rfl ?_
        refine sn_q_ist5 sn_bc_97 dL_isRead_332 rfl ?_
        exact sk_rd3 hYX hN h3 h6 hph0 kk (σ 9 0 - σ 9 1).toNat 0 σ _ _ _ n k Y X (by omega) rfl hM3 hE hn hk hI hc hkq (by omega) h8 (fun l s a1 a2 => hjs l s a1 (by omega)) (fun s a1 a2 a3 => absurd (h230 s a1 a2) a3)
      · exfalso; omega
    | succ d ih =>
      intro j σ g5 g6 g7 n k Y X hd hE hn hk hR hjs
      obtain ⟨hI, hc, hkq, hph, hM3, h7, h230, -⟩ := hR
      have h38 := hI.1.1
      have h30 := hkq 3 0 (by omega)
      have hwr := sk_allread (σ := σ) (N := N) (by have := hI.2.2.2.2.1.2.2.2.1; omega) (by omega) (by omega) (fun l a1 a2 => hI.2.2.2.2.1.2.2.2.2.2.1 l (by omega) a2) (j : Int) (by omega) (by omega)
      refine sn_q_iload sn_bc_97 dL_isRead_295 rfl ?_
      refine sn_q_iloadn sn_bc_97 dL_isRead_297 rfl ?_
      refine sn_q_icge (t := 318) sn_bc_97 dL_isRead_298 rfl (fun c_298 => ?_) (fun c_298 => ?_)
      · exfalso; omega
      · refine sn_q_aloadn sn_bc_97 dL_isRead_301 rfl ?_
        refine sn_q_iload sn_bc_97 dL_isRead_302 rfl ?_
        refine sn_q_invV sn_bc_97 dL_isRead_304 sn_oc_97 sn_pv_10_115 (by decide) rfl (by decide) (sn_h1 (by decide)) rfl rfl rfl rfl (sk_correct (sk_ext_YX hE hYX) hI hph (by omega) (by omega) hwr (fun τ ω r hq hIω hCω hcω hfω hpω hr0 hrz => ?_))
        have eτ := (hq.2.1 hc).symm
        subst eτ
        refine sn_q_ifge (t := 312) sn_bc_97 dL_isRead_307 rfl (fun c_307 => ?_) (fun c_307 => ?_)
        · refine sn_q_inc4 sn_bc_97 dL_isRead_312 rfl (by omega) (by omega) ?_
          refine sn_q_goto (t := 295) sn_bc_97 dL_isRead_315 rfl ?_
          refine ih (j + 1) ω _ _ _ n k Y X (by omega) hE hn hk ⟨hIω, hcω, sk_kq_tr hkq (fun a c g => hfω a c (by omega) (by omega)), ?_, ?_, ?_, fun s a1 a2 => ?_, Or.inl rfl⟩ (fun l s a1 a2 a3 a4 => ?_)
          · rw [hfω 2 10 (by omega) (by omega)]; exact hph
          · rw [hfω 9 0 (by omega) (by omega), hfω 9 1 (by omega) (by omega)]; exact hM3
          · rw [hfω 217 7 (by omega) (by omega)]; exact h7
          · rw [hfω 230 s (by omega) (by omega)]; exact h230 s a1 a2
          · rw [hfω (83 + l) s (by omega) (by omega)]
            by_cases e : l = (j : Int)
            · rw [e]; exact hpω s a3 a4
            · rw [hfω (219 + l) s (by omega) (by omega)]; exact hjs l s a1 (by omega) a3 a4
        · exfalso; omega
set_option maxHeartbeats 4000000 in
theorem sk_isRead {n0 k0 : Nat} {Y0 : Nat → Nat × Nat} {X0 : Nat → Nat → sn_V} {σ0 : Int → Int → Int} {Q : Option sn_V → sn_H → Prop} {N y : Int} (hYX : sn_YX Y0 X0) (hsc : sk_sc Y0 X0) (hI0 : sk_Iv σ0) (hc0 : σ0 2 15 ≠ 0) (hN : N = σ0 3 0) (h3 : 3 ≤ N) (h6 : N ≤ 6) (hph0 : σ0 2 10 = 2) (hrn : 3 ≤ σ0 9 0 - σ0 9 1) (hy0 : 0 ≤ y) (hy1 : y ≤ 1) (h217 : σ0 217 7 = 0) (h228 : ∀ l, 0 ≤ l → l < 8 → σ0 228 l = 0) (h230 : ∀ s, 0 ≤ s → s < 8 → σ0 230 s = 0) (kk : ∀ (n k : Nat) Y X σ, sk_ext n0 Y0 X0 n Y X → n ≤ n0 + 100 → k ≤ k0 + 600 → sk_Iv σ → σ 2 15 ≠ 0 → sk_kq σ0 σ → σ 3 0 ≤ σ 217 7 → (∀ s, 0 ≤ s → s < 8 → sn_run σ s → σ 230 s ≠ 0) → 3 ≤ σ 9 0 - σ 9 1 → Q (some (sn_i 1)) (sn_hh n k Y σ X)) : sn_Wp 97 0 [sn_r 2, sn_r 0, sn_i N, sn_i y, sn_u, sn_u, sn_u, sn_u] [] (sn_hh n0 k0 Y0 σ0 X0) Q := by
  obtain ⟨B, hB⟩ : ∃ x, x = sk_bl2 (sk_cl Y0 X0 y) 2 := ⟨_, rfl⟩
  have goL : ∀ (d i : Nat) (σ : Int → Int → Int) (g5 g6 g7 : sn_V) (n k : Nat) (Y : Nat → Nat × Nat) (X : Nat → Nat → sn_V), (i : Int) + d = N → sk_rdI B i σ0 σ → sk_ext n0 Y0 X0 n Y X → n ≤ n0 + 14 * i → k ≤ k0 + 80 * i → sn_Wp 97 3 [sn_r 2, sn_r 0, sn_i N, sn_i y, sn_i (i : Int), g5, g6, g7] [] (sn_hh n k Y σ X) Q := by
    intro d
    induction d with
    | zero =>
      intro i σ g5 g6 g7 n k Y X hd hR hE hn hk
      have hiN : i = N.toNat := by omega
      subst hiN
      refine sn_q_iload sn_bc_97 dL_isRead_3 rfl ?_
      refine sn_q_iloadn sn_bc_97 dL_isRead_5 rfl ?_
      refine sn_q_icge (t := 292) sn_bc_97 dL_isRead_6 rfl (fun c_6 => ?_) (fun c_6 => ?_)
      · refine sn_q_iconst sn_bc_97 dL_isRead_292 rfl ?_
        refine sn_q_ist4 sn_bc_97 dL_isRead_293 rfl ?_
        exact sk_rd2 hYX hN h3 h6 hph0 kk N.toNat 0 σ _ _ _ n k Y X (by omega) hE (by omega) (by omega) ⟨hR.1, hR.2.1, hR.2.2.1, hR.2.2.2.1, hR.2.2.2.2.1, hR.2.2.2.2.2.1, hR.2.2.2.2.2.2.1, Or.inl rfl⟩ (fun l s a1 a2 => by omega)
      · exfalso; omega
    | succ d ih =>
      intro i σ g5 g6 g7 n k Y X hd hR hE hn hk
      obtain ⟨hI, hc, hkq, hph, hM3, h7, h230, hm⟩ := hR
      have h38 := hI.1.1
      have h30 := hkq 3 0 (by omega)
      have hC := hI.1.2.2.2.2.2 hc
      have hnl := hI.2.2.2.2.1.2.2.2.1
      have go30 : ∀ w, 0 ≤ w → w < N → σ 228 w = 0 → (B = 0 ∨ w = (i : Int) ∧ ∀ l, 0 ≤ l → l < 8 → (σ 228 l = 0 ↔ (i : Int) ≤ l)) → sn_Wp 97 30 [sn_r 2, sn_r 0, sn_i N, sn_i y, sn_i (i : Int), g5, g6, g7] [sn_i w] (sn_hh n k Y σ X) Q := by
        intro w hw1 hw2 hw0 hmw
        refine sn_q_ist5 sn_bc_97 dL_isRead_30 rfl ?_
        refine sn_q_iload sn_bc_97 dL_isRead_32 rfl ?_
        refine sn_q_iflt (t := 60) sn_bc_97 dL_isRead_34 rfl (fun c_34 => ?_) (fun c_34 => ?_)
        · exfalso; omega
        · refine sn_q_aloadn sn_bc_97 dL_isRead_37 rfl ?_
          refine sn_q_iload sn_bc_97 dL_isRead_38 rfl ?_
          refine sn_q_bipush sn_bc_97 dL_isRead_40 rfl ?_
          refine sn_q_invV sn_bc_97 dL_isRead_42 sn_oc_97 sn_pv_10_100 (by decide) rfl (by decide) (sn_h1 (by decide)) rfl rfl rfl rfl (sk_ofLand8 (sk_ext_YX hE hYX) hI (by omega) (by omega) (fun τ hq => ?_))
          have eτ := (hq.2.1 hc).symm
          subst eτ
          rw [if_pos hw0]
          refine sn_q_iconst sn_bc_97 dL_isRead_45 rfl ?_
          refine sn_q_iceq (t := 60) sn_bc_97 dL_isRead_46 rfl (fun c_46 => ?_) (fun c_46 => ?_)
          · exfalso; omega
          · refine sn_q_aloadn sn_bc_97 dL_isRead_49 rfl ?_
            refine sn_q_bipush sn_bc_97 dL_isRead_50 rfl ?_
            refine sn_q_invV sn_bc_97 dL_isRead_52 sn_oc_97 sn_pv_10_33 (by decide) rfl (by decide) (sn_h1 (by decide)) rfl rfl rfl rfl (sk_many7 (sk_ext_YX hE hYX) hI (fun τ hq => ?_))
            have eτ := (hq.2.1 hc).symm
            subst eτ
            refine sn_q_iload sn_bc_97 dL_isRead_55 rfl ?_
            refine sn_q_iceq (t := 62) sn_bc_97 dL_isRead_57 rfl (fun c_57 => ?_) (fun c_57 => ?_)
            · refine sn_q_iloadn sn_bc_97 dL_isRead_62 rfl ?_
              refine sk_l_new sn_bc_97 dL_isRead_63 (by omega) (by omega) (fun Y1 X1 he hD => ?_)
              have hqD : 231 + n0 ≤ 231 + n := by have := hE.1; omega
              have hE := sk_ext_tr hE he
              refine sn_q_ast6 sn_bc_97 dL_isRead_65 rfl ?_
              refine sn_q_iconst sn_bc_97 dL_isRead_67 rfl ?_
              refine sn_q_ist7 sn_bc_97 dL_isRead_68 rfl ?_
              refine sk_rd_fill hYX hI hc (by omega) hw1 hw2 hqD N.toNat 0 _ _ _ _ _ (by omega) hE hD (fun s a1 a2 => by omega) (fun n1 k1 Y X D hE hD hn1 hk1 hv => ?_)
              refine sn_q_aloadn sn_bc_97 dL_isRead_114 rfl ?_
              refine sn_q_iload sn_bc_97 dL_isRead_115 rfl ?_
              refine sn_q_invV sn_bc_97 dL_isRead_117 sn_oc_97 sn_pv_10_112 (by decide) rfl (by decide) (sn_h1 (by decide)) rfl rfl rfl rfl (sk_read (sk_ext_YX hE hYX) hI hph (by omega) (by omega) hw0 (fun τ ω r hq hIω hCω hcω hfω hpω h228 h217 hr => ?_))
              have eτ := (hq.2.1 hc).symm
              subst eτ
              have hrN : r < N := by
                rcases hr with z | ⟨z1, z2, z3⟩
                · omega
                · by_cases g : r < N
                  · exact g
                  · have e10 : σ 10 r = 0 := by
                      by_cases e : σ 10 r = 0
                      · exact e
                      · have := hI.2.1.1 r z1 z2 e; omega
                    have := ((sk_vf hC hw1 (by omega) z1 z2).2.2 (Or.inr (Or.inl e10))).1
                    omega
              have hIσ := hI
              have hI := hIω
              have hcσ := hc
              have hc := hcω
              have hA := sk_A_bd hI.2.1
              have q30 := hfω 3 0 (by omega) (by omega) (by omega) (by omega)
              have q90 := hfω 9 0 (by omega) (by omega) (by omega) (by omega)
              have q91 := hfω 9 1 (by omega) (by omega) (by omega) (by omega)
              have q210 := hfω 2 10 (by omega) (by omega) (by omega) (by omega)
              have hkω := sk_kq_tr hkq (show sk_kq σ ω from fun a c g => hfω a c (by omega) (by omega) (by omega) (by omega))
              have q230 : ∀ s, 0 ≤ s → s < 8 → ω 230 s = 0 := fun s a1 a2 => (hfω 230 s (by omega) (by omega) (by omega) (by omega)).trans (h230 s a1 a2)
              have hmω : B = 0 ∨ ∀ l, 0 ≤ l → l < 8 → (ω 228 l = 0 ↔ ((i + 1 : Nat) : Int) ≤ l) := by
                rcases hmw with z | ⟨z1, z2⟩
                · exact Or.inl z
                · refine Or.inr (fun l a1 a2 => ?_)
                  by_cases e : l = w
                  · rw [e, h228]; omega
                  · rw [hfω 228 l (by omega) (by omega) (by omega) (by omega)]
                    have := z2 l a1 a2
                    omega
              refine sn_q_iloadn sn_bc_97 dL_isRead_120 rfl ?_
              refine sn_q_icge (t := 136) sn_bc_97 dL_isRead_121 rfl (fun c_121 => ?_) (fun c_121 => ?_)
              · exfalso; omega
              · refine sn_q_aloadn sn_bc_97 dL_isRead_124 rfl ?_
                refine sn_q_iload sn_bc_97 dL_isRead_125 rfl ?_
                refine sn_q_bipush sn_bc_97 dL_isRead_127 rfl ?_
                refine sn_q_invV sn_bc_97 dL_isRead_129 sn_oc_97 sn_pv_10_100 (by decide) rfl (by decide) (sn_h1 (by decide)) rfl rfl rfl rfl (sk_ofLand8 (sk_ext_YX hE hYX) hI (by omega) (by omega) (fun τ hq => ?_))
                have eτ := (hq.2.1 hc).symm
                subst eτ
                rw [if_neg (by omega)]
                refine sn_q_iconst sn_bc_97 dL_isRead_132 rfl ?_
                refine sn_q_iceq (t := 138) sn_bc_97 dL_isRead_133 rfl (fun c_133 => ?_) (fun c_133 => ?_)
                · refine sn_q_iconst sn_bc_97 dL_isRead_138 rfl ?_
                  refine sn_q_ist7 sn_bc_97 dL_isRead_139 rfl ?_
                  refine sk_rd_check hYX hI hc (by omega) hw1 (by omega) hqD N.toNat 0 _ _ _ _ _ (by omega) hE hD (fun s a1 a2 a3 => ?_) (fun n2 k2 Y X D hE hD hn2 hk2 => ?_)
                  · rw [hfω 10 s (by omega) (by omega) (by omega) (by omega)] at a3
                    rw [hv s a1 a2 a3, sk_jo_rd hw1 (by omega) (hIσ.2.2.2.2.1.2.2.1 w s hw1 (by omega) a1 (by omega) hw0) (hpω s a1 (by omega)) (fun l b1 b2 b3 => hfω (219 + l) s (by omega) (by omega) (by omega) (by omega)), hfω 227 s (by omega) (by omega) (by omega) (by omega)]
                    omega
                  have hnn : n2 ≤ n0 + 14 * (i + 1) := sk_bdA hn hn1 hn2 h6
                  have hkk9 : k2 ≤ k0 + 80 * (i + 1) := sk_bdB hk hk1 hk2 h6
                  have hd1 : ((i + 1 : Nat) : Int) + (d : Int) = N := by clear hr hmω hmw; omega
                  refine sn_q_aloadn sn_bc_97 dL_isRead_180 rfl ?_
                  refine sn_q_iload sn_bc_97 dL_isRead_181 rfl ?_
                  refine sn_q_iconst sn_bc_97 dL_isRead_183 rfl ?_
                  refine sn_q_iadd sn_bc_97 dL_isRead_184 (by omega) (by omega) ?_
                  refine sn_q_invS sn_bc_97 dL_isRead_185 sn_oc_97 sn_px_10_12 sn_ps_10_12 (by decide) rfl rfl rfl (sk_cell (sk_ext_sc hE hsc) (by omega) (by omega) ?_)
                  refine sn_q_iconst sn_bc_97 dL_isRead_188 rfl ?_
                  refine sn_q_ishr sn_bc_97 dL_isRead_189 ?_
                  refine sn_q_bipush sn_bc_97 dL_isRead_190 rfl ?_
                  refine sn_q_invS sn_bc_97 dL_isRead_192 sn_oc_97 sn_px_10_18 sn_ps_10_18 (by decide) rfl rfl rfl (sk_below (by omega) ?_)
                  refine sn_q_ifgt (t := 286) sn_bc_97 dL_isRead_195 rfl (fun c_195 => ?_) (fun c_195 => ?_)
                  · refine sn_q_inc4 sn_bc_97 dL_isRead_286 rfl (by omega) (by omega) ?_
                    refine sn_q_goto (t := 3) sn_bc_97 dL_isRead_289 rfl ?_
                    exact ih (i + 1) ω _ _ _ n2 k2 Y X hd1 ⟨hIω, hcω, hkω, q210.trans hph, by rw [q90, q91]; exact hM3, by rw [h217, h7]; rfl, q230, hmω⟩ hE hnn hkk9
                  · refine sn_q_aloadn sn_bc_97 dL_isRead_198 rfl ?_
                    refine sn_q_iconst sn_bc_97 dL_isRead_199 rfl ?_
                    refine sn_q_invV sn_bc_97 dL_isRead_200 sn_oc_97 sn_pv_10_33 (by decide) rfl (by decide) (sn_h1 (by decide)) rfl rfl rfl rfl (sk_many3 (sk_ext_YX hE hYX) hI (fun τ hq => ?_))
                    have eτ := (hq.2.1 hc).symm
                    subst eτ
                    refine sn_q_aloadn sn_bc_97 dL_isRead_203 rfl ?_
                    refine sn_q_iconst sn_bc_97 dL_isRead_204 rfl ?_
                    refine sn_q_invV sn_bc_97 dL_isRead_205 sn_oc_97 sn_pv_10_33 (by decide) rfl (by decide) (sn_h1 (by decide)) rfl rfl rfl rfl (sk_many4 (sk_ext_YX hE hYX) hI (fun τ hq => ?_))
                    have eτ := (hq.2.1 hc).symm
                    subst eτ
                    refine sn_q_isub sn_bc_97 dL_isRead_208 (by omega) (by omega) ?_
                    refine sn_q_iconst sn_bc_97 dL_isRead_209 rfl ?_
                    refine sn_q_icge (t := 216) sn_bc_97 dL_isRead_210 rfl (fun c_210 => ?_) (fun c_210 => ?_)
                    · refine sk_rd_out hYX hI hc (by omega) (q210.trans hph) hw1 hw2 (by rw [h228]; decide) (by omega) hE (fun g7 ω2 z1 z2 z3 z4 z5 z6 z7 => ?_)
                      refine sn_q_inc4 sn_bc_97 dL_isRead_286 rfl (by omega) (by omega) ?_
                      refine sn_q_goto (t := 3) sn_bc_97 dL_isRead_289 rfl ?_
                      exact ih (i + 1) ω2 _ _ _ n2 k2 Y X hd1 ⟨z1, z2, sk_kq_tr hkω z3, (z3 2 10 (by omega)).trans (q210.trans hph), by rw [z3 9 0 (by omega), z4]; omega, by rw [z5, h217, h7]; rfl, fun s a1 a2 => (z6 s).trans (q230 s a1 a2), by
                        rcases hmω with z | z
                        · exact Or.inl z
                        · exact Or.inr (fun l a1 a2 => by rw [z7 l]; exact z l a1 a2)⟩ hE hnn hkk9
                    · refine sn_q_goto (t := 286) sn_bc_97 dL_isRead_213 rfl ?_
                      refine sn_q_inc4 sn_bc_97 dL_isRead_286 rfl (by omega) (by omega) ?_
                      refine sn_q_goto (t := 3) sn_bc_97 dL_isRead_289 rfl ?_
                      exact ih (i + 1) ω _ _ _ n2 k2 Y X hd1 ⟨hIω, hcω, hkω, q210.trans hph, by rw [q90, q91]; exact hM3, by rw [h217, h7]; rfl, q230, hmω⟩ hE hnn hkk9
                · exfalso; omega
            · exfalso; omega
      refine sn_q_iload sn_bc_97 dL_isRead_3 rfl ?_
      refine sn_q_iloadn sn_bc_97 dL_isRead_5 rfl ?_
      refine sn_q_icge (t := 292) sn_bc_97 dL_isRead_6 rfl (fun c_6 => ?_) (fun c_6 => ?_)
      · exfalso; omega
      · refine sn_q_aloadn sn_bc_97 dL_isRead_9 rfl ?_
        refine sn_q_iloadn sn_bc_97 dL_isRead_10 rfl ?_
        refine sn_q_invS sn_bc_97 dL_isRead_11 sn_oc_97 sn_px_10_12 sn_ps_10_12 (by decide) rfl rfl rfl (sk_cell (sk_ext_sc hE hsc) (by omega) (by omega) ?_)
        rw [sk_ext_cl hE]
        refine sn_q_iconst sn_bc_97 dL_isRead_14 rfl ?_
        refine sn_q_invS sn_bc_97 dL_isRead_15 sn_oc_97 sn_px_10_18 sn_ps_10_18 (by decide) rfl rfl rfl (sk_below (by omega) ?_)
        refine sn_q_ifne (t := 28) sn_bc_97 dL_isRead_18 rfl (fun c_18 => ?_) (fun c_18 => ?_)
        · refine sn_q_iload sn_bc_97 dL_isRead_28 rfl ?_
          first
            | (rcases hr with ⟨z, zz⟩ | ⟨z1, z2, z3, -⟩
               · exfalso
                 obtain ⟨l, l0, l1, l2⟩ := sk_unread (σ := σ) (N := N) (by omega) (by omega) (by omega)
                 rcases zz with zz | zz
                 · exact zz hph
                 · exact zz l l0 (by omega) ⟨l2, hI.2.2.2.2.1.2.2.2.2.2.2 l l0 (by omega)⟩
               · exact go30 r z1 (by omega) z3 (Or.inl (by omega)))
            | (rcases hm with z | z
               · exfalso; omega
               · exact go30 (i : Int) (by omega) (by omega) ((z (i : Int) (by omega) (by omega)).mpr (by omega)) (Or.inr ⟨rfl, z⟩))
        · refine sn_q_aloadn sn_bc_97 dL_isRead_21 rfl ?_
          refine sn_q_invV sn_bc_97 dL_isRead_22 sn_oc_97 sn_pv_10_86 (by decide) rfl (by decide) (sn_h1 (by decide)) rfl rfl rfl rfl (sk_nextRead (sk_ext_YX hE hYX) hI (fun τ r hq hr => ?_))
          have eτ := (hq.2.1 hc).symm
          subst eτ
          refine sn_q_goto (t := 30) sn_bc_97 dL_isRead_25 rfl ?_
          first
            | (rcases hr with ⟨z, zz⟩ | ⟨z1, z2, z3, -⟩
               · exfalso
                 obtain ⟨l, l0, l1, l2⟩ := sk_unread (σ := σ) (N := N) (by omega) (by omega) (by omega)
                 rcases zz with zz | zz
                 · exact zz hph
                 · exact zz l l0 (by omega) ⟨l2, hI.2.2.2.2.1.2.2.2.2.2.2 l l0 (by omega)⟩
               · exact go30 r z1 (by omega) z3 (Or.inl (by omega)))
            | (rcases hm with z | z
               · exfalso; omega
               · exact go30 (i : Int) (by omega) (by omega) ((z (i : Int) (by omega) (by omega)).mpr (by omega)) (Or.inr ⟨rfl, z⟩))
  have hE : sk_ext n0 Y0 X0 n0 Y0 X0 := sk_ext_rf
  refine sn_q_iconst sn_bc_97 dL_isRead_0 rfl ?_
  refine sn_q_ist4 sn_bc_97 dL_isRead_1 rfl ?_
  exact goL N.toNat 0 σ0 _ _ _ _ _ _ _ (by omega) ⟨hI0, hc0, sk_kq_rf, hph0, hrn, h217, h230, Or.inr (fun l a1 a2 => by rw [h228 l a1 a2]; omega)⟩ hE (by omega) (by omega)
