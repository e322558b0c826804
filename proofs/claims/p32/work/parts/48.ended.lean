/-! the law's isEnded -/
/-- what the years keep -/
def sk_Yp (N : Int) (bed : Int → Int) (lim aud y b : Int) (σ : Int → Int → Int) : Prop := σ 2 9 = y ∧ σ 3 0 = N ∧ (∀ l, 0 ≤ l → l < N → σ 5 l = bed l) ∧ σ 211 0 = 300 ∧ σ 211 1 = 9 ∧ σ 211 2 = lim ∧ σ 211 4 = aud ∧ ∀ l, 0 ≤ l → l < 8 → (0 ≤ σ 7 l ∧ σ 7 l ≤ b) ∧ 0 ≤ σ 8 l ∧ σ 8 l ≤ b
theorem sk_Yp_t {N : Int} {bed : Int → Int} {lim aud y b : Int} {σ τ : Int → Int → Int} (h : sk_Yp N bed lim aud y b σ) (g : ∀ a c, (a = 3 ∨ a = 5 ∨ a = 7 ∨ a = 8 ∨ a = 211 ∨ (a = 2 ∧ c = 9)) → τ a c = σ a c) : sk_Yp N bed lim aud y b τ := by
  obtain ⟨h1, h2, h3, h4, h5, h6, h7, h8⟩ := h
  refine ⟨(g _ _ (by omega)).trans h1, (g _ _ (by omega)).trans h2, fun l a1 a2 => (g _ _ (by omega)).trans (h3 l a1 a2), (g _ _ (by omega)).trans h4, (g _ _ (by omega)).trans h5, (g _ _ (by omega)).trans h6, (g _ _ (by omega)).trans h7, fun l a1 a2 => ?_⟩
  rw [g 7 l (by omega), g 8 l (by omega)]
  exact h8 l a1 a2
/-- at the beginning of a year -/
def sk_Yb (N : Int) (bed : Int → Int) (lim aud y : Int) (σ : Int → Int → Int) : Prop := sk_Iv σ ∧ sk_Yp N bed lim aud y y σ ∧ σ 2 10 = 0 ∧ (∀ s, 0 ≤ s → s < 8 → σ 10 s = 0) ∧ σ 9 0 = 0 ∧ σ 9 1 = 0 ∧ (∀ b, 0 ≤ b → b < 40 → σ 61 b = 0) ∧ (∀ t, 0 ≤ t → t < 80 → σ 178 t = 0) ∧ (∀ s, 0 ≤ s → s < 8 → σ 228 s = 0) ∧ (∀ s, 0 ≤ s → s < 8 → σ 230 s = 0) ∧ σ 217 7 = 0
theorem sk_nx {N : Int} {bed : Int → Int} {lim aud y : Int} {ω χ ψ : Int → Int → Int} (h : sk_Yp N bed lim aud y (y + 1) ω) (hIχ : sk_Iv χ) (hχf : ∀ a c, a ≠ 2 → a ≠ 9 → a ≠ 10 → a ≠ 11 → a ≠ 15 → ¬ ((60 ≤ a ∧ a ≤ 61) ∨ (98 ≤ a ∧ a ≤ 178) ∨ (217 ≤ a ∧ a ≤ 230)) → χ a c = ω a c) (h29 : χ 2 9 = ω 2 9 + 1) (h210 : χ 2 10 = 0) (h10 : ∀ s, 0 ≤ s → s < 8 → χ 10 s = 0 ∧ χ 11 s = 0) (h90 : χ 9 0 = 0) (h91 : χ 9 1 = 0) (h61 : ∀ b, 0 ≤ b → b < 40 → χ 61 b = 0) (h178 : ∀ t, 0 ≤ t → t < 80 → χ 178 t = 0) (hb : ∀ a s, 219 ≤ a → a ≤ 230 → 0 ≤ s → s < 8 → χ a s = 0) (hq : sk_q χ ψ) : sk_Yb N bed lim aud (y + 1) ψ := by
  have f : ∀ a c, (a < 65 ∨ (96 ≤ a ∧ a < 180) ∨ a = 211 ∨ 217 ≤ a) → ¬ (a = 2 ∧ c = 15) → ψ a c = χ a c := hq.1
  obtain ⟨e1, e2, e3, e4, e5, e6, e7, e8⟩ := h
  have g : ∀ a c, (a = 3 ∨ a = 5 ∨ a = 7 ∨ a = 8 ∨ a = 211) → ψ a c = ω a c := fun a c q => (f a c (by omega) (by omega)).trans (hχf a c (by omega) (by omega) (by omega) (by omega) (by omega) (by omega))
  have hz : ∀ s, 0 ≤ s → s < 8 → ψ 228 s = 0 := fun s a1 a2 => (f _ _ (by omega) (by omega)).trans (hb 228 s (by omega) (by omega) a1 a2)
  refine ⟨hq.2.2.1, ⟨?_, (g _ _ (by omega)).trans e2, fun l a1 a2 => (g _ _ (by omega)).trans (e3 l a1 a2), (g _ _ (by omega)).trans e4, (g _ _ (by omega)).trans e5, (g _ _ (by omega)).trans e6, (g _ _ (by omega)).trans e7, fun l a1 a2 => ?_⟩, (f _ _ (by omega) (by omega)).trans h210, fun s a1 a2 => (f _ _ (by omega) (by omega)).trans (h10 s a1 a2).1, (f _ _ (by omega) (by omega)).trans h90, (f _ _ (by omega) (by omega)).trans h91, fun s a1 a2 => (f _ _ (by omega) (by omega)).trans (h61 s a1 a2), fun s a1 a2 => (f _ _ (by omega) (by omega)).trans (h178 s a1 a2), hz, fun s a1 a2 => (f _ _ (by omega) (by omega)).trans (hb 230 s (by omega) (by omega) a1 a2), ?_⟩
  · rw [f 2 9 (by omega) (by omega), h29, e1]
  · rw [g 7 l (by omega), g 8 l (by omega)]; exact e8 l a1 a2
  · exact hq.2.2.1.2.2.2.2.1.2.2.2.1.trans (sk_sum_z 8 (fun s hs => if_pos (hz s (by omega) (by omega))))
theorem sk_en3 {n0 k0 : Nat} {Y0 : Nat → Nat × Nat} {X0 : Nat → Nat → sn_V} {Q : Option sn_V → sn_H → Prop} {N lim aud y : Int} {bed : Int → Int} {qB : Nat} {ω : Int → Int → Int} {S w won r : Int} {qH n k : Nat} {Y : Nat → Nat × Nat} {X : Nat → Nat → sn_V} (hYX : sn_YX Y0 X0) (hI : sk_Iv ω) (hc : ω 2 15 ≠ 0) (hN : N = ω 3 0) (hph : ω 2 10 = 3) (hYp : sk_Yp N bed lim aud y (y + 1) ω) (hy0 : 0 ≤ y) (hy1 : y ≤ 15) (hS : S = ω 9 0) (hE : sk_ext n0 Y0 X0 n Y X) (hB : sk_ar n Y X qB N.toNat bed) (hn : n ≤ n0 + 1) (hk : k ≤ k0 + 6) (hw : ω 2 11 = w) (hho : sk_ho ω r) (kk : ∀ (n k : Nat) Y X τ, sk_ext n0 Y0 X0 n Y X → n ≤ n0 + 1 → k ≤ k0 + 6 → sk_Yb N bed lim aud (y + 1) τ → τ 2 15 ≠ 0 → Q (some (sn_i 1)) (sn_hh n k Y τ X)) : ∀ (d j : Nat) (g8 : sn_V), (j : Int) + d = ω 212 8 → (∀ i, 0 ≤ i → i < (j : Int) → ω 215 i ≠ r) → sn_Wp 114 132 [sn_r 2, sn_r qB, sn_i S, sn_i w, sn_i won, sn_r qH, sn_i r, sn_i (j : Int), g8] [] (sn_hh n k Y ω X) Q := by
  have hC := hI.1.2.2.2.2.2 hc
  have hrk := hC.2.2
  have hA := sk_A_bd hI.2.1
  have hr8 : ω 212 8 = ω 9 0 - ω 9 1 := hrk.1.trans hI.2.1.2.2.1
  have h38 := hI.1.1
  have hbed := hYp.2.2.1
  have hy29 := hYp.1
  intro d
  induction d with
  | zero =>
    intro j g8 hd hinv
    refine sn_q_iload sn_bc_114 dL_isEnded_132 rfl ?_
    refine sn_q_iloadn sn_bc_114 dL_isEnded_134 rfl ?_
    refine sn_q_aloadn sn_bc_114 dL_isEnded_135 rfl ?_
    refine sn_q_iconst sn_bc_114 dL_isEnded_136 rfl ?_
    refine sn_q_invV sn_bc_114 dL_isEnded_137 sn_oc_114 sn_pv_10_33 (by decide) rfl (by decide) (sn_h1 (by decide)) rfl rfl rfl rfl (sk_many4 (sk_ext_YX hE hYX) hI (fun τ hq => ?_))
    have eτ := (hq.2.1 hc).symm
    subst eτ
    refine sn_q_isub sn_bc_114 dL_isEnded_140 (by omega) (by omega) ?_
    refine sn_q_icge (t := 212) sn_bc_114 dL_isEnded_141 rfl (fun c_141 => ?_) (fun c_141 => ?_)
    · refine sn_q_iload sn_bc_114 dL_isEnded_212 rfl ?_
      refine sn_q_iconst sn_bc_114 dL_isEnded_214 rfl ?_
      refine sn_q_icne (t := 239) sn_bc_114 dL_isEnded_215 rfl (fun c_215 => ?_) (fun c_215 => ?_)
      · exfalso
        rcases hho with ⟨z, -⟩ | ⟨m, m0, m1, m2, m3, m4⟩
        · omega
        · exact hinv m m0 (by omega) m2.symm
      · refine sn_q_aloadn sn_bc_114 dL_isEnded_218 rfl ?_
        refine sn_q_invV sn_bc_114 dL_isEnded_219 sn_oc_114 sn_pv_10_124 (by decide) rfl (by decide) (sn_h1 (by decide)) rfl rfl rfl rfl (sk_next hI hph (by omega) (by omega) (fun χ hIχ hχf hχ29 hχ210 hχ212 hχ10 hχ90 hχ91 hχ61 hχ178 hχb => ?_))
        have hI := hIχ
        refine sn_q_ifle (t := 239) sn_bc_114 dL_isEnded_222 rfl (fun c_222 => ?_) (fun c_222 => ?_)
        · exfalso
          rcases hho with ⟨z, -⟩ | ⟨m, m0, m1, m2, m3, m4⟩
          · omega
          · exact hinv m m0 (by omega) m2.symm
        · refine sn_q_aloadn sn_bc_114 dL_isEnded_225 rfl ?_
          refine sn_q_bipush sn_bc_114 dL_isEnded_226 rfl ?_
          refine sn_q_invV sn_bc_114 dL_isEnded_228 sn_oc_114 sn_pv_10_33 (by decide) rfl (by decide) (sn_h1 (by decide)) rfl rfl rfl rfl (sk_many10 (sk_ext_YX hE hYX) hI (fun ψ hψ => ?_))
          have e212 : ψ 2 12 = w := (hψ.1 2 12 (by omega) (by omega)).trans (hχ212.trans hw)
          rw [e212]
          refine sn_q_iloadn sn_bc_114 dL_isEnded_231 rfl ?_
          refine sn_q_icne (t := 239) sn_bc_114 dL_isEnded_232 rfl (fun c_232 => ?_) (fun c_232 => ?_)
          · exfalso
            rcases hho with ⟨z, -⟩ | ⟨m, m0, m1, m2, m3, m4⟩
            · omega
            · exact hinv m m0 (by omega) m2.symm
          · refine sn_q_iconst sn_bc_114 dL_isEnded_235 rfl ?_
            refine sn_q_goto (t := 240) sn_bc_114 dL_isEnded_236 rfl ?_
            refine sn_q_zret sn_bc_114 dL_isEnded_240 rfl (by omega) ?_
            exact kk n k Y X ψ hE hn hk (sk_nx hYp hIχ hχf hχ29 hχ210 hχ10 hχ90 hχ91 hχ61 hχ178 hχb hψ) hψ.2.2.2.2
    · exfalso; omega
  | succ d ih =>
    intro j g8 hd hinv
    refine sn_q_iload sn_bc_114 dL_isEnded_132 rfl ?_
    refine sn_q_iloadn sn_bc_114 dL_isEnded_134 rfl ?_
    refine sn_q_aloadn sn_bc_114 dL_isEnded_135 rfl ?_
    refine sn_q_iconst sn_bc_114 dL_isEnded_136 rfl ?_
    refine sn_q_invV sn_bc_114 dL_isEnded_137 sn_oc_114 sn_pv_10_33 (by decide) rfl (by decide) (sn_h1 (by decide)) rfl rfl rfl rfl (sk_many4 (sk_ext_YX hE hYX) hI (fun τ hq => ?_))
    have eτ := (hq.2.1 hc).symm
    subst eτ
    refine sn_q_isub sn_bc_114 dL_isEnded_140 (by omega) (by omega) ?_
    refine sn_q_icge (t := 212) sn_bc_114 dL_isEnded_141 rfl (fun c_141 => ?_) (fun c_141 => ?_)
    · exfalso; omega
    · refine sn_q_aloadn sn_bc_114 dL_isEnded_144 rfl ?_
      refine sn_q_iload sn_bc_114 dL_isEnded_145 rfl ?_
      refine sn_q_invV sn_bc_114 dL_isEnded_147 sn_oc_114 sn_pv_10_103 (by decide) rfl (by decide) (sn_h1 (by decide)) rfl rfl rfl rfl (sk_ranked (sk_ext_YX hE hYX) hI (by omega) (by omega) (fun τ hq hlt => ?_))
      have eτ := (hq.2.1 hc).symm
      subst eτ
      have hw8 := hrk.2.2.1 (j : Int) (by omega) (by omega)
      have hwN := hI.2.1.1 _ hw8.1 hw8.2.1 hw8.2.2.1
      have hbw := hbed _ hw8.1 (by omega)
      refine sn_q_ist8 sn_bc_114 dL_isEnded_150 rfl ?_
      refine sn_q_iload sn_bc_114 dL_isEnded_152 rfl ?_
      refine sn_q_iload sn_bc_114 dL_isEnded_154 rfl ?_
      refine sn_q_icne (t := 193) sn_bc_114 dL_isEnded_156 rfl (fun c_156 => ?_) (fun c_156 => ?_)
      · refine sn_q_aloadn sn_bc_114 dL_isEnded_193 rfl ?_
        refine sn_q_iload sn_bc_114 dL_isEnded_194 rfl ?_
        refine sk_l_iald hB sn_bc_114 dL_isEnded_196 (by omega) (by omega) ?_
        refine sn_q_bipush sn_bc_114 dL_isEnded_197 rfl ?_
        refine sn_q_iloadn sn_bc_114 dL_isEnded_199 rfl ?_
        refine sn_q_imul sn_bc_114 dL_isEnded_200 (by omega) (by omega) ?_
        refine sn_q_iclt (t := 206) sn_bc_114 dL_isEnded_201 rfl (fun c_201 => ?_) (fun c_201 => ?_)
        · refine sn_q_inc7 sn_bc_114 dL_isEnded_206 rfl (by omega) (by omega) ?_
          refine sn_q_goto (t := 132) sn_bc_114 dL_isEnded_209 rfl ?_
          exact ih (j + 1) _ (by omega) (fun i a1 a2 => by
            by_cases e : i = (j : Int)
            · rw [e]; omega
            · exact hinv i a1 (by omega))
        · exfalso
          rcases hho with ⟨z, zz⟩ | ⟨m, m0, m1, m2, m3, m4⟩
          · have := zz (j : Int) (by omega) (by omega)
            omega
          · by_cases g : (j : Int) < m
            · have := m4 (j : Int) (by omega) g
              omega
            · by_cases g2 : m = (j : Int)
              · rw [g2] at m2; omega
              · exact hinv m m0 (by omega) m2.symm
      · refine sn_q_aloadn sn_bc_114 dL_isEnded_159 rfl ?_
        refine sn_q_iload sn_bc_114 dL_isEnded_160 rfl ?_
        refine sk_l_iald hB sn_bc_114 dL_isEnded_162 (by omega) (by omega) ?_
        refine sn_q_bipush sn_bc_114 dL_isEnded_163 rfl ?_
        refine sn_q_iloadn sn_bc_114 dL_isEnded_165 rfl ?_
        refine sn_q_imul sn_bc_114 dL_isEnded_166 (by omega) (by omega) ?_
        refine sn_q_iclt (t := 191) sn_bc_114 dL_isEnded_167 rfl (fun c_167 => ?_) (fun c_167 => ?_)
        · exfalso
          first
            | omega
            | (rcases hho with ⟨z, zz⟩ | ⟨m, m0, m1, m2, m3, m4⟩
               · omega
               · have e : ω 215 (j : Int) = r := by omega
                 rw [← m2, ← e] at m3
                 omega)
        · refine sn_q_aloadn sn_bc_114 dL_isEnded_170 rfl ?_
          refine sn_q_invV sn_bc_114 dL_isEnded_171 sn_oc_114 sn_pv_10_124 (by decide) rfl (by decide) (sn_h1 (by decide)) rfl rfl rfl rfl (sk_next hI hph (by omega) (by omega) (fun χ hIχ hχf hχ29 hχ210 hχ212 hχ10 hχ90 hχ91 hχ61 hχ178 hχb => ?_))
          have hI := hIχ
          refine sn_q_ifle (t := 191) sn_bc_114 dL_isEnded_174 rfl (fun c_174 => ?_) (fun c_174 => ?_)
          · exfalso
            first
              | omega
              | (rcases hho with ⟨z, zz⟩ | ⟨m, m0, m1, m2, m3, m4⟩
                 · omega
                 · have e : ω 215 (j : Int) = r := by omega
                   rw [← m2, ← e] at m3
                   omega)
          · refine sn_q_aloadn sn_bc_114 dL_isEnded_177 rfl ?_
            refine sn_q_bipush sn_bc_114 dL_isEnded_178 rfl ?_
            refine sn_q_invV sn_bc_114 dL_isEnded_180 sn_oc_114 sn_pv_10_33 (by decide) rfl (by decide) (sn_h1 (by decide)) rfl rfl rfl rfl (sk_many10 (sk_ext_YX hE hYX) hI (fun ψ hψ => ?_))
            have e212 : ψ 2 12 = w := (hψ.1 2 12 (by omega) (by omega)).trans (hχ212.trans hw)
            rw [e212]
            refine sn_q_iloadn sn_bc_114 dL_isEnded_183 rfl ?_
            refine sn_q_icne (t := 191) sn_bc_114 dL_isEnded_184 rfl (fun c_184 => ?_) (fun c_184 => ?_)
            · exfalso
              first
                | omega
                | (rcases hho with ⟨z, zz⟩ | ⟨m, m0, m1, m2, m3, m4⟩
                   · omega
                   · have e : ω 215 (j : Int) = r := by omega
                     rw [← m2, ← e] at m3
                     omega)
            · refine sn_q_iconst sn_bc_114 dL_isEnded_187 rfl ?_
              refine sn_q_goto (t := 192) sn_bc_114 dL_isEnded_188 rfl ?_
              refine sn_q_zret sn_bc_114 dL_isEnded_192 rfl (by omega) ?_
              exact kk n k Y X ψ hE hn hk (sk_nx hYp hIχ hχf hχ29 hχ210 hχ10 hχ90 hχ91 hχ61 hχ178 hχb hψ) hψ.2.2.2.2
theorem sk_en2 {n0 : Nat} {Y0 : Nat → Nat × Nat} {X0 : Nat → Nat → sn_V} {Q : Option sn_V → sn_H → Prop} {N : Int} {bed : Int → Int} {qB : Nat} {ω : Int → Int → Int} {S w won r : Int} {qH n k : Nat} {Y : Nat → Nat × Nat} {X : Nat → Nat → sn_V} {hos : Int → Int} (hYX : sn_YX Y0 X0) (hI : sk_Iv ω) (hc : ω 2 15 ≠ 0) (hN : N = ω 3 0) (hE : sk_ext n0 Y0 X0 n Y X) (hB : sk_ar n Y X qB N.toNat bed) (hH : sk_ar n Y X qH N.toNat hos) (hr : ∀ l, 0 ≤ l → l < N → ω 8 l = hos l + (if l = r then 1 else 0) ∧ 0 ≤ hos l ∧ hos l ≤ 1000) (K : ∀ j : Int, sn_Wp 114 129 [sn_r 2, sn_r qB, sn_i S, sn_i w, sn_i won, sn_r qH, sn_i r, sn_i j, sn_u] [] (sn_hh n k Y ω X) Q) : ∀ (d j : Nat), (j : Int) + d = N → sn_Wp 114 85 [sn_r 2, sn_r qB, sn_i S, sn_i w, sn_i won, sn_r qH, sn_i r, sn_i (j : Int), sn_u] [] (sn_hh n k Y ω X) Q := by
  have h38 := hI.1.1
  intro d
  induction d with
  | zero =>
    intro j hd
    refine sn_q_iload sn_bc_114 dL_isEnded_85 rfl ?_
    refine sn_q_aloadn sn_bc_114 dL_isEnded_87 rfl ?_
    refine sk_l_alen hB sn_bc_114 dL_isEnded_88 ?_
    refine sn_q_icge (t := 129) sn_bc_114 dL_isEnded_89 rfl (fun c_89 => ?_) (fun c_89 => ?_)
    · exact K _
    · exfalso; omega
  | succ d ih =>
    intro j hd
    have hrj := hr (j : Int) (by omega) (by omega)
    refine sn_q_iload sn_bc_114 dL_isEnded_85 rfl ?_
    refine sn_q_aloadn sn_bc_114 dL_isEnded_87 rfl ?_
    refine sk_l_alen hB sn_bc_114 dL_isEnded_88 ?_
    refine sn_q_icge (t := 129) sn_bc_114 dL_isEnded_89 rfl (fun c_89 => ?_) (fun c_89 => ?_)
    · exfalso; omega
    · refine sn_q_aloadn sn_bc_114 dL_isEnded_92 rfl ?_
      refine sn_q_iload sn_bc_114 dL_isEnded_93 rfl ?_
      refine sn_q_bipush sn_bc_114 dL_isEnded_95 rfl ?_
      refine sn_q_invV sn_bc_114 dL_isEnded_97 sn_oc_114 sn_pv_10_100 (by decide) rfl (by decide) (sn_h1 (by decide)) rfl rfl rfl rfl (sk_ofLand10 (sk_ext_YX hE hYX) hI (by omega) (by omega) (fun τ hq => ?_))
      have eτ := (hq.2.1 hc).symm
      subst eτ
      refine sn_q_aload sn_bc_114 dL_isEnded_100 rfl ?_
      refine sn_q_iload sn_bc_114 dL_isEnded_102 rfl ?_
      refine sk_l_iald hH sn_bc_114 dL_isEnded_104 (by omega) (by omega) ?_
      refine sn_q_iload sn_bc_114 dL_isEnded_105 rfl ?_
      refine sn_q_iload sn_bc_114 dL_isEnded_107 rfl ?_
      refine sn_q_icne (t := 116) sn_bc_114 dL_isEnded_109 rfl (fun c_109 => ?_) (fun c_109 => ?_)
      · refine sn_q_iconst sn_bc_114 dL_isEnded_116 rfl ?_
        refine sn_q_iadd sn_bc_114 dL_isEnded_117 (by omega) (by omega) ?_
        refine sn_q_iceq (t := 123) sn_bc_114 dL_isEnded_118 rfl (fun c_118 => ?_) (fun c_118 => ?_)
        · refine sn_q_inc7 sn_bc_114 dL_isEnded_123 rfl (by omega) (by omega) ?_
          refine sn_q_goto (t := 85) sn_bc_114 dL_isEnded_126 rfl ?_
          exact ih (j + 1) (by omega)
        · exfalso
          first
            | (rw [if_pos (by omega)] at hrj; omega)
            | (rw [if_neg (by omega)] at hrj; omega)
      · refine sn_q_iconst sn_bc_114 dL_isEnded_112 rfl ?_
        refine sn_q_goto (t := 117) sn_bc_114 dL_isEnded_113 rfl ?_
        refine sn_q_iadd sn_bc_114 dL_isEnded_117 (by omega) (by omega) ?_
        refine sn_q_iceq (t := 123) sn_bc_114 dL_isEnded_118 rfl (fun c_118 => ?_) (fun c_118 => ?_)
        · refine sn_q_inc7 sn_bc_114 dL_isEnded_123 rfl (by omega) (by omega) ?_
          refine sn_q_goto (t := 85) sn_bc_114 dL_isEnded_126 rfl ?_
          exact ih (j + 1) (by omega)
        · exfalso
          first
            | (rw [if_pos (by omega)] at hrj; omega)
            | (rw [if_neg (by omega)] at hrj; omega)
theorem sk_en1 {n0 : Nat} {Y0 : Nat → Nat × Nat} {X0 : Nat → Nat → sn_V} {Q : Option sn_V → sn_H → Prop} {N : Int} {bed : Int → Int} {qB : Nat} {σ : Int → Int → Int} {S w won : Int} {qH : Nat} (hYX : sn_YX Y0 X0) (hI : sk_Iv σ) (hc : σ 2 15 ≠ 0) (hN : N = σ 3 0) (hqH : 231 + n0 ≤ qH) (hqB : qB ≠ qH) : ∀ (d j : Nat) (n k : Nat) (Y : Nat → Nat × Nat) (X : Nat → Nat → sn_V) (hos : Int → Int), (j : Int) + d = N → sk_ext n0 Y0 X0 n Y X → sk_ar n Y X qB N.toNat bed → sk_ar n Y X qH N.toNat hos → (∀ l, 0 ≤ l → l < (j : Int) → hos l = σ 8 l) → (∀ (X : Nat → Nat → sn_V) (hos : Int → Int) (j : Int), sk_ext n0 Y0 X0 n Y X → sk_ar n Y X qB N.toNat bed → sk_ar n Y X qH N.toNat hos → (∀ l, 0 ≤ l → l < N → hos l = σ 8 l) → sn_Wp 114 50 [sn_r 2, sn_r qB, sn_i S, sn_i w, sn_i won, sn_r qH, sn_i j, sn_u, sn_u] [] (sn_hh n k Y σ X) Q) → sn_Wp 114 24 [sn_r 2, sn_r qB, sn_i S, sn_i w, sn_i won, sn_r qH, sn_i (j : Int), sn_u, sn_u] [] (sn_hh n k Y σ X) Q := by
  have h38 := hI.1.1
  intro d
  induction d with
  | zero =>
    intro j n k Y X hos hd hE hB hH hv K
    refine sn_q_iload sn_bc_114 dL_isEnded_24 rfl ?_
    refine sn_q_aloadn sn_bc_114 dL_isEnded_26 rfl ?_
    refine sk_l_alen hB sn_bc_114 dL_isEnded_27 ?_
    refine sn_q_icge (t := 50) sn_bc_114 dL_isEnded_28 rfl (fun c_28 => ?_) (fun c_28 => ?_)
    · exact K X hos _ hE hB hH (fun l a1 a2 => hv l a1 (by omega))
    · exfalso; omega
  | succ d ih =>
    intro j n k Y X hos hd hE hB hH hv K
    refine sn_q_iload sn_bc_114 dL_isEnded_24 rfl ?_
    refine sn_q_aloadn sn_bc_114 dL_isEnded_26 rfl ?_
    refine sk_l_alen hB sn_bc_114 dL_isEnded_27 ?_
    refine sn_q_icge (t := 50) sn_bc_114 dL_isEnded_28 rfl (fun c_28 => ?_) (fun c_28 => ?_)
    · exfalso; omega
    · refine sn_q_aload sn_bc_114 dL_isEnded_31 rfl ?_
      refine sn_q_iload sn_bc_114 dL_isEnded_33 rfl ?_
      refine sn_q_aloadn sn_bc_114 dL_isEnded_35 rfl ?_
      refine sn_q_iload sn_bc_114 dL_isEnded_36 rfl ?_
      refine sn_q_bipush sn_bc_114 dL_isEnded_38 rfl ?_
      refine sn_q_invV sn_bc_114 dL_isEnded_40 sn_oc_114 sn_pv_10_100 (by decide) rfl (by decide) (sn_h1 (by decide)) rfl rfl rfl rfl (sk_ofLand10 (sk_ext_YX hE hYX) hI (by omega) (by omega) (fun τ hq => ?_))
      have eτ := (hq.2.1 hc).symm
      subst eτ
      refine sk_l_iast hH sn_bc_114 dL_isEnded_43 (by omega) (by omega) (fun hH => ?_)
      have hE := sk_ext_v hE hH hqH
      have hB := sk_ar_v hB hH hqB
      refine sn_q_inc6 sn_bc_114 dL_isEnded_44 rfl (by omega) (by omega) ?_
      refine sn_q_goto (t := 24) sn_bc_114 dL_isEnded_47 rfl ?_
      exact ih (j + 1) _ _ _ _ _ (by omega) hE hB hH (fun l a1 a2 => by
        (try dsimp only)
        by_cases e : l = (j : Int)
        · rw [if_pos e, e]
        · rw [if_neg e]; exact hv l a1 (by omega)) K
set_option maxHeartbeats 1000000 in
theorem sk_isEnded {n0 k0 : Nat} {Y0 : Nat → Nat × Nat} {X0 : Nat → Nat → sn_V} {Q : Option sn_V → sn_H → Prop} {N lim aud y : Int} {bed : Int → Int} {qB : Nat} {σ : Int → Int → Int} {S : Int} (hYX : sn_YX Y0 X0) (hI : sk_Iv σ) (hc : σ 2 15 ≠ 0) (hph : σ 2 10 = 2) (hYp : sk_Yp N bed lim aud y y σ) (hy0 : 0 ≤ y) (hy1 : y ≤ 15) (h3 : 3 ≤ N) (h6 : N ≤ 6) (hS : S = σ 9 0) (hB : sk_ar n0 Y0 X0 qB N.toNat bed) (hread : σ 3 0 ≤ σ 217 7) (hall : ∀ s, 0 ≤ s → s < 8 → sn_run σ s → σ 230 s ≠ 0) (hM : 3 ≤ σ 9 0 - σ 9 1) (kk : ∀ (n k : Nat) Y X τ, sk_ext n0 Y0 X0 n Y X → n ≤ n0 + 1 → k ≤ k0 + 6 → sk_Yb N bed lim aud (y + 1) τ → τ 2 15 ≠ 0 → Q (some (sn_i 1)) (sn_hh n k Y τ X))  : sn_Wp 114 0 [sn_r 2, sn_r qB, sn_i S, sn_u, sn_u, sn_u, sn_u, sn_u, sn_u] [] (sn_hh n0 k0 Y0 σ X0) Q := by
  have hC := hI.1.2.2.2.2.2 hc
  have hrk := hC.2.2
  have hA := sk_A_bd hI.2.1
  have hr8 : σ 212 8 = σ 9 0 - σ 9 1 := hrk.1.trans hI.2.1.2.2.1
  have h38 := hI.1.1
  have hN := hYp.2.1.symm
  have hE : sk_ext n0 Y0 X0 n0 Y0 X0 := sk_ext_rf
  have hqB9 := hB.2.1
  refine sn_q_aloadn sn_bc_114 dL_isEnded_0 rfl ?_
  refine sn_q_iconst sn_bc_114 dL_isEnded_1 rfl ?_
  refine sn_q_invV sn_bc_114 dL_isEnded_2 sn_oc_114 sn_pv_10_103 (by decide) rfl (by decide) (sn_h1 (by decide)) rfl rfl rfl rfl (sk_ranked (sk_ext_YX hE hYX) hI (by omega) (by omega) (fun τ hq hlt => ?_))
  have eτ := (hq.2.1 hc).symm
  subst eτ
  have hw8 := hrk.2.2.1 0 (by omega) (by omega)
  have hwN := hI.2.1.1 _ hw8.1 hw8.2.1 hw8.2.2.1
  refine sn_q_istn3 sn_bc_114 dL_isEnded_5 rfl ?_
  refine sn_q_aloadn sn_bc_114 dL_isEnded_6 rfl ?_
  refine sn_q_iloadn sn_bc_114 dL_isEnded_7 rfl ?_
  refine sn_q_bipush sn_bc_114 dL_isEnded_8 rfl ?_
  refine sn_q_invV sn_bc_114 dL_isEnded_10 sn_oc_114 sn_pv_10_100 (by decide) rfl (by decide) (sn_h1 (by decide)) rfl rfl rfl rfl (sk_ofLand9 (sk_ext_YX hE hYX) hI (by omega) (by omega) (fun τ hq => ?_))
  have eτ := (hq.2.1 hc).symm
  subst eτ
  refine sn_q_ist4 sn_bc_114 dL_isEnded_13 rfl ?_
  refine sn_q_aloadn sn_bc_114 dL_isEnded_15 rfl ?_
  refine sk_l_alen hB sn_bc_114 dL_isEnded_16 ?_
  refine sk_l_new sn_bc_114 dL_isEnded_17 (by omega) (by omega) (fun Y1 X1 he hH => ?_)
  have hB := sk_ext_ar he hB
  have hqB : qB ≠ 231 + n0 := by omega
  have hE := sk_ext_tr hE he
  refine sn_q_ast5 sn_bc_114 dL_isEnded_19 rfl ?_
  refine sn_q_iconst sn_bc_114 dL_isEnded_21 rfl ?_
  refine sn_q_ist6 sn_bc_114 dL_isEnded_22 rfl ?_
  refine sk_en1 hYX hI hc (by omega) (by omega) hqB N.toNat 0 _ _ _ _ _ (by omega) hE hB hH (fun l a1 a2 => by omega) (fun X hos j hE hB hH hv => ?_)
  refine sn_q_aloadn sn_bc_114 dL_isEnded_50 rfl ?_
  refine sn_q_invV sn_bc_114 dL_isEnded_51 sn_oc_114 sn_pv_10_121 (by decide) rfl (by decide) (sn_h1 (by decide)) rfl rfl rfl rfl (sk_end (sk_ext_YX hE hYX) hI hph hread hall (by omega) (fun τ ω r hq hIω hcω hfω e10 e11 e13 e7 e8 hho => ?_))
  have eτ := (hq.2.1 hc).symm
  subst eτ
  have hIσ := hI
  have hI := hIω
  have hcσ := hc
  have hc := hcω
  have f3 : ω 3 0 = σ 3 0 := hfω 3 0 (by omega) (by omega) (by omega) (by omega)
  have f9 : ∀ c, ω 9 c = σ 9 c := fun c => hfω 9 c (by omega) (by omega) (by omega) (by omega)
  have f5 : ∀ c, ω 5 c = σ 5 c := fun c => hfω 5 c (by omega) (by omega) (by omega) (by omega)
  have f215 : ∀ c, ω 215 c = σ 215 c := fun c => hfω 215 c (by omega) (by omega) (by omega) (by omega)
  have f212 : ω 212 8 = σ 212 8 := hfω 212 8 (by omega) (by omega) (by omega) (by omega)
  have hho' : sk_ho ω r := by
    unfold sk_ho at hho ⊢
    simp only [f212, f215, f5, f9]
    exact hho
  have b7 := hYp.2.2.2.2.2.2.2
  have h7b := (b7 (σ 215 0) hw8.1 hw8.2.1).1
  have hr1 : r ≠ -1 → 0 ≤ r ∧ r < 8 := fun z => by
    rcases hho with ⟨z2, -⟩ | ⟨m, m0, m1, m2, -, -⟩
    · exact absurd z2 z
    · have := hrk.2.2.1 m m0 m1
      omega
  have w7 : sn_wr (σ 7 (σ 215 0) + 1) = σ 7 (σ 215 0) + 1 := sn_wr_id (by omega) (by omega)
  have w8 : r ≠ -1 → ω 8 r = σ 8 r + 1 := fun z => by
    have := (b7 r (hr1 z).1 (hr1 z).2).2
    rw [e8 z, sn_wr_id (by omega) (by omega)]
  have hYω : sk_Yp N bed lim aud y (y + 1) ω := by
    obtain ⟨h1, h2, h3, h4, h5, h6, h7, h8⟩ := hYp
    refine ⟨(hfω 2 9 (by omega) (by omega) (by omega) (by omega)).trans h1, f3.trans h2, fun l a1 a2 => (f5 l).trans (h3 l a1 a2), (hfω 211 0 (by omega) (by omega) (by omega) (by omega)).trans h4, (hfω 211 1 (by omega) (by omega) (by omega) (by omega)).trans h5, (hfω 211 2 (by omega) (by omega) (by omega) (by omega)).trans h6, (hfω 211 4 (by omega) (by omega) (by omega) (by omega)).trans h7, fun l a1 a2 => ⟨?_, ?_⟩⟩
    · have := (h8 l a1 a2).1
      by_cases e : l = σ 215 0
      · rw [e, e7, w7]; rw [e] at this; omega
      · rw [hfω 7 l (by omega) (by omega) (by omega) (by omega)]; omega
    · have := (h8 l a1 a2).2
      by_cases e : l = r
      · rw [e, w8 (by omega)]; rw [e] at this; omega
      · rw [hfω 8 l (by omega) (by omega) (by omega) (by omega)]; omega
  refine sn_q_iloadn sn_bc_114 dL_isEnded_54 rfl ?_
  refine sn_q_icne (t := 72) sn_bc_114 dL_isEnded_55 rfl (fun c_55 => ?_) (fun c_55 => ?_)
  · exfalso; omega
  · refine sn_q_aloadn sn_bc_114 dL_isEnded_58 rfl ?_
    refine sn_q_iloadn sn_bc_114 dL_isEnded_59 rfl ?_
    refine sn_q_bipush sn_bc_114 dL_isEnded_60 rfl ?_
    refine sn_q_invV sn_bc_114 dL_isEnded_62 sn_oc_114 sn_pv_10_100 (by decide) rfl (by decide) (sn_h1 (by decide)) rfl rfl rfl rfl (sk_ofLand9 (sk_ext_YX hE hYX) hI (by omega) (by omega) (fun τ hq => ?_))
    have eτ := (hq.2.1 hc).symm
    subst eτ
    rw [e7, w7]
    refine sn_q_iload sn_bc_114 dL_isEnded_65 rfl ?_
    refine sn_q_iconst sn_bc_114 dL_isEnded_67 rfl ?_
    refine sn_q_iadd sn_bc_114 dL_isEnded_68 (by omega) (by omega) ?_
    refine sn_q_iceq (t := 74) sn_bc_114 dL_isEnded_69 rfl (fun c_69 => ?_) (fun c_69 => ?_)
    · refine sn_q_aloadn sn_bc_114 dL_isEnded_74 rfl ?_
      refine sn_q_bipush sn_bc_114 dL_isEnded_75 rfl ?_
      refine sn_q_invV sn_bc_114 dL_isEnded_77 sn_oc_114 sn_pv_10_33 (by decide) rfl (by decide) (sn_h1 (by decide)) rfl rfl rfl rfl (sk_many9 (sk_ext_YX hE hYX) hI (fun τ hq => ?_))
      have eτ := (hq.2.1 hc).symm
      subst eτ
      rw [e13]
      refine sn_q_ist6 sn_bc_114 dL_isEnded_80 rfl ?_
      refine sn_q_iconst sn_bc_114 dL_isEnded_82 rfl ?_
      refine sn_q_ist7 sn_bc_114 dL_isEnded_83 rfl ?_
      refine sk_en2 hYX hIω hcω (hN.trans f3.symm) hE hB hH (fun l a1 a2 => ?_) (fun j => ?_) N.toNat 0 (by omega)
      · have b8 := (b7 l a1 (by omega)).2
        rw [hv l a1 a2]
        by_cases e : l = r
        · rw [if_pos e, e, w8 (by omega)]; rw [e] at b8; omega
        · rw [if_neg e, hfω 8 l (by omega) (by omega) (by omega) (by omega)]; omega
      · refine sn_q_iconst sn_bc_114 dL_isEnded_129 rfl ?_
        refine sn_q_ist7 sn_bc_114 dL_isEnded_130 rfl ?_
        refine sk_en3 hYX hIω hcω (hN.trans f3.symm) e10 hYω hy0 hy1 (hS.trans (f9 0).symm) hE hB (by omega) ?_ e11 hho' kk (ω 212 8).toNat 0 _ (by omega) (fun i a1 a2 => by omega)
        omega
    · exfalso; omega
