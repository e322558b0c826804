/-! the digest, of a year with no songs yet -/
theorem sk_digestOfLand {n k : Nat} {Y : Nat → Nat × Nat} {X : Nat → Nat → sn_V} {σ : Int → Int → Int} {Q : Option sn_V → sn_H → Prop} {x l : Int} (hI : sk_Iv σ) (hC : sn_Ct σ) (hns : ∀ s, 0 ≤ s → s < 8 → σ 10 s = 0) (h1 : 0 ≤ l) (h2 : l < 8) (kk : ∀ v : Int, Q (some (sn_l v)) (sn_hh n k Y σ X)) : sn_Wp 124 0 [sn_r 2, sn_l x, sn_u, sn_i l, sn_u, sn_u, sn_u] [] (sn_hh n k Y σ X) Q := by
  have loop2 : ∀ (d : Nat) (i : Nat) (y : Int), i + d = 8 → sn_Wp 124 57 [sn_r 2, sn_l x, sn_u, sn_i l, sn_l y, sn_u, sn_i (i : Int)] [] (sn_hh n k Y σ X) Q := by
    refine sn_ind (fun d ih => ?_)
    intro i y hi
    refine sn_q_iload sn_bc_124 dX9_digestOfLand_57 rfl ?_
    refine sn_q_bipush sn_bc_124 dX9_digestOfLand_59 rfl ?_
    refine sn_q_icge (t := 147) sn_bc_124 dX9_digestOfLand_61 rfl (fun c_61 => ?_) (fun c_61 => ?_)
    · refine sn_q_lload sn_bc_124 dX9_digestOfLand_147 rfl ?_
      refine sn_q_lret sn_bc_124 dX9_digestOfLand_149 rfl ?_
      exact kk _
    · refine sn_q_aloadn sn_bc_124 dX9_digestOfLand_64 rfl ?_
      refine sn_q_getr (v := 9) sn_bc_124 dX9_digestOfLand_65 sn_oc_124 sn_pf_9_42 (by decide) rfl rfl (by decide) ?_
      refine sn_q_getr (v := 10) sn_bc_124 dX9_digestOfLand_68 sn_oc_124 sn_pf_9_157 (by decide) rfl rfl (by decide) ?_
      refine sn_q_iload sn_bc_124 dX9_digestOfLand_71 rfl ?_
      refine sn_q_bald (P := 10) sn_bc_124 dX9_digestOfLand_73 sn_a10 rfl (by omega) (by omega) ?_
      refine sn_q_ifeq (t := 141) sn_bc_124 dX9_digestOfLand_74 rfl (fun c_74 => ?_) (fun c_74 => ?_)
      · refine sn_q_iincL sn_bc_124 dX9_digestOfLand_141 (show (6 : Nat) < 7 from by decide) rfl rfl (by omega) (by omega) rfl ?_
        refine sn_q_goto (t := 57) sn_bc_124 dX9_digestOfLand_144 rfl ?_
        exact ih (d - 1) (by omega) (i + 1) _ (by omega)
      · exfalso
        have := hns i (by omega) (by omega)
        omega
  have loop1 : ∀ (d : Nat) (i : Nat) (y : Int), i + d = 11 → sn_Wp 124 6 [sn_r 2, sn_l x, sn_u, sn_i l, sn_l y, sn_u, sn_i (i : Int)] [] (sn_hh n k Y σ X) Q := by
    refine sn_ind (fun d ih => ?_)
    intro i y hi
    refine sn_q_iload sn_bc_124 dX9_digestOfLand_6 rfl ?_
    refine sn_q_bipush sn_bc_124 dX9_digestOfLand_8 rfl ?_
    refine sn_q_icgt (t := 36) sn_bc_124 dX9_digestOfLand_10 rfl (fun c_10 => ?_) (fun c_10 => ?_)
    · refine sn_q_lload sn_bc_124 dX9_digestOfLand_36 rfl ?_
      refine sn_q_ldc2 sn_bc_124 dX9_digestOfLand_38 sn_oc_124 rfl rfl ?_
      refine sn_q_lmul sn_bc_124 dX9_digestOfLand_41 ?_
      refine sn_q_aloadn sn_bc_124 dX9_digestOfLand_42 rfl ?_
      refine sn_q_getr (v := 212) sn_bc_124 dX9_digestOfLand_43 sn_oc_124 sn_pf_9_67 (by decide) rfl rfl (by decide) ?_
      refine sn_q_iloadn sn_bc_124 dX9_digestOfLand_46 rfl ?_
      refine sn_q_invV sn_bc_124 dX9_digestOfLand_47 sn_oc_124 sn_pv_9_362 (by decide) rfl (by decide) (sn_h1 (by decide)) rfl rfl rfl rfl (sp_leaderWithout hC.2.1 hI.1.2.2.2.1.1 hI.1.2.2.2.1.2 (fun r _ _ _ => ?_))
      refine sn_q_i2l sn_bc_124 dX9_digestOfLand_50 ?_
      refine sn_q_ladd sn_bc_124 dX9_digestOfLand_51 ?_
      refine sn_q_lstore sn_bc_124 dX9_digestOfLand_52 rfl rfl rfl ?_
      refine sn_q_iconst sn_bc_124 dX9_digestOfLand_54 rfl ?_
      refine sn_q_istoreL sn_bc_124 dX9_digestOfLand_55 (show (6 : Nat) < 7 from by decide) rfl rfl ?_
      exact loop2 8 0 _ rfl
    · refine sn_q_lload sn_bc_124 dX9_digestOfLand_13 rfl ?_
      refine sn_q_ldc2 sn_bc_124 dX9_digestOfLand_15 sn_oc_124 rfl rfl ?_
      refine sn_q_lmul sn_bc_124 dX9_digestOfLand_18 ?_
      refine sn_q_aloadn sn_bc_124 dX9_digestOfLand_19 rfl ?_
      refine sn_q_iloadn sn_bc_124 dX9_digestOfLand_20 rfl ?_
      refine sn_q_iload sn_bc_124 dX9_digestOfLand_21 rfl ?_
      refine sn_q_invV sn_bc_124 dX9_digestOfLand_23 sn_oc_124 sn_pv_9_333 (by decide) rfl (by decide) (sn_h1 (by decide)) rfl rfl rfl rfl (sk_nlx h1 h2 (by omega) (by omega) (fun r => ?_))
      refine sn_q_i2l sn_bc_124 dX9_digestOfLand_26 ?_
      refine sn_q_ladd sn_bc_124 dX9_digestOfLand_27 ?_
      refine sn_q_lstore sn_bc_124 dX9_digestOfLand_28 rfl rfl rfl ?_
      refine sn_q_iincL sn_bc_124 dX9_digestOfLand_30 (show (6 : Nat) < 7 from by decide) rfl rfl (by omega) (by omega) rfl ?_
      refine sn_q_goto (t := 6) sn_bc_124 dX9_digestOfLand_33 rfl ?_
      exact ih (d - 1) (by omega) (i + 1) _ (by omega)
  refine sn_q_lloadn sn_bc_124 dX9_digestOfLand_0 rfl ?_
  refine sn_q_lstore sn_bc_124 dX9_digestOfLand_1 rfl rfl rfl ?_
  refine sn_q_iconst sn_bc_124 dX9_digestOfLand_3 rfl ?_
  refine sn_q_istoreL sn_bc_124 dX9_digestOfLand_4 (show (6 : Nat) < 7 from by decide) rfl rfl ?_
  exact loop1 11 0 _ rfl
theorem sk_dig {n k : Nat} {Y : Nat → Nat × Nat} {X : Nat → Nat → sn_V} {σ : Int → Int → Int} {Q : Option sn_V → sn_H → Prop} (hI : sk_Iv σ) (hC : sn_Ct σ) (hph : σ 2 10 = 0) (hns : ∀ s, 0 ≤ s → s < 8 → σ 10 s = 0) (kk : ∀ v : Int, Q (some (sn_l v)) (sn_hh n k Y σ X)) : sn_Wp 123 4 [sn_r 2, sn_u, sn_u, sn_u, sn_u] [] (sn_hh n k Y σ X) Q := by
  have h38 := hI.1.1.2
  have hS := hI.2.2.1.1
  have h15 := hI.1.2.2.2.1
  have hr0 : σ 212 8 = 0 := by
    rw [hC.2.2.1]
    exact (sn_sum_c 8 (fun i g => if_neg (fun z => z.1 (hns i (by omega) (by omega))))).trans (show sn_sum (fun _ => (0 : Int)) 8 = 0 from rfl)
  have l5 : ∀ (d : Nat) (i : Nat) (y : Int) (u : sn_V), i + d = 8 → sn_Wp 123 156 [sn_r 2, sn_l y, sn_u, sn_i (i : Int), u] [] (sn_hh n k Y σ X) Q := by
    refine sn_ind (fun d ih => ?_)
    intro i y u hi
    refine sn_q_iloadn sn_bc_123 dX9_digest_156 rfl ?_
    refine sn_q_aloadn sn_bc_123 dX9_digest_157 rfl ?_
    refine sn_q_getr (v := 212) sn_bc_123 dX9_digest_158 sn_oc_123 sn_pf_9_67 (by decide) rfl rfl (by decide) ?_
    refine sn_q_geti (P := 212) (J := 8) sn_bc_123 dX9_digest_161 sn_oc_123 sn_pf_9_379 (by decide) rfl rfl rfl rfl ?_
    refine sn_q_icge (t := 190) sn_bc_123 dX9_digest_164 rfl (fun c_164 => ?_) (fun c_164 => ?_)
    · refine sn_q_lloadn sn_bc_123 dX9_digest_190 rfl ?_
      refine sn_q_ldc2 sn_bc_123 dX9_digest_191 sn_oc_123 rfl rfl ?_
      refine sn_q_lmul sn_bc_123 dX9_digest_194 ?_
      refine sn_q_aloadn sn_bc_123 dX9_digest_195 rfl ?_
      refine sn_q_invV sn_bc_123 dX9_digest_196 sn_oc_123 sn_pv_9_356 (by decide) rfl (by decide) (sn_h1 (by decide)) rfl rfl rfl rfl (sp_canStillChange (Or.inl (by omega)) ?_)
      refine sn_q_ifeq (t := 206) sn_bc_123 dX9_digest_199 rfl (fun c_199 => ?_) (fun c_199 => ?_)
      · refine sn_q_iconst sn_bc_123 dX9_digest_206 rfl ?_
        refine sn_q_i2l sn_bc_123 dX9_digest_207 ?_
        refine sn_q_ladd sn_bc_123 dX9_digest_208 ?_
        refine sn_q_lstoren sn_bc_123 dX9_digest_209 rfl rfl rfl ?_
        refine sn_q_lloadn sn_bc_123 dX9_digest_210 rfl ?_
        refine sn_q_ldc2 sn_bc_123 dX9_digest_211 sn_oc_123 rfl rfl ?_
        refine sn_q_lmul sn_bc_123 dX9_digest_214 ?_
        refine sn_q_aloadn sn_bc_123 dX9_digest_215 rfl ?_
        refine sn_q_invV sn_bc_123 dX9_digest_216 sn_oc_123 sn_pv_9_359 (by decide) rfl (by decide) (sn_h1 (by decide)) rfl rfl rfl rfl (sp_closestLand hI.1.1.1 hI.1.1.2 hI.2.2.2.2.1.1 hI.2.2.2.2.1.2.1 hC.2.1 (fun r hr => ?_))
        refine sn_q_i2l sn_bc_123 dX9_digest_219 ?_
        refine sn_q_ladd sn_bc_123 dX9_digest_220 ?_
        refine sn_q_lstoren sn_bc_123 dX9_digest_221 rfl rfl rfl ?_
        refine sn_q_lloadn sn_bc_123 dX9_digest_222 rfl ?_
        refine sn_q_ldc2 sn_bc_123 dX9_digest_223 sn_oc_123 rfl rfl ?_
        refine sn_q_lmul sn_bc_123 dX9_digest_226 ?_
        refine sn_q_aloadn sn_bc_123 dX9_digest_227 rfl ?_
        refine sn_q_invV sn_bc_123 dX9_digest_228 sn_oc_123 sn_pv_9_181 (by decide) rfl (by decide) (sn_h1 (by decide)) rfl rfl rfl rfl (sp_canMove (fun w1 => ?_) (fun w => ?_))
        · refine sn_q_ifeq (t := 244) sn_bc_123 dX9_digest_231 rfl (fun c => absurd c (by decide)) (fun _ => ?_)
          refine sn_q_aloadn sn_bc_123 dX9_digest_234 rfl ?_
          refine sn_q_getr (v := 15) sn_bc_123 dX9_digest_235 sn_oc_123 sn_pf_9_46 (by decide) rfl rfl (by decide) ?_
          refine sn_q_invV sn_bc_123 dX9_digest_238 sn_oc_123 sn_pv_9_368 (by decide) rfl (by decide) (sn_h1 (by decide)) rfl rfl rfl rfl (sp_bestShift hI.1.2.2.2.1.1 hI.1.2.2.2.1.2 (fun i a1 a2 => ⟨(hI.2.2.1.2.2.1 i a1 a2).1, (hI.2.2.1.2.2.1 i a1 a2).2.1⟩) hI.2.2.1.2.2.2.2.2 hI.2.2.1.2.2.2.1 hI.2.2.1.2.2.2.2.1 (fun b l τ hg hb hn => ?_))
          refine sn_q_goto (t := 245) sn_bc_123 dX9_digest_241 rfl ?_
          refine sn_q_i2l sn_bc_123 dX9_digest_245 ?_
          refine sn_q_ladd sn_bc_123 dX9_digest_246 ?_
          refine sn_q_lret sn_bc_123 dX9_digest_247 rfl ?_
          first
            | (exfalso; omega)
            | (rw [(hn hns).2]; exact kk _)
        · refine sn_q_ifeq (t := 244) sn_bc_123 dX9_digest_231 rfl (fun _ => ?_) (fun c => absurd (by decide) c)
          refine sn_q_iconst sn_bc_123 dX9_digest_244 rfl ?_
          refine sn_q_i2l sn_bc_123 dX9_digest_245 ?_
          refine sn_q_ladd sn_bc_123 dX9_digest_246 ?_
          refine sn_q_lret sn_bc_123 dX9_digest_247 rfl ?_
          first
            | (exfalso; omega)
            | (rw [(hn hns).2]; exact kk _)
      · refine sn_q_iconst sn_bc_123 dX9_digest_202 rfl ?_
        refine sn_q_goto (t := 207) sn_bc_123 dX9_digest_203 rfl ?_
        refine sn_q_i2l sn_bc_123 dX9_digest_207 ?_
        refine sn_q_ladd sn_bc_123 dX9_digest_208 ?_
        refine sn_q_lstoren sn_bc_123 dX9_digest_209 rfl rfl rfl ?_
        refine sn_q_lloadn sn_bc_123 dX9_digest_210 rfl ?_
        refine sn_q_ldc2 sn_bc_123 dX9_digest_211 sn_oc_123 rfl rfl ?_
        refine sn_q_lmul sn_bc_123 dX9_digest_214 ?_
        refine sn_q_aloadn sn_bc_123 dX9_digest_215 rfl ?_
        refine sn_q_invV sn_bc_123 dX9_digest_216 sn_oc_123 sn_pv_9_359 (by decide) rfl (by decide) (sn_h1 (by decide)) rfl rfl rfl rfl (sp_closestLand hI.1.1.1 hI.1.1.2 hI.2.2.2.2.1.1 hI.2.2.2.2.1.2.1 hC.2.1 (fun r hr => ?_))
        refine sn_q_i2l sn_bc_123 dX9_digest_219 ?_
        refine sn_q_ladd sn_bc_123 dX9_digest_220 ?_
        refine sn_q_lstoren sn_bc_123 dX9_digest_221 rfl rfl rfl ?_
        refine sn_q_lloadn sn_bc_123 dX9_digest_222 rfl ?_
        refine sn_q_ldc2 sn_bc_123 dX9_digest_223 sn_oc_123 rfl rfl ?_
        refine sn_q_lmul sn_bc_123 dX9_digest_226 ?_
        refine sn_q_aloadn sn_bc_123 dX9_digest_227 rfl ?_
        refine sn_q_invV sn_bc_123 dX9_digest_228 sn_oc_123 sn_pv_9_181 (by decide) rfl (by decide) (sn_h1 (by decide)) rfl rfl rfl rfl (sp_canMove (fun w1 => ?_) (fun w => ?_))
        · refine sn_q_ifeq (t := 244) sn_bc_123 dX9_digest_231 rfl (fun c => absurd c (by decide)) (fun _ => ?_)
          refine sn_q_aloadn sn_bc_123 dX9_digest_234 rfl ?_
          refine sn_q_getr (v := 15) sn_bc_123 dX9_digest_235 sn_oc_123 sn_pf_9_46 (by decide) rfl rfl (by decide) ?_
          refine sn_q_invV sn_bc_123 dX9_digest_238 sn_oc_123 sn_pv_9_368 (by decide) rfl (by decide) (sn_h1 (by decide)) rfl rfl rfl rfl (sp_bestShift hI.1.2.2.2.1.1 hI.1.2.2.2.1.2 (fun i a1 a2 => ⟨(hI.2.2.1.2.2.1 i a1 a2).1, (hI.2.2.1.2.2.1 i a1 a2).2.1⟩) hI.2.2.1.2.2.2.2.2 hI.2.2.1.2.2.2.1 hI.2.2.1.2.2.2.2.1 (fun b l τ hg hb hn => ?_))
          refine sn_q_goto (t := 245) sn_bc_123 dX9_digest_241 rfl ?_
          refine sn_q_i2l sn_bc_123 dX9_digest_245 ?_
          refine sn_q_ladd sn_bc_123 dX9_digest_246 ?_
          refine sn_q_lret sn_bc_123 dX9_digest_247 rfl ?_
          first
            | (exfalso; omega)
            | (rw [(hn hns).2]; exact kk _)
        · refine sn_q_ifeq (t := 244) sn_bc_123 dX9_digest_231 rfl (fun _ => ?_) (fun c => absurd (by decide) c)
          refine sn_q_iconst sn_bc_123 dX9_digest_244 rfl ?_
          refine sn_q_i2l sn_bc_123 dX9_digest_245 ?_
          refine sn_q_ladd sn_bc_123 dX9_digest_246 ?_
          refine sn_q_lret sn_bc_123 dX9_digest_247 rfl ?_
          first
            | (exfalso; omega)
            | (rw [(hn hns).2]; exact kk _)
    · refine sn_q_lloadn sn_bc_123 dX9_digest_167 rfl ?_
      refine sn_q_ldc2 sn_bc_123 dX9_digest_168 sn_oc_123 rfl rfl ?_
      refine sn_q_lmul sn_bc_123 dX9_digest_171 ?_
      refine sn_q_aloadn sn_bc_123 dX9_digest_172 rfl ?_
      refine sn_q_getr (v := 212) sn_bc_123 dX9_digest_173 sn_oc_123 sn_pf_9_67 (by decide) rfl rfl (by decide) ?_
      refine sn_q_getr (v := 215) sn_bc_123 dX9_digest_176 sn_oc_123 sn_pf_9_380 (by decide) rfl rfl (by decide) ?_
      refine sn_q_iloadn sn_bc_123 dX9_digest_179 rfl ?_
      refine sn_q_iald (P := 215) sn_bc_123 dX9_digest_180 sn_a215 rfl (by omega) (by omega) ?_
      refine sn_q_i2l sn_bc_123 dX9_digest_181 ?_
      refine sn_q_ladd sn_bc_123 dX9_digest_182 ?_
      refine sn_q_lstoren sn_bc_123 dX9_digest_183 rfl rfl rfl ?_
      refine sn_q_iincL sn_bc_123 dX9_digest_184 (show (3 : Nat) < 5 from by decide) rfl rfl (by omega) (by omega) rfl ?_
      refine sn_q_goto (t := 156) sn_bc_123 dX9_digest_187 rfl ?_
      exfalso; omega
  have l4 : ∀ (d : Nat) (i : Nat) (y : Int) (u : sn_V), i + d = 8 → sn_Wp 123 120 [sn_r 2, sn_l y, sn_u, sn_i (i : Int), u] [] (sn_hh n k Y σ X) Q := by
    refine sn_ind (fun d ih => ?_)
    intro i y u hi
    refine sn_q_iloadn sn_bc_123 dX9_digest_120 rfl ?_
    refine sn_q_aloadn sn_bc_123 dX9_digest_121 rfl ?_
    refine sn_q_getr (v := 15) sn_bc_123 dX9_digest_122 sn_oc_123 sn_pf_9_46 (by decide) rfl rfl (by decide) ?_
    refine sn_q_geti (P := 15) (J := 3) sn_bc_123 dX9_digest_125 sn_oc_123 sn_pf_9_342 (by decide) rfl rfl rfl rfl ?_
    refine sn_q_icge (t := 154) sn_bc_123 dX9_digest_128 rfl (fun c_128 => ?_) (fun c_128 => ?_)
    · refine sn_q_iconst sn_bc_123 dX9_digest_154 rfl ?_
      refine sn_q_istorenL sn_bc_123 dX9_digest_155 (show (3 : Nat) < 5 from by decide) rfl rfl ?_
      exact l5 8 0 _ _ rfl
    · refine sn_q_lloadn sn_bc_123 dX9_digest_131 rfl ?_
      refine sn_q_ldc2 sn_bc_123 dX9_digest_132 sn_oc_123 rfl rfl ?_
      refine sn_q_lmul sn_bc_123 dX9_digest_135 ?_
      refine sn_q_aloadn sn_bc_123 dX9_digest_136 rfl ?_
      refine sn_q_getr (v := 15) sn_bc_123 dX9_digest_137 sn_oc_123 sn_pf_9_46 (by decide) rfl rfl (by decide) ?_
      refine sn_q_getr (v := 16) sn_bc_123 dX9_digest_140 sn_oc_123 sn_pf_9_343 (by decide) rfl rfl (by decide) ?_
      refine sn_q_iloadn sn_bc_123 dX9_digest_143 rfl ?_
      refine sn_q_iald (P := 16) sn_bc_123 dX9_digest_144 sn_a16 rfl (by omega) (by omega) ?_
      refine sn_q_i2l sn_bc_123 dX9_digest_145 ?_
      refine sn_q_ladd sn_bc_123 dX9_digest_146 ?_
      refine sn_q_lstoren sn_bc_123 dX9_digest_147 rfl rfl rfl ?_
      refine sn_q_iincL sn_bc_123 dX9_digest_148 (show (3 : Nat) < 5 from by decide) rfl rfl (by omega) (by omega) rfl ?_
      refine sn_q_goto (t := 120) sn_bc_123 dX9_digest_151 rfl ?_
      exact ih (d - 1) (by omega) (i + 1) _ _ (by omega)
  have l3 : ∀ (d : Nat) (i : Nat) (y : Int) (u : sn_V), i + d = 8 → sn_Wp 123 63 [sn_r 2, sn_l y, sn_u, sn_i (i : Int), u] [] (sn_hh n k Y σ X) Q := by
    refine sn_ind (fun d ih => ?_)
    intro i y u hi
    refine sn_q_iloadn sn_bc_123 dX9_digest_63 rfl ?_
    refine sn_q_bipush sn_bc_123 dX9_digest_64 rfl ?_
    refine sn_q_icge (t := 118) sn_bc_123 dX9_digest_66 rfl (fun c_66 => ?_) (fun c_66 => ?_)
    · refine sn_q_iconst sn_bc_123 dX9_digest_118 rfl ?_
      refine sn_q_istorenL sn_bc_123 dX9_digest_119 (show (3 : Nat) < 5 from by decide) rfl rfl ?_
      exact l4 8 0 _ _ rfl
    · refine sn_q_iconst sn_bc_123 dX9_digest_69 rfl ?_
      refine sn_q_istoreL sn_bc_123 dX9_digest_70 (show (4 : Nat) < 5 from by decide) rfl rfl ?_
      refine sn_q_aloadn sn_bc_123 dX9_digest_72 rfl ?_
      refine sn_q_getr (v := 9) sn_bc_123 dX9_digest_73 sn_oc_123 sn_pf_9_42 (by decide) rfl rfl (by decide) ?_
      refine sn_q_getr (v := 10) sn_bc_123 dX9_digest_76 sn_oc_123 sn_pf_9_157 (by decide) rfl rfl (by decide) ?_
      refine sn_q_iloadn sn_bc_123 dX9_digest_79 rfl ?_
      refine sn_q_bald (P := 10) sn_bc_123 dX9_digest_80 sn_a10 rfl (by omega) (by omega) ?_
      refine sn_q_ifeq (t := 112) sn_bc_123 dX9_digest_81 rfl (fun c_81 => ?_) (fun c_81 => ?_)
      · refine sn_q_iincL sn_bc_123 dX9_digest_112 (show (3 : Nat) < 5 from by decide) rfl rfl (by omega) (by omega) rfl ?_
        refine sn_q_goto (t := 63) sn_bc_123 dX9_digest_115 rfl ?_
        exact ih (d - 1) (by omega) (i + 1) _ _ (by omega)
      · exfalso
        have := hns i (by omega) (by omega)
        omega
  have l2 : ∀ (d : Nat) (i : Nat) (y : Int) (u : sn_V), i + d = 8 → sn_Wp 123 37 [sn_r 2, sn_l y, sn_u, sn_i (i : Int), u] [] (sn_hh n k Y σ X) Q := by
    refine sn_ind (fun d ih => ?_)
    intro i y u hi
    refine sn_q_iloadn sn_bc_123 dX9_digest_37 rfl ?_
    refine sn_q_aloadn sn_bc_123 dX9_digest_38 rfl ?_
    refine sn_q_getr (v := 3) sn_bc_123 dX9_digest_39 sn_oc_123 sn_pf_9_38 (by decide) rfl rfl (by decide) ?_
    refine sn_q_geti (P := 3) (J := 0) sn_bc_123 dX9_digest_42 sn_oc_123 sn_pf_9_118 (by decide) rfl rfl rfl rfl ?_
    refine sn_q_icge (t := 61) sn_bc_123 dX9_digest_45 rfl (fun c_45 => ?_) (fun c_45 => ?_)
    · refine sn_q_iconst sn_bc_123 dX9_digest_61 rfl ?_
      refine sn_q_istorenL sn_bc_123 dX9_digest_62 (show (3 : Nat) < 5 from by decide) rfl rfl ?_
      exact l3 8 0 _ _ rfl
    · refine sn_q_aloadn sn_bc_123 dX9_digest_48 rfl ?_
      refine sn_q_lloadn sn_bc_123 dX9_digest_49 rfl ?_
      refine sn_q_iloadn sn_bc_123 dX9_digest_50 rfl ?_
      refine sn_q_invV sn_bc_123 dX9_digest_51 sn_oc_123 sn_pv_9_375 (by decide) rfl (by decide) (sn_h1 (by decide)) rfl rfl rfl rfl (sk_digestOfLand hI hC hns (by omega) (by omega) (fun z => ?_))
      refine sn_q_lstoren sn_bc_123 dX9_digest_54 rfl rfl rfl ?_
      refine sn_q_iincL sn_bc_123 dX9_digest_55 (show (3 : Nat) < 5 from by decide) rfl rfl (by omega) (by omega) rfl ?_
      refine sn_q_goto (t := 37) sn_bc_123 dX9_digest_58 rfl ?_
      exact ih (d - 1) (by omega) (i + 1) _ _ (by omega)
  have l1 : ∀ (d : Nat) (i : Nat) (y : Int) (u : sn_V), i + d = 12 → sn_Wp 123 10 [sn_r 2, sn_l y, sn_u, sn_i (i : Int), u] [] (sn_hh n k Y σ X) Q := by
    refine sn_ind (fun d ih => ?_)
    intro i y u hi
    refine sn_q_iloadn sn_bc_123 dX9_digest_10 rfl ?_
    refine sn_q_bipush sn_bc_123 dX9_digest_11 rfl ?_
    refine sn_q_icgt (t := 35) sn_bc_123 dX9_digest_13 rfl (fun c_13 => ?_) (fun c_13 => ?_)
    · refine sn_q_iconst sn_bc_123 dX9_digest_35 rfl ?_
      refine sn_q_istorenL sn_bc_123 dX9_digest_36 (show (3 : Nat) < 5 from by decide) rfl rfl ?_
      exact l2 8 0 _ _ rfl
    · refine sn_q_lloadn sn_bc_123 dX9_digest_16 rfl ?_
      refine sn_q_ldc2 sn_bc_123 dX9_digest_17 sn_oc_123 rfl rfl ?_
      refine sn_q_lmul sn_bc_123 dX9_digest_20 ?_
      refine sn_q_aloadn sn_bc_123 dX9_digest_21 rfl ?_
      refine sn_q_iloadn sn_bc_123 dX9_digest_22 rfl ?_
      refine sn_q_invV sn_bc_123 dX9_digest_23 sn_oc_123 sn_pv_9_350 (by decide) rfl (by decide) (sn_h1 (by decide)) rfl rfl rfl rfl (sk_ncx hI (by omega) (by omega) (fun r => ?_))
      refine sn_q_i2l sn_bc_123 dX9_digest_26 ?_
      refine sn_q_ladd sn_bc_123 dX9_digest_27 ?_
      refine sn_q_lstoren sn_bc_123 dX9_digest_28 rfl rfl rfl ?_
      refine sn_q_iincL sn_bc_123 dX9_digest_29 (show (3 : Nat) < 5 from by decide) rfl rfl (by omega) (by omega) rfl ?_
      refine sn_q_goto (t := 10) sn_bc_123 dX9_digest_32 rfl ?_
      exact ih (d - 1) (by omega) (i + 1) _ _ (by omega)
  refine sn_q_ldc2 sn_bc_123 dX9_digest_4 sn_oc_123 rfl rfl ?_
  refine sn_q_lstoren sn_bc_123 dX9_digest_7 rfl rfl rfl ?_
  refine sn_q_iconst sn_bc_123 dX9_digest_8 rfl ?_
  refine sn_q_istorenL sn_bc_123 dX9_digest_9 (show (3 : Nat) < 5 from by decide) rfl rfl ?_
  exact l1 12 0 _ _ rfl
/-- it is one number, as long as the state stays -/
theorem sk_dig_one {n k : Nat} {Y : Nat → Nat × Nat} {X : Nat → Nat → sn_V} {σ : Int → Int → Int} (hI : sk_Iv σ) (hC : sn_Ct σ) (hph : σ 2 10 = 0) (hns : ∀ s, 0 ≤ s → s < 8 → σ 10 s = 0) : ∃ v : Int, ∀ Q : Option sn_V → sn_H → Prop, Q (some (sn_l v)) (sn_hh n k Y σ X) → sn_Wp 123 4 [sn_r 2, sn_u, sn_u, sn_u, sn_u] [] (sn_hh n k Y σ X) Q := by
  obtain ⟨f, o, hx, ⟨v, hv⟩, ho⟩ := sk_dig (n := n) (k := k) (Y := Y) (X := X) (Q := fun r h => (∃ v : Int, r = some (sn_l v)) ∧ h = sn_hh n k Y σ X) hI hC hph hns (fun v => ⟨⟨v, rfl⟩, rfl⟩)
  exact ⟨v, fun Q hQ => ⟨f, o, hx, by rw [hv, ho]; exact hQ⟩⟩
theorem sk_digest {n k : Nat} {Y : Nat → Nat × Nat} {X : Nat → Nat → sn_V} {σ : Int → Int → Int} {Q : Option sn_V → sn_H → Prop} (hYX : sn_YX Y X) (hI : sk_Iv σ) (hph : σ 2 10 = 0) (hns : ∀ s, 0 ≤ s → s < 8 → σ 10 s = 0) (kk : ∀ (τ : Int → Int → Int) (v : Int), sk_q σ τ → (∀ Q : Option sn_V → sn_H → Prop, Q (some (sn_l v)) (sn_hh n k Y τ X) → sn_Wp 123 4 [sn_r 2, sn_u, sn_u, sn_u, sn_u] [] (sn_hh n k Y τ X) Q) → Q (some (sn_l v)) (sn_hh n k Y τ X)) : sn_Wp 123 0 [sn_r 2, sn_u, sn_u, sn_u, sn_u] [] (sn_hh n k Y σ X) Q := by
  refine sn_q_aloadn sn_bc_123 dX9_digest_0 rfl ?_
  refine sn_q_invV sn_bc_123 dX9_digest_1 sn_oc_123 sn_pv_9_255 (by decide) rfl (by decide) (sn_h1 (by decide)) rfl rfl rfl rfl (sk_count hYX hI (fun τ hq => ?_))
  obtain ⟨v, hv⟩ := sk_dig_one (n := n) (k := k) (Y := Y) (X := X) hq.2.2.1 hq.2.2.2.1 ((hq.1 2 10 (by omega) (by omega)).trans hph) (fun s a1 a2 => (hq.1 10 s (by omega) (by omega)).trans (hns s a1 a2))
  exact hv _ (kk τ v hq hv)
theorem sk_digest2 {n k : Nat} {Y : Nat → Nat × Nat} {X : Nat → Nat → sn_V} {σ : Int → Int → Int} {Q : Option sn_V → sn_H → Prop} {v : Int} (hYX : sn_YX Y X) (hI : sk_Iv σ) (h2 : σ 2 15 ≠ 0) (hv : ∀ Q : Option sn_V → sn_H → Prop, Q (some (sn_l v)) (sn_hh n k Y σ X) → sn_Wp 123 4 [sn_r 2, sn_u, sn_u, sn_u, sn_u] [] (sn_hh n k Y σ X) Q) (kk : Q (some (sn_l v)) (sn_hh n k Y σ X)) : sn_Wp 123 0 [sn_r 2, sn_u, sn_u, sn_u, sn_u] [] (sn_hh n k Y σ X) Q := by
  refine sn_q_aloadn sn_bc_123 dX9_digest_0 rfl ?_
  refine sn_q_invV sn_bc_123 dX9_digest_1 sn_oc_123 sn_pv_9_255 (by decide) rfl (by decide) (sn_h1 (by decide)) rfl rfl rfl rfl (sk_count hYX hI (fun τ hq => ?_))
  rw [hq.2.1 h2]
  exact hv _ kk
