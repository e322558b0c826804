/-! what the points of a jury are -/
theorem sk_wv_vals (x : Int) : sn_wv x ≠ 11 ∧ sn_wv x ≠ 9 := by unfold sn_wv; (repeat' split) <;> decide
theorem sk_wv_inj {x y : Int} (h : sn_wv x = sn_wv y) (h0 : sn_wv x ≠ 0) : x = y := by
  unfold sn_wv at h h0
  (repeat' split at h) <;> first | omega | (exfalso; revert h; decide) | (exfalso; revert h0; (repeat' split) <;> omega)
theorem sk_pt_no {σ : Int → Int → Int} {w x : Int} (ho : sn_or σ w) (hp : sn_pt σ w) (h0 : 0 ≤ x) (h8 : x < 8) (hc : ¬ sn_cd σ w x) : σ (83 + w) x = 0 := hp.2 x h0 h8 (fun i a1 a2 e => hc (by have := (ho.2.2.1 i a1 a2).2.2; rw [e] at this; exact this))
theorem sk_pt_is {σ : Int → Int → Int} {w x : Int} (ho : sn_or σ w) (hp : sn_pt σ w) (h0 : 0 ≤ x) (h8 : x < 8) : σ (83 + w) x = 0 ∨ ∃ i, 0 ≤ i ∧ i < σ 91 w ∧ σ (74 + w) i = x ∧ σ (83 + w) x = sn_wv i := by
  by_cases hc : sn_cd σ w x
  · obtain ⟨i, a1, a2, a3⟩ := ho.2.2.2.1 x h0 h8 hc
    have := hp.1 i a1 a2
    rw [a3] at this
    by_cases g : 0 < σ (65 + w) x
    · rw [if_pos g] at this; exact Or.inr ⟨i, a1, a2, a3, this⟩
    · rw [if_neg g] at this; exact Or.inl this
  · exact Or.inl (sk_pt_no ho hp h0 h8 hc)
theorem sk_pt_vals {σ : Int → Int → Int} {w x : Int} (ho : sn_or σ w) (hp : sn_pt σ w) (h0 : 0 ≤ x) (h8 : x < 8) : 0 ≤ σ (83 + w) x ∧ σ (83 + w) x ≤ 12 ∧ σ (83 + w) x ≠ 11 ∧ σ (83 + w) x ≠ 9 := by
  rcases sk_pt_is ho hp h0 h8 with h | ⟨i, -, -, -, h⟩
  · omega
  · have := sn_wv_bd i
    have := sk_wv_vals i
    rw [h]
    omega
theorem sk_pt_one {σ : Int → Int → Int} {w x y : Int} (ho : sn_or σ w) (hp : sn_pt σ w) (h0 : 0 ≤ x) (h8 : x < 8) (g0 : 0 ≤ y) (g8 : y < 8) (h : σ (83 + w) x = σ (83 + w) y) (hn : σ (83 + w) x ≠ 0) : x = y := by
  rcases sk_pt_is ho hp h0 h8 with e | ⟨i, a1, a2, a3, a4⟩
  · exact absurd e hn
  · rcases sk_pt_is ho hp g0 g8 with e | ⟨j, b1, b2, b3, b4⟩
    · rw [h] at hn; exact absurd e hn
    · have : i = j := sk_wv_inj (by rw [← a4, ← b4]; exact h) (by rw [← a4]; exact hn)
      rw [← a3, ← b3, this]
/-- a jury that isn't void gives 12, where it has a candidate -/
theorem sk_pt_12 {σ : Int → Int → Int} {A : Prop} {w c : Int} (hl : sn_lf σ A w) (hp : sn_pt σ w) (hC : sk_C σ) (h0 : 0 ≤ w) (h8 : w < 8) (hv : σ 93 w = 0) (hc : 0 ≤ c ∧ c < 8 ∧ sn_cd σ w c) : ∃ x, 0 ≤ x ∧ x < 8 ∧ σ (83 + w) x = 12 := by
  obtain ⟨ho, h2, h3, -, h5, -⟩ := hl
  have hg : 2 ≤ sn_gv σ w := by
    by_cases g : sn_gv σ w < 2
    · exact absurd hv (h3 g)
    · omega
  -- a ballot that counts
  have hb : ∃ j, 0 ≤ j ∧ j < 5 ∧ σ 61 (w * 5 + j) ≠ 0 ∧ j ≠ σ 92 w := by
    by_cases q0 : σ 61 (w * 5 + 0) ≠ 0 ∧ 0 ≠ σ 92 w
    · exact ⟨0, by omega, by omega, q0.1, q0.2⟩
    by_cases q1 : σ 61 (w * 5 + 1) ≠ 0 ∧ 1 ≠ σ 92 w
    · exact ⟨1, by omega, by omega, q1.1, q1.2⟩
    by_cases q2 : σ 61 (w * 5 + 2) ≠ 0 ∧ 2 ≠ σ 92 w
    · exact ⟨2, by omega, by omega, q2.1, q2.2⟩
    by_cases q3 : σ 61 (w * 5 + 3) ≠ 0 ∧ 3 ≠ σ 92 w
    · exact ⟨3, by omega, by omega, q3.1, q3.2⟩
    by_cases q4 : σ 61 (w * 5 + 4) ≠ 0 ∧ 4 ≠ σ 92 w
    · exact ⟨4, by omega, by omega, q4.1, q4.2⟩
    exfalso
    have e : sn_gv σ w = 0 + (if σ 61 (w * 5 + 0) = 0 then 0 else 1) + (if σ 61 (w * 5 + 1) = 0 then 0 else 1) + (if σ 61 (w * 5 + 2) = 0 then 0 else 1) + (if σ 61 (w * 5 + 3) = 0 then 0 else 1) + (if σ 61 (w * 5 + 4) = 0 then 0 else 1) := rfl
    rw [e] at hg
    omega
  obtain ⟨j, j0, j5, jg, jo⟩ := hb
  obtain ⟨f1, f2, f3, f4⟩ := hC.1 w j h0 h8 j0 j5 jg
  obtain ⟨i0, i1, i2, -⟩ := f4 c hc.1 hc.2.1 hc.2.2
  have hs := h5 hv j j0 j5 jg jo (by omega)
  obtain ⟨k0, k8, kc⟩ := f3 0 (by omega) (by omega)
  -- its first candidate has a sum; so has the first of the row
  obtain ⟨i, a1, a2, a3⟩ := ho.2.2.2.1 _ k0 k8 kc
  have hdown : ∀ m : Nat, (m : Int) < σ 91 w → σ (65 + w) (σ (74 + w) (m : Int)) ≤ σ (65 + w) (σ (74 + w) 0) := by
    intro m
    induction m with
    | zero => intro _; exact Int.le_refl _
    | succ m ih =>
      intro hm
      have h1 := ho.2.2.2.2.2 (m : Int) (by omega) (by omega)
      have h2 := ih (by omega)
      exact Int.le_trans h1 h2
  have hd := hdown i.toNat (by omega)
  rw [Int.toNat_of_nonneg a1, a3] at hd
  have hz := ho.2.2.1 0 (by omega) (by omega)
  have hpt := hp.1 0 (by omega) (by omega)
  rw [if_pos (by omega)] at hpt
  exact ⟨_, hz.1, hz.2.1, hpt⟩
