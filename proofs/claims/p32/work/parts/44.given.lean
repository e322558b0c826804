/-! the law's areGiven -/
theorem sk_ext_w {n0 n q j : Nat} {Y0 Y : Nat → Nat × Nat} {X0 X : Nat → Nat → sn_V} {v : sn_V} (h : sk_ext n0 Y0 X0 n Y X) (hq : 231 + n0 ≤ q) : sk_ext n0 Y0 X0 n Y (sn_w X q j v) := ⟨h.1, fun a ha => ⟨(h.2 a ha).1, fun i => (if_neg (by omega)).trans ((h.2 a ha).2 i)⟩⟩
theorem sk_vf {σ : Int → Int → Int} (hC : sn_Ct σ) {l s : Int} (h0 : 0 ≤ l) (h1 : l < σ 3 0) (g0 : 0 ≤ s) (g8 : s < 8) : (0 ≤ σ (83 + l) s ∧ σ (83 + l) s ≤ 12 ∧ σ (83 + l) s ≠ 11 ∧ σ (83 + l) s ≠ 9) ∧ (0 ≤ σ (198 + l) s ∧ σ (198 + l) s ≤ 12) ∧ ((s = l ∨ σ 10 s = 0 ∨ σ 11 s ≠ 0) → σ (83 + l) s = 0 ∧ σ (198 + l) s = 0) := by
  obtain ⟨a1, a2, a3⟩ := hC.1 l h0 h1
  have hp := a3 s g0 g8
  refine ⟨sk_pt_vals a1.1 a2 g0 g8, ⟨hp.1, hp.2.1⟩, fun h => ?_⟩
  have hn : ¬ sn_cd σ l s := by unfold sn_cd; omega
  exact ⟨sk_pt_no a1.1 a2 g0 g8 hn, hp.2.2 hn⟩
theorem sk_ext_v {n0 n q j len : Nat} {Y0 Y : Nat → Nat × Nat} {X0 X : Nat → Nat → sn_V} {v : sn_V} {A : Int → Int} (h : sk_ext n0 Y0 X0 n Y X) (_ : sk_ar n Y (sn_w X q j v) q len A) (hq : 231 + n0 ≤ q) : sk_ext n0 Y0 X0 n Y (sn_w X q j v) := sk_ext_w h hq
theorem sk_ar_v {n q j len q2 len2 : Nat} {Y : Nat → Nat × Nat} {X : Nat → Nat → sn_V} {v : sn_V} {A B : Int → Int} (hb : sk_ar n Y X q2 len2 B) (_ : sk_ar n Y (sn_w X q j v) q len A) (hne : q2 ≠ q) : sk_ar n Y (sn_w X q j v) q2 len2 B := ⟨hb.1, hb.2.1, hb.2.2.1, fun i hi => (if_neg (fun y => hne y.1)).trans (hb.2.2.2 i hi)⟩
/-- the row J holds what the lands before i, and i to the songs before j, gave -/
def sk_gJ (σ : Int → Int → Int) (P N : Int) (i j : Nat) (J : Int → Int) : Prop := ∀ s, 0 ≤ s → s < N → J s = sn_sum (fun l => σ (P + l) s) i + if s < (j : Int) then σ (P + (i : Int)) s else 0
theorem sk_gJ_s {σ : Int → Int → Int} {P N : Int} {i j : Nat} {J : Int → Int} (h : sk_gJ σ P N i j J) (hj : (j : Int) < N) : sk_gJ σ P N i (j + 1) (fun x => if x = (j : Int) then J (j : Int) + σ (P + (i : Int)) (j : Int) else J x) := by
  intro s a1 a2
  dsimp only
  have hs := h s a1 a2
  by_cases e : s = (j : Int)
  · rw [if_pos e, if_pos (by omega)]
    rw [if_neg (by omega)] at hs
    rw [← e, hs]; omega
  · rw [if_neg e, hs]
    by_cases g : s < (j : Int)
    · rw [if_pos g, if_pos (by omega)]
    · rw [if_neg g, if_neg (by omega)]
theorem sk_gJ_z {σ : Int → Int → Int} {P N : Int} {i j : Nat} {J : Int → Int} (h : sk_gJ σ P N i j J) (hz : σ (P + (i : Int)) (j : Int) = 0) : sk_gJ σ P N i (j + 1) J := by
  intro s a1 a2
  rw [h s a1 a2]
  by_cases e : s = (j : Int)
  · rw [if_neg (by omega), if_pos (by omega), e, hz]
  · by_cases g : s < (j : Int)
    · rw [if_pos g, if_pos (by omega)]
    · rw [if_neg g, if_neg (by omega)]
theorem sk_gJ_n {σ : Int → Int → Int} {P N : Int} {i j : Nat} {J : Int → Int} (h : sk_gJ σ P N i j J) (hj : N ≤ (j : Int)) : sk_gJ σ P N (i + 1) 0 J := by
  intro s a1 a2
  rw [h s a1 a2, if_pos (by omega), if_neg (by omega)]
  show _ = sn_sum (fun l => σ (P + l) s) i + σ (P + (i : Int)) s + 0
  omega
/-- how often each number of points was given by i to the songs before j -/
def sk_gT (σ : Int → Int → Int) (i j : Nat) (T : Int → Int) : Prop := ∀ v, 0 ≤ v → v < 13 → 0 ≤ T v ∧ T v ≤ (j : Int) ∧ (1 ≤ v → (T v = 0 ∧ ∀ s, 0 ≤ s → s < (j : Int) → σ (83 + (i : Int)) s ≠ v) ∨ (T v = 1 ∧ ∃ s, 0 ≤ s ∧ s < (j : Int) ∧ σ (83 + (i : Int)) s = v))
theorem sk_gT_s {σ : Int → Int → Int} {i j : Nat} {T : Int → Int} (h : sk_gT σ i j T) (b : 0 ≤ σ (83 + (i : Int)) (j : Int) ∧ σ (83 + (i : Int)) (j : Int) < 13) (hu : ∀ s, 0 ≤ s → s < (j : Int) → σ (83 + (i : Int)) s = σ (83 + (i : Int)) (j : Int) → σ (83 + (i : Int)) s = 0) : sk_gT σ i (j + 1) (fun x => if x = σ (83 + (i : Int)) (j : Int) then T (σ (83 + (i : Int)) (j : Int)) + 1 else T x) := by
  intro v v0 v9
  dsimp only
  have hv := h v v0 v9
  by_cases e : v = σ (83 + (i : Int)) (j : Int)
  · rw [if_pos e, ← e]
    refine ⟨by omega, by omega, fun v1 => Or.inr ?_⟩
    rcases hv.2.2 v1 with ⟨z, -⟩ | ⟨-, s, s1, s2, s3⟩
    · exact ⟨by omega, (j : Int), by omega, by omega, e.symm⟩
    · have := hu s s1 s2 (s3.trans e)
      omega
  · rw [if_neg e]
    refine ⟨hv.1, by omega, fun v1 => ?_⟩
    rcases hv.2.2 v1 with ⟨z, zs⟩ | ⟨z, s, s1, s2, s3⟩
    · refine Or.inl ⟨z, fun s s1 s2 => ?_⟩
      by_cases g : s = (j : Int)
      · rw [g]; exact fun q => e q.symm
      · exact zs s s1 (by omega)
    · exact Or.inr ⟨z, s, s1, by omega, s3⟩
theorem sk_gT_z {σ : Int → Int → Int} {i j : Nat} {T : Int → Int} (h : sk_gT σ i j T) (hz : σ (83 + (i : Int)) (j : Int) = 0) : sk_gT σ i (j + 1) T := by
  intro v v0 v9
  have hv := h v v0 v9
  refine ⟨hv.1, by omega, fun v1 => ?_⟩
  rcases hv.2.2 v1 with ⟨z, zs⟩ | ⟨z, s, s1, s2, s3⟩
  · refine Or.inl ⟨z, fun s s1 s2 => ?_⟩
    by_cases g : s = (j : Int)
    · rw [g, hz]; omega
    · exact zs s s1 (by omega)
  · exact Or.inr ⟨z, s, s1, by omega, s3⟩
/-- the sum of all -/
def sk_gA (σ : Int → Int → Int) (l : Int) (j : Nat) : Int := sn_sum (fun s => σ (83 + l) s + σ (198 + l) s) j
theorem sk_gA_all {σ : Int → Int → Int} {N : Nat} (hI : sk_Iv σ) (hC : sn_Ct σ) (hN : (N : Int) = σ 3 0) : sn_sum (fun l => sk_gA σ l 8) N = sn_sum (fun s => σ 213 s + σ 214 s) 8 := by
  have h8 := hI.1.1.2
  have e1 : sn_sum (fun l => sk_gA σ l 8) (N + (8 - N)) = sn_sum (fun l => sk_gA σ l 8) N := sk_sum_up N (8 - N) (fun i a b => sk_sum_z 8 (fun s hs => by
    have := hI.1.2.2.2.2.1 (i : Int) (s : Int) (by omega) (by omega) (by omega) (by omega)
    omega))
  rw [← e1, show N + (8 - N) = 8 by omega]
  rw [show sn_sum (fun l => sk_gA σ l 8) 8 = sn_sum (fun s => sn_sum (fun l => σ (83 + l) s + σ (198 + l) s) 8) 8 from (sk_sum_swap (f := fun l s => σ (83 + l) s + σ (198 + l) s) 8 8).symm]
  refine sn_sum_c 8 (fun s hs => ?_)
  have ht := sk_tot hI.1 hC (s : Int) (by omega) (by omega)
  rw [ht.1, ht.2]
  exact sk_sum_add 8
theorem sk_gJ_all {σ : Int → Int → Int} {P M : Int} {N : Nat} {J : Int → Int} (hI : sk_Iv σ) (hC : sn_Ct σ) (hN : (N : Int) = σ 3 0) (hP : P = 83 ∨ P = 198) (h : sk_gJ σ P M N 0 J) {s : Int} (h0 : 0 ≤ s) (h1 : s < M) (h19 : M ≤ 8) : J s = σ (if P = 83 then 213 else 214) s := by
  have h8 := hI.1.1.2
  rw [h s h0 h1, if_neg (by omega)]
  have e1 : sn_sum (fun l => σ (P + l) s) (N + (8 - N)) = sn_sum (fun l => σ (P + l) s) N := sk_sum_up N (8 - N) (fun i a b => by
    have := hI.1.2.2.2.2.1 (i : Int) s (by omega) (by omega) (by omega) (by omega)
    rcases hP with rfl | rfl <;> omega)
  rw [← e1, show N + (8 - N) = 8 by omega]
  have ht := sk_tot hI.1 hC s (by omega) (by omega)
  rcases hP with rfl | rfl
  · rw [if_pos rfl, ht.1]; exact Int.add_zero _
  · rw [if_neg (by decide), ht.2]; exact Int.add_zero _
theorem sk_gJ_bd {σ : Int → Int → Int} {P N : Int} {i j : Nat} {J : Int → Int} (h : sk_gJ σ P N i j J) (hi : i ≤ 6) (hN : N ≤ 8) (hb : sn_b12 σ) (hP : P = 83 ∨ P = 198) {s : Int} (h0 : 0 ≤ s) (h1 : s < N) : 0 ≤ J s ∧ J s ≤ 84 := by
  rw [h s h0 h1]
  have hs := sn_sum_b (f := fun l => σ (P + l) s) (B := 12) i (fun l hl => by have := hb (l : Int) s (by omega) (by omega) h0 (by omega); rcases hP with rfl | rfl <;> (first | omega | (dsimp only; omega)))
  have hs2 : 0 ≤ sn_sum (fun l => σ (P + l) s) i ∧ sn_sum (fun l => σ (P + l) s) i ≤ (i : Int) * 12 := hs
  have hl := hb (i : Int) s (by omega) (by omega) h0 (by omega)
  rcases hP with rfl | rfl <;> split <;> omega
