/-! sums over lands and songs -/
theorem sk_sum_add {f g : Int → Int} : ∀ m : Nat, sn_sum (fun s => f s + g s) m = sn_sum f m + sn_sum g m
  | 0 => rfl
  | m + 1 => by
    have h := @sk_sum_add f g m
    show sn_sum (fun s => f s + g s) m + (f m + g m) = (sn_sum f m + f m) + (sn_sum g m + g m)
    omega
theorem sk_sum_0 : ∀ m : Nat, sn_sum (fun _ => 0) m = 0
  | 0 => rfl
  | m + 1 => by
    have h := sk_sum_0 m
    show sn_sum (fun _ => 0) m + 0 = 0
    omega
theorem sk_sum_z {f : Int → Int} (m : Nat) (h : ∀ i : Nat, i < m → f i = 0) : sn_sum f m = 0 := (sn_sum_c m h).trans (sk_sum_0 m)
theorem sk_sum_swap {f : Int → Int → Int} (a : Nat) : ∀ b : Nat, sn_sum (fun s => sn_sum (fun l => f l s) a) b = sn_sum (fun l => sn_sum (fun s => f l s) b) a
  | 0 => (sk_sum_0 a).symm
  | b + 1 => by
    have h := @sk_sum_swap f a b
    show sn_sum (fun s => sn_sum (fun l => f l s) a) b + sn_sum (fun l => f l b) a = sn_sum (fun l => sn_sum (fun s => f l s) b + f l b) a
    rw [h]
    exact (sk_sum_add (f := fun l => sn_sum (fun s => f l s) b) (g := fun l => f l b) a).symm
/-- a longer sum, where the rest is 0 -/
theorem sk_sum_up {f : Int → Int} (m : Nat) : ∀ d : Nat, (∀ i : Nat, m ≤ i → i < m + d → f i = 0) → sn_sum f (m + d) = sn_sum f m
  | 0, _ => rfl
  | d + 1, h => by
    have h1 := sk_sum_up m d (fun i a b => h i a (by omega))
    have h2 := h (m + d) (by omega) (by omega)
    show sn_sum f (m + d) + f ((m + d : Nat) : Int) = sn_sum f m
    rw [h2]; omega
/-- a song has what the lands give it, also where it doesn't run -/
theorem sk_tot {σ : Int → Int → Int} (hI : sn_In σ) (hC : sn_Ct σ) (s : Int) (h0 : 0 ≤ s) (h8 : s < 8) : σ 213 s = sn_PJ σ s ∧ σ 214 s = sn_PK σ s := by
  have hr := hC.2.2.2.1 s h0 h8
  by_cases e : sn_run σ s
  · exact hr.1 e
  · have hz := hr.2 e
    have hnc : ∀ l, ¬ sn_cd σ l s := fun l z => e ⟨z.2.1, z.2.2⟩
    have z1 : sn_PJ σ s = 0 := sk_sum_z 8 (fun l hl => by
      by_cases g : (l : Int) < σ 3 0
      · obtain ⟨a1, a2, -⟩ := hC.1 l (by omega) g
        exact sk_pt_no a1.1 a2 h0 h8 (hnc _)
      · exact (hI.2.2.2.2.1 l s (by omega) (by omega) h0 h8).1)
    have z2 : sn_PK σ s = 0 := sk_sum_z 8 (fun l hl => by
      by_cases g : (l : Int) < σ 3 0
      · obtain ⟨-, -, a3⟩ := hC.1 l (by omega) g
        exact (a3 s h0 h8).2.2 (hnc _)
      · exact (hI.2.2.2.2.1 l s (by omega) (by omega) h0 h8).2)
    rw [z1, z2]
    exact hz
/-- a song that runs is there, beside any land, where three run -/
theorem sk_cand {σ : Int → Int → Int} (h : 3 ≤ sn_rn σ 8) (w : Int) : ∃ c, 0 ≤ c ∧ c < 8 ∧ sn_cd σ w c := by
  by_cases g : ∃ c, 0 ≤ c ∧ c < 8 ∧ sn_cd σ w c
  · exact g
  · exfalso
    have hle : ∀ m : Nat, m ≤ 8 → sn_rn σ m ≤ 1 ∧ ((m : Int) ≤ w → sn_rn σ m ≤ 0) := by
      intro m
      induction m with
      | zero => intro _; exact ⟨by show (0 : Int) ≤ 1; decide, fun _ => Int.le_refl _⟩
      | succ m ih =>
        intro hm
        have h1 := ih (by omega)
        by_cases r : sn_run σ (m : Int)
        · have e : (m : Int) = w := by
            by_cases e : (m : Int) = w
            · exact e
            · exact absurd ⟨(m : Int), by omega, by omega, e, r.1, r.2⟩ g
          have h2 := h1.2 (by omega)
          rw [sn_rn_y r]
          exact ⟨by omega, fun _ => by omega⟩
        · rw [sn_rn_n r]
          exact ⟨h1.1, fun z => h1.2 (by omega)⟩
    have := (hle 8 (by omega)).1
    omega
