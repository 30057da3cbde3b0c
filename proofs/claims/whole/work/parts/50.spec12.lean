/-! the class's meet: sets, who is first -/
theorem home_bit : ∀ k, k < 6 → ∀ s, s < 64 → s < 2 ^ k → nI s ||| ((1 : Int32) <<< (nI k &&& 31)) = nI (s + 2 ^ k) := by decide +kernel
theorem or0 (x : Int32) : x ||| 0 = x := by simp
theorem home_nat {μ : Fl} : ∀ {k : Nat}, k ≤ 6 → ∃ s, s < 2 ^ k ∧ homeS μ k = nI s
  | 0, _ => ⟨0, by decide, rfl⟩
  | k + 1, hk => by
    obtain ⟨s, hs, e⟩ := home_nat (μ := μ) (k := k) (by omega)
    have p := pow_le6 k (by omega)
    have p2 : 2 ^ (k + 1) = 2 * 2 ^ k := by rw [Nat.pow_succ]; omega
    by_cases h : fl μ k 3 = 30
    · refine ⟨s + 2 ^ k, by omega, ?_⟩
      rw [homeS, if_pos h, e, home_bit k (by omega) s (by omega) hs]
    · refine ⟨s, by omega, ?_⟩
      rw [homeS, if_neg h, e, or0]
theorem home_many {μ : Fl} {n : Nat} (hn : n ≤ 6) : bcS (homeS μ n) = manyS (homeS μ n) 6 := by
  obtain ⟨s, hs, e⟩ := home_nat (μ := μ) hn
  have p := pow_le6 n (by omega)
  rw [e]
  exact bcS_many s (by omega)
theorem newR_of {μ : Fl} {n : Nat} {k a s : Int32} : upd (bnR μ n k a s) 2 (nI (n + 1)) = newR μ n k a s 4 := by
  funext z
  simp only [upd, bnR, newR]
  repeat' split
  all_goals first | rfl | (exfalso; omega)
theorem shkN {s : Nat} (hs : s < 2147483648) : shk (0 < nI s) = shk (0 < s) := by
  have e : 0 < nI s ↔ 0 < s := nI_ltI (a := 0) (by omega) hs
  unfold shk
  by_cases h : 0 < s
  · rw [if_pos h, if_pos (e.mpr h)]
  · rw [if_neg h, if_neg (fun z => h (e.mp z))]
