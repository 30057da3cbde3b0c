/-! leastInTime is who is first -/
theorem fst_c_yes {μ : Fl} {k b : Nat} (h : fst μ k = some b) (ht : fl μ k 4 < fl μ b 4) : fst μ (k + 1) = some k := fst_yes h (Or.inl ht)
theorem fst_c_no {μ : Fl} {k b : Nat} (h : fst μ k = some b) (ht : ¬ fl μ k 4 < fl μ b 4) : fst μ (k + 1) = some b := fst_no h (fun z => z.elim ht (fun q => by have := fst_lt h; omega))
theorem fst_some {μ : Fl} {k : Nat} (h : 0 < k) : ∃ b, fst μ k = some b := by
  cases k with
  | zero => omega
  | succ k =>
    cases hb : fst μ k with
    | none => exact ⟨_, fst_none hb⟩
    | some q =>
      by_cases ht : aheadP μ k q
      · exact ⟨_, fst_yes hb ht⟩
      · exact ⟨_, fst_no hb ht⟩
