/-! the class's reader: what it promises -/
def NbO (σ : St) (t P : Nat) (lo hi : Nat) : RZ := fun r s => (∃ φ, numR (σ.1 11) t P (nI lo) (nI hi) = .inr (val (σ.1 11) t P, too (σ.1 11) t P) ∧ (nI lo ≤ val (σ.1 11) t P ∧ val (σ.1 11) t P ≤ nI hi) ∧ r = some (.int (val (σ.1 11) t P)) ∧ CTK φ (σ.1 11) t (too (σ.1 11) t P) ∧ s = setR σ 13 φ) ∨ (∃ φ, numR (σ.1 11) t P (nI lo) (nI hi) = .inl P ∧ r = some (.int (-1)) ∧ CTK φ (σ.1 11) t P ∧ s = setR σ 13 φ)
def PpO (σ : St) (R : Nat ⊕ (Int32 × Nat)) (t : Nat) : RZ := fun r s => (∃ φ x p', R = .inr (x, p') ∧ r = some (.int x) ∧ CTK φ (σ.1 11) t p' ∧ s = setR σ 13 φ) ∨ (∃ φ f, R = .inl f ∧ r = some (.int (-1)) ∧ CTK φ (σ.1 11) t f ∧ s = setR σ 13 φ)
theorem nI_nm1 {a : Nat} (h : a < 1000) : ¬ nI a = -1 := fun z => by
  have := congrArg Int32.toInt z
  rw [nI_toInt (by omega)] at this
  have e : (-1 : Int32).toInt = -1 := rfl
  omega
def ItC (σ : St) (j t : Nat) (R : Nat ⊕ (Fl × Nat)) : RZ := fun w s => (∃ φ f ν, w = some (.int 0) ∧ R = .inl f ∧ CTK φ (σ.1 11) t f ∧ s = setR (setR σ 13 φ) j ν) ∨ (∃ φ ν p', w = some (.int 1) ∧ R = .inr (ν, p') ∧ CTK φ (σ.1 11) t p' ∧ s = setR (setR σ 13 φ) j ν)
theorem rpace_of {μ : Fl} {n : Nat} {k a s p : Int32} : filK (newR μ n k a s 4) (33 + 37 * n + 7) p 30 = newR μ n k a s p := by
  funext z
  simp only [filK, newR]
  repeat' split
  all_goals first | rfl | (exfalso; omega)
theorem gnd_opt {b : Fl} {t p p2 : Nat} {a : Int32} (e1 : numR b t (too b t p) 0 29 = .inr (a, p2)) : gndR b t p = match optR b t p2 5 a a 29 with
  | .inl f => .inl f
  | .inr (l, p4) => .inr ((a, l), p4) := by
  unfold gndR optR
  rw [e1]
  dsimp only
  by_cases h : wdB b t p2 5 = true
  · rw [if_pos h, if_pos h] <;> (cases numR b t (too b t p2) a 29 <;> rfl)
  · rw [if_neg h, if_neg h]
def rnN (b : Fl) (t : Nat) (μ : Fl) (n p : Nat) (k : Int32) : Nat ⊕ (Fl × Nat) := match rnR b t p with
  | .inl f => .inl f
  | .inr (x, p') => .inr (newR μ n k x.1 x.2.1 x.2.2, p')
