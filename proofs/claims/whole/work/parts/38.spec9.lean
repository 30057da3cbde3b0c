/-! what the reference's readers promise -/
def TokO (σ : St) (t p : Nat) : RZ := fun r s => ∃ φ, TK φ (σ.1 29) t (too (σ.1 29) t p) 0 ∧ φ 0 = σ.1 23 0 ∧ r = none ∧ s = setR σ 23 φ
def TakesO (σ : St) (t p w : Nat) : RZ := fun r s => (wdB (σ.1 29) t p w = true ∧ r = some (.int 1) ∧ ∃ φ, TK φ (σ.1 29) t (too (σ.1 29) t p) 0 ∧ φ 0 = σ.1 23 0 ∧ s = setR σ 23 φ) ∨ (¬ wdB (σ.1 29) t p w = true ∧ r = some (.int 0) ∧ s = σ)
def NumO (σ : St) (t p : Nat) (lo hi : Int32) : RZ := fun r s => (numP (σ.1 29) t p lo hi ∧ r = some (.int (val (σ.1 29) t p)) ∧ ∃ φ, TK φ (σ.1 29) t (too (σ.1 29) t p) 0 ∧ φ 0 = σ.1 23 0 ∧ s = setR σ 23 φ) ∨ (¬ numP (σ.1 29) t p lo hi ∧ r = some (.int (val (σ.1 29) t p)) ∧ ∃ φ, TK φ (σ.1 29) t p 1 ∧ φ 0 = σ.1 23 0 ∧ s = setR σ 23 φ)
theorem TK.bad {φ b : Fl} {t p : Nat} {c : Int32} (h : TK φ b t p c) : TK (upd φ 6 1) b t p 1 := by
  obtain ⟨h1, h2, h3, h4, h5, h6, h7, h8⟩ := h
  exact ⟨h1, h2, h3, h4, h5, h6, h7, rfl⟩
theorem TK.good {φ b : Fl} {t p : Nat} (h : TK φ b t p 0) : upd φ 6 0 = φ := by
  have := h.2.2.2.2.2.2.2
  rw [← this]
  exact upd_same φ 6
theorem TK.worse {φ b : Fl} {t p : Nat} (h : TK φ b t p 1) : upd φ 6 1 = φ := by
  have := h.2.2.2.2.2.2.2
  rw [← this]
  exact upd_same φ 6
