/-! what the reference's readers promise -/
def TokO (σ : St) (t p : Nat) : RZ := fun r s => ∃ φ, TK φ (σ.1 29) t (too (σ.1 29) t p) 0 ∧ φ 0 = σ.1 23 0 ∧ r = none ∧ s = setR σ 23 φ
def TakesO (σ : St) (t p w : Nat) : RZ := fun r s => (wdB (σ.1 29) t p w = true ∧ r = some (.int 1) ∧ ∃ φ, TK φ (σ.1 29) t (too (σ.1 29) t p) 0 ∧ φ 0 = σ.1 23 0 ∧ s = setR σ 23 φ) ∨ (¬ wdB (σ.1 29) t p w = true ∧ r = some (.int 0) ∧ s = σ)
def NumO (σ : St) (t p : Nat) (lo hi : Int32) : RZ := fun r s => (numP (σ.1 29) t p lo hi ∧ r = some (.int (val (σ.1 29) t p)) ∧ ∃ φ, TK φ (σ.1 29) t (too (σ.1 29) t p) 0 ∧ φ 0 = σ.1 23 0 ∧ s = setR σ 23 φ) ∨ (¬ numP (σ.1 29) t p lo hi ∧ r = some (.int (val (σ.1 29) t p)) ∧ ∃ φ, TK φ (σ.1 29) t p 1 ∧ φ 0 = σ.1 23 0 ∧ s = setR σ 23 φ)
theorem TK.bad {φ b : Fl} {t p : Nat} {c : Int32} (h : TK φ b t p c) : TK (upd φ 6 1) b t p 1 := by
  obtain ⟨h1, h2, h3, h4, h5, h6, h7, h8⟩ := h
  exact ⟨h1, h2, h3, h4, h5, h6, h7, rfl⟩
theorem TK.good {φ b : Fl} {t p : Nat} (h : TK φ b t p 0) : upd φ 6 0 = φ := by
  have := h.2.2.2.2.2.2.2
  rw [← this]
  exact upd_same φ 6
theorem TK.worse {φ b : Fl} {t p : Nat} (h : TK φ b t p 1) : upd φ 6 1 = φ := by
  have := h.2.2.2.2.2.2.2
  rw [← this]
  exact upd_same φ 6
theorem am_mono {Y : MI} {av : List Value} {σ : St} {R R' : RZ} (h : AMet Y av σ R) (hr : ∀ w s, R w s → R' w s) : AMet Y av σ R' := fun l g =>
  MetFree.mono (h l g) (fun _ _ q => q) (fun _ _ _ _ _ q => q) (fun a st o t _ q => ⟨by
    obtain ⟨⟨v, σ', h1, h2⟩, -⟩ := q
    exact ⟨v, σ', hr v σ' h1, h2⟩, q.2⟩)
theorem upd_at {f : Fl} {i : Nat} {x : Int32} (h : f i = x) : upd f i x = f := by subst h; exact upd_same f i
