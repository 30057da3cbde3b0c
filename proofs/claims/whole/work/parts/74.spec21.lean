/-! what a call of the class promises: the answer, and all but the scratch rows as told -/
def cScr : List Nat := [2, 5, 6, 7, 8, 9, 10]
def PC (σ : St) (an : An) : RZ := fun w s => w = some (.int (anA an)) ∧ ∀ r, r ∉ cScr → s.1 r = (anS σ 0 3 an).1 r
theorem pc_of {σ s : St} {an an' : An} {x : Int32} (h : an = an') (hv : x = anA an') (hs : s = anS σ 0 3 an') : PC σ an (some (.int x)) s := by
  subst h; subst hv; subst hs
  exact ⟨rfl, fun _ _ => rfl⟩
theorem pc_scr {σ s : St} {an an' : An} {x : Int32} (h : an = an') (hv : x = anA an') (hs : ∀ r, r ∉ cScr → s.1 r = (anS σ 0 3 an').1 r) : PC σ an (some (.int x)) s := by
  subst h; subst hv
  exact ⟨rfl, hs⟩
theorem tell_of {μ : Fl} {r w : Nat} (h : w ≤ 7) : tellS μ r (nI w) = if w < 7 then fl μ r w else holdsM μ r := by
  match w, h with
  | 0, _ => rfl
  | 1, _ => rfl
  | 2, _ => rfl
  | 3, _ => rfl
  | 4, _ => rfl
  | 5, _ => rfl
  | 6, _ => rfl
  | 7, _ => rfl
theorem part_most {w v : Int32} : (0 ≤ v ∧ v ≤ mostS w) ↔ partB w v = true := by
  have no : ¬ ((0 : Int32) ≤ v ∧ v ≤ -1) := fun z => by
    have h1 := Int32.le_iff_toInt_le.mp z.1
    have h2 := Int32.le_iff_toInt_le.mp z.2
    have e1 : (0 : Int32).toInt = 0 := rfl
    have e2 : (-1 : Int32).toInt = -1 := rfl
    omega
  unfold mostS partB
  by_cases h0 : w = 0
  · rw [if_pos h0, if_pos h0]; exact decide_eq_true_iff.symm
  · rw [if_neg h0, if_neg h0]
    by_cases h1 : w = 1
    · rw [if_pos h1, if_pos h1]; exact decide_eq_true_iff.symm
    · rw [if_neg h1, if_neg h1]
      by_cases h2 : w = 2
      · rw [if_pos h2, if_pos h2]; exact decide_eq_true_iff.symm
      · rw [if_neg h2, if_neg h2]
        by_cases h3 : w = 3
        · rw [if_pos h3, if_pos h3]; exact decide_eq_true_iff.symm
        · rw [if_neg h3, if_neg h3]
          by_cases h4 : w = 4
          · subst h4
            rw [if_pos rfl, if_neg (by decide)]
            exact ⟨fun z => absurd z no, fun z => absurd z Bool.false_ne_true⟩
          · rw [if_neg h4]
            by_cases h5 : w = 5
            · rw [if_pos h5, if_pos h5]; exact decide_eq_true_iff.symm
            · rw [if_neg h5, if_neg h5]
              exact ⟨fun z => absurd z no, fun z => absurd z Bool.false_ne_true⟩
theorem change_of {μ : Fl} {r w : Nat} {v : Int32} (h : w ≤ 5) (hp : partB (nI w) v = true) : tellS μ r (nI w) = fl μ r w ∧ putS μ r (nI w) v = upd μ (33 + 37 * r + w) v := by
  match w, h with
  | 0, _ => exact ⟨rfl, rfl⟩
  | 1, _ => exact ⟨rfl, rfl⟩
  | 2, _ => exact ⟨rfl, rfl⟩
  | 3, _ => exact ⟨rfl, rfl⟩
  | 4, _ => exact absurd hp Bool.false_ne_true
  | 5, _ => exact ⟨rfl, rfl⟩
theorem shk01 {s : Nat} (h : s ≤ 1) : shk (0 < nI s) = shk (nI s = 1) := by
  match s, h with
  | 0, _ => rfl
  | 1, _ => rfl
