/-! the class reads a TEXT -/
def RiO (σ : St) (j t : Nat) : RZ := fun w s => ∃ φ ν : Fl, φ 0 = nI t ∧ s = setR (setR σ 13 φ) j ν ∧ ((∃ f, textR (σ.1 11) t 121 0 (σ.1 j) 0 = .inl f ∧ w = some (.int (-1 - nI (fr (σ.1 11) t f)))) ∨ ∃ k, textR (σ.1 11) t 121 0 (σ.1 j) 0 = .inr (k, ν) ∧ w = some (.int (nI k)))
theorem tkb3 {x : Int32} : tkb x = 3 ↔ x = 59 := by
  unfold tkb
  refine ⟨fun h => ?_, fun h => by subst h; decide⟩
  split at h
  · exact absurd h (by decide)
  · split at h
    · exact absurd h (by decide)
    · split at h
      · exact absurd h (by decide)
      · split at h
        · assumption
        · exact absurd h (by decide)
theorem ctk0 {b : Fl} {t p : Nat} : ctk b t p = 0 ↔ srt b t p = 0 := by
  rw [srt0]
  unfold ctk
  refine ⟨fun h => ?_, fun h => if_pos h⟩
  by_cases q : fr b t p = t
  · exact q
  · rw [if_neg q] at h
    unfold tkb at h
    split at h
    · exact absurd h (by decide)
    · split at h
      · exact absurd h (by decide)
      · split at h
        · exact absurd h (by decide)
        · split at h
          · exact absurd h (by decide)
          · exact absurd h (by decide)
theorem ctk3 {b : Fl} {t p : Nat} (hp : p ≤ t) : ctk b t p = 3 ↔ (srt b t p = 3 ∧ b (fr b t p) = 59) := by
  have hf := fr_le (b := b) hp
  refine ⟨fun h => ?_, fun h => ?_⟩
  · have n0 : ¬ srt b t p = 0 := fun z => by rw [ctk0.mpr z] at h; exact absurd h (by decide)
    have n1 : ¬ srt b t p = 1 := fun z => by rw [(ctk1 hp).mpr z] at h; exact absurd h (by decide)
    have n2 : ¬ srt b t p = 2 := fun z => by rw [(ctk2 hp).mpr z] at h; exact absurd h (by decide)
    refine ⟨srt_3 n0 n1 n2, ?_⟩
    unfold ctk at h
    rw [if_neg (fun z => n0 (srt0.mpr z))] at h
    exact tkb3.mp h
  · unfold ctk
    rw [if_neg (fun z => by have := srt0.mpr z; rw [h.1] at this; exact absurd this (by decide))]
    exact tkb3.mpr h.2
