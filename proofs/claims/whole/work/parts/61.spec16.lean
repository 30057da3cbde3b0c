/-! the class's SHEETS and THE TAPE -/
def tkb (x : Int32) : Int32 := if 97 ≤ x ∧ x ≤ 122 then 1 else if 48 ≤ x ∧ x ≤ 57 then 2 else if x = 32 then 4 else if x = 59 then 3 else 5
theorem tkb1 {x : Int32} : tkb x = 1 ↔ (97 ≤ x ∧ x ≤ 122) := by
  unfold tkb
  refine ⟨fun h => ?_, fun h => if_pos h⟩
  split at h
  · assumption
  · split at h
    · exact absurd h (by decide)
    · split at h
      · exact absurd h (by decide)
      · split at h
        · exact absurd h (by decide)
        · exact absurd h (by decide)
theorem apart_ld {x : Int32} (h : 48 ≤ x ∧ x ≤ 57) : ¬ (97 ≤ x ∧ x ≤ 122) := fun z => by
  have h1 := Int32.le_iff_toInt_le.mp h.2
  have h2 := Int32.le_iff_toInt_le.mp z.1
  have e1 : (57 : Int32).toInt = 57 := rfl
  have e2 : (97 : Int32).toInt = 97 := rfl
  omega
theorem tkb2 {x : Int32} : tkb x = 2 ↔ (48 ≤ x ∧ x ≤ 57) := by
  unfold tkb
  refine ⟨fun h => ?_, fun h => by rw [if_neg (apart_ld h), if_pos h]⟩
  split at h
  · exact absurd h (by decide)
  · split at h
    · assumption
    · split at h
      · exact absurd h (by decide)
      · split at h
        · exact absurd h (by decide)
        · exact absurd h (by decide)
theorem eq32 {x : Int32} : (32 ≤ x ∧ x ≤ 32) ↔ x = 32 := ⟨fun h => Int32.le_antisymm h.2 h.1, fun h => by subst h; decide⟩
theorem tkb4 {x : Int32} : tkb x = 4 ↔ (32 ≤ x ∧ x ≤ 32) := by
  rw [eq32]
  unfold tkb
  refine ⟨fun h => ?_, fun h => by subst h; decide⟩
  split at h
  · exact absurd h (by decide)
  · split at h
    · exact absurd h (by decide)
    · split at h
      · assumption
      · split at h
        · exact absurd h (by decide)
        · exact absurd h (by decide)
/-- what the class says of the TOKEN behind p -/
def ctk (b : Fl) (t p : Nat) : Int32 := if fr b t p = t then 0 else tkb (b (fr b t p))
def tapR (φ b : Fl) (t p : Nat) : Fl := fun i => if i = 1 then ctk b t p else if i = 2 then nI (fr b t p) else if i = 3 then nI (too b t p) else φ i
theorem mn_lt {j t : Nat} (h : j < t) (ht : t ≤ 120) : mnI (nI (j + 1)) (nI t) = nI (j + 1) := if_neg (nI_nlt (by omega) (by omega))
theorem mn_eq {j t : Nat} (h : j = t) (ht : t ≤ 120) : mnI (nI (j + 1)) (nI t) = nI t := if_pos (nI_lt (by omega) (by omega))
theorem ctk1 {b : Fl} {t p : Nat} (hp : p ≤ t) : ctk b t p = 1 ↔ srt b t p = 1 := by
  have hf := fr_le (b := b) hp
  unfold ctk srt
  by_cases h : fr b t p = t
  · rw [if_pos h, if_pos h]
  · rw [if_neg h, if_neg h, tkb1]
    by_cases q : isB b t 97 122 (fr b t p)
    · rw [if_pos q]; exact ⟨fun _ => rfl, fun _ => q.2⟩
    · rw [if_neg q]
      refine ⟨fun z => absurd ⟨by omega, z⟩ q, fun z => ?_⟩
      split at z
      · exact absurd z (by decide)
      · exact absurd z (by decide)
theorem ctk2 {b : Fl} {t p : Nat} (hp : p ≤ t) : ctk b t p = 2 ↔ srt b t p = 2 := by
  have hf := fr_le (b := b) hp
  unfold ctk srt
  by_cases h : fr b t p = t
  · rw [if_pos h, if_pos h]
  · rw [if_neg h, if_neg h, tkb2]
    by_cases q1 : isB b t 97 122 (fr b t p)
    · rw [if_pos q1]
      exact ⟨fun z => absurd q1.2 (apart_ld z), fun z => absurd z (by decide)⟩
    · rw [if_neg q1]
      by_cases q : isB b t 48 57 (fr b t p)
      · rw [if_pos q]; exact ⟨fun _ => rfl, fun _ => q.2⟩
      · rw [if_neg q]; exact ⟨fun z => absurd ⟨by omega, z⟩ q, fun z => absurd z (by decide)⟩
/-- what stands in THE TAPE: each byte's TOKEN -/
def TpOk (b k : Fl) (t : Nat) : Prop := ∀ i, i < t → k i = tkb (b i)
