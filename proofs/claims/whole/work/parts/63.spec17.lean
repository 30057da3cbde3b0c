/-! the class's NUMBERS and words -/
def CTK (φ b : Fl) (t p : Nat) : Prop := t ≤ 120 ∧ p ≤ t ∧ φ 0 = nI t ∧ φ 1 = ctk b t p ∧ φ 2 = nI (fr b t p) ∧ φ 3 = nI (too b t p)
theorem CTK.next {φ b : Fl} {t p : Nat} (h : CTK φ b t p) : CTK (tapR φ b t (too b t p)) b t (too b t p) := ⟨h.1, too_le h.2.1, h.2.2.1, rfl, rfl, rfl⟩
theorem runB_all {b : Fl} {t : Nat} {lo hi : Int32} : ∀ {d k i : Nat}, k ≤ i → i < runB b t lo hi d k → isB b t lo hi i
  | 0, k, i, h, z => by have : i < k := z; omega
  | d + 1, k, i, h, z => by
    by_cases q : isB b t lo hi k
    · rw [runB_y q] at z
      rcases Nat.lt_or_ge k i with r | r
      · exact runB_all r z
      · obtain rfl : i = k := by omega
        exact q
    · rw [runB_n q] at z; omega
def vmK (b : Fl) (f : Nat) : Nat → Int32
  | 0 => 0
  | k + 1 => if 999 < vmK b f k then vmK b f k else 10 * vmK b f k + b (f + k) - 48
def vlC (b : Fl) (f : Nat) : Nat → Int32
  | 0 => 0
  | k + 1 => mnI 1000 (vlC b f k * 10 + b (f + k) - 48)
theorem vlR_K {b : Fl} {t f : Nat} : ∀ {d k : Nat}, f ≤ k → vlR b t d k (vmK b f (k - f)) = vmK b f (runB b t 48 57 d k - f)
  | 0, k, _ => rfl
  | d + 1, k, h => by
    by_cases q : isB b t 48 57 k
    · rw [vlR_y q, runB_y q, ← vlR_K (d := d) (k := k + 1) (by omega), show k + 1 - f = (k - f) + 1 by omega, vmK, show f + (k - f) = k by omega]
    · rw [vlR_n q, runB_n q]
theorem val_K {b : Fl} {t p : Nat} (h : srt b t p = 2) : val b t p = vmK b (fr b t p) (too b t p - fr b t p) := by
  rw [val, if_pos h, too, if_neg (by rw [h]; decide), if_pos h]
  have := vlR_K (b := b) (t := t) (f := fr b t p) (d := 120) (k := fr b t p) (Nat.le_refl _)
  rw [Nat.sub_self] at this
  exact this
theorem mn1000 {v : Nat} (hv : v < 100000) : mnI 1000 (nI v) = nI (if v < 1000 then v else 1000) := by
  unfold mnI
  have e : nI v < 1000 ↔ v < 1000 := nI_ltI (b := 1000) (by omega) (by omega)
  by_cases h : v < 1000
  · rw [if_pos (e.mpr h), if_pos h]
  · rw [if_neg (fun z => h (e.mp z)), if_neg h]; rfl
theorem digits {b : Fl} {f : Nat} : ∀ {k : Nat}, (∀ i, i < k → 48 ≤ b (f + i) ∧ b (f + i) ≤ 57) → ∃ v w, vmK b f k = nI v ∧ vlC b f k = nI w ∧ ((v ≤ 999 ∧ w = v) ∨ (1000 ≤ v ∧ v ≤ 9999 ∧ w = 1000))
  | 0, _ => ⟨0, 0, rfl, rfl, Or.inl ⟨by omega, rfl⟩⟩
  | k + 1, h => by
    obtain ⟨v, w, e1, e2, h3⟩ := digits (b := b) (f := f) (k := k) (fun i hi => h i (by omega))
    obtain ⟨c, ec, hc1, hc2⟩ := rg 48 57 (h k (by omega)) (by omega) (by omega)
    have ew : vlC b f (k + 1) = nI (if w * 10 + c - 48 < 1000 then w * 10 + c - 48 else 1000) := by
      rw [vlC, e2, ec]
      show mnI 1000 (nI w * nI 10 + nI c - nI 48) = _
      rw [pk_mul, nI_add, pk_sub (by omega), mn1000 (by omega)]
    rcases h3 with ⟨hv, hw⟩ | ⟨hv, hv2, hw⟩
    · subst hw
      have em : vmK b f (k + 1) = nI (10 * w + c - 48) := by
        have n1 : ¬ (999 : Int32) < nI w := fun z => by
          have := (nI_ltI (a := 999) (b := w) (by omega) (by omega)).mp z
          omega
        rw [vmK, e1, if_neg n1, ec]
        show nI 10 * nI w + nI c - nI 48 = _
        rw [pk_mul, nI_add, pk_sub (by omega)]
      refine ⟨10 * w + c - 48, _, em, ew, ?_⟩
      by_cases hq : w * 10 + c - 48 < 1000
      · rw [if_pos hq]; exact Or.inl ⟨by omega, by omega⟩
      · rw [if_neg hq]; exact Or.inr ⟨by omega, by omega, rfl⟩
    · subst hw
      have em : vmK b f (k + 1) = nI v := by
        have n1 : (999 : Int32) < nI v := (nI_ltI (a := 999) (b := v) (by omega) (by omega)).mpr (by omega)
        rw [vmK, e1, if_pos n1]
      refine ⟨v, _, em, ew, ?_⟩
      rw [if_neg (by omega)]
      exact Or.inr ⟨hv, hv2, rfl⟩
def valC (b : Fl) (t p : Nat) : Int32 := if srt b t p = 2 then vlC b (fr b t p) (too b t p - fr b t p) else -1
theorem valC_in {b : Fl} {t p lo hi : Nat} (hhi : hi ≤ 999) (hlo : lo ≤ 999) : ((nI lo ≤ valC b t p ∧ valC b t p ≤ nI hi) ↔ numP b t p (nI lo) (nI hi)) ∧ (numP b t p (nI lo) (nI hi) → valC b t p = val b t p) := by
  unfold numP
  by_cases h : srt b t p = 2
  · have hd : ∀ i, i < too b t p - fr b t p → 48 ≤ b (fr b t p + i) ∧ b (fr b t p + i) ≤ 57 := fun i hi => by
      have e : too b t p = runB b t 48 57 120 (fr b t p) := by rw [too, if_neg (by rw [h]; decide), if_pos h]
      exact (runB_all (d := 120) (k := fr b t p) (by omega) (by rw [← e]; omega)).2
    obtain ⟨v, w, e1, e2, h3⟩ := digits hd
    rw [valC, if_pos h, val_K h, e1, e2]
    have hv : v < 10000 := by omega
    have hw : w < 10000 := by omega
    rw [nI_leI (by omega) (by omega), nI_leI (by omega) (by omega), nI_leI (by omega) (by omega), nI_leI (by omega) (by omega)]
    refine ⟨⟨fun z => ⟨h, by omega⟩, fun z => by have := z.2; omega⟩, fun z => ?_⟩
    have := z.2
    rw [show w = v by omega]
  · rw [valC, if_neg h]
    refine ⟨⟨fun z => ?_, fun z => absurd z.1 h⟩, fun z => absurd z.1 h⟩
    have h1 := Int32.le_iff_toInt_le.mp z.1
    rw [nI_toInt (by omega)] at h1
    have e : (-1 : Int32).toInt = -1 := rfl
    omega
