/-! THE TAPE read: TOKENS, ITEMS, TEXTS -/
abbrev isB (b : Fl) (t : Nat) (lo hi : Int32) (k : Nat) : Prop := k < t ∧ (lo ≤ b k ∧ b k ≤ hi)
def runB (b : Fl) (t : Nat) (lo hi : Int32) : Nat → Nat → Nat
  | 0, k => k
  | d + 1, k => if isB b t lo hi k then runB b t lo hi d (k + 1) else k
theorem runB_y {b : Fl} {t d k : Nat} {lo hi : Int32} (h : isB b t lo hi k) : runB b t lo hi (d + 1) k = runB b t lo hi d (k + 1) := if_pos h
theorem runB_n {b : Fl} {t d k : Nat} {lo hi : Int32} (h : ¬ isB b t lo hi k) : runB b t lo hi (d + 1) k = k := if_neg h
theorem runB_le {b : Fl} {t : Nat} {lo hi : Int32} : ∀ {d k : Nat}, k ≤ t → runB b t lo hi d k ≤ t
  | 0, k, h => h
  | d + 1, k, h => by
    by_cases q : isB b t lo hi k
    · rw [runB_y q]; exact runB_le q.1
    · rw [runB_n q]; exact h
theorem runB_ge {b : Fl} {t : Nat} {lo hi : Int32} : ∀ {d k : Nat}, k ≤ runB b t lo hi d k
  | 0, k => Nat.le_refl k
  | d + 1, k => by
    by_cases q : isB b t lo hi k
    · rw [runB_y q]
      have := runB_ge (b := b) (t := t) (lo := lo) (hi := hi) (d := d) (k := k + 1)
      omega
    · rw [runB_n q]; exact Nat.le_refl k
/-- fuel beyond the end changes nothing -/
theorem runB_fuel {b : Fl} {t : Nat} {lo hi : Int32} : ∀ {d e k : Nat}, t ≤ k + d → t ≤ k + e → runB b t lo hi d k = runB b t lo hi e k
  | 0, 0, k, _, _ => rfl
  | 0, e + 1, k, h, _ => by rw [runB_n (fun q => absurd q.1 (by omega))]; rfl
  | d + 1, 0, k, _, h => by rw [runB_n (fun q => absurd q.1 (by omega))]; rfl
  | d + 1, e + 1, k, h1, h2 => by
    by_cases q : isB b t lo hi k
    · rw [runB_y q, runB_y q]; exact runB_fuel (by omega) (by omega)
    · rw [runB_n q, runB_n q]
def fr (b : Fl) (t p : Nat) : Nat := runB b t 32 32 120 p
def srt (b : Fl) (t p : Nat) : Int32 := if fr b t p = t then 0 else if isB b t 97 122 (fr b t p) then 1 else if isB b t 48 57 (fr b t p) then 2 else 3
def too (b : Fl) (t p : Nat) : Nat := if srt b t p = 1 then runB b t 97 122 120 (fr b t p) else if srt b t p = 2 then runB b t 48 57 120 (fr b t p) else if srt b t p = 3 then fr b t p + 1 else fr b t p
def vlR (b : Fl) (t : Nat) : Nat → Nat → Int32 → Int32
  | 0, _, v => v
  | d + 1, k, v => if isB b t 48 57 k then vlR b t d (k + 1) (if 999 < v then v else 10 * v + b k - 48) else v
theorem vlR_y {b : Fl} {t d k : Nat} {v : Int32} (h : isB b t 48 57 k) : vlR b t (d + 1) k v = vlR b t d (k + 1) (if 999 < v then v else 10 * v + b k - 48) := if_pos h
theorem vlR_n {b : Fl} {t d k : Nat} {v : Int32} (h : ¬ isB b t 48 57 k) : vlR b t (d + 1) k v = v := if_neg h
def val (b : Fl) (t p : Nat) : Int32 := if srt b t p = 2 then vlR b t 120 (fr b t p) 0 else 0
theorem fr_le {b : Fl} {t p : Nat} (h : p ≤ t) : fr b t p ≤ t := runB_le h
theorem fr_ge {b : Fl} {t p : Nat} : p ≤ fr b t p := runB_ge
theorem srt0 {b : Fl} {t p : Nat} : srt b t p = 0 ↔ fr b t p = t := by
  unfold srt
  refine ⟨fun h => ?_, fun h => if_pos h⟩
  by_cases q : fr b t p = t
  · exact q
  · rw [if_neg q] at h
    split at h
    · exact absurd h (by decide)
    · split at h
      · exact absurd h (by decide)
      · exact absurd h (by decide)
theorem too_le {b : Fl} {t p : Nat} (h : p ≤ t) : too b t p ≤ t := by
  have := fr_le (b := b) h
  unfold too
  split
  · exact runB_le this
  · split
    · exact runB_le this
    · split
      · rename_i h3
        have : ¬ fr b t p = t := fun q => by rw [srt0.mpr q] at h3; exact absurd h3 (by decide)
        omega
      · exact this
theorem srt_1 {b : Fl} {t p : Nat} (h : srt b t p = 1) : isB b t 97 122 (fr b t p) := by
  unfold srt at h
  split at h
  · exact absurd h (by decide)
  · split at h
    · assumption
    · split at h
      · exact absurd h (by decide)
      · exact absurd h (by decide)
theorem srt_2 {b : Fl} {t p : Nat} (h : srt b t p = 2) : isB b t 48 57 (fr b t p) := by
  unfold srt at h
  split at h
  · exact absurd h (by decide)
  · split at h
    · exact absurd h (by decide)
    · split at h
      · assumption
      · exact absurd h (by decide)
theorem too_ge {b : Fl} {t p : Nat} : fr b t p ≤ too b t p := by
  unfold too
  split
  · exact runB_ge
  · split
    · exact runB_ge
    · split
      · omega
      · exact Nat.le_refl _
theorem too_gt {b : Fl} {t p : Nat} (hp : p ≤ t) (h : ¬ srt b t p = 0) : p < too b t p := by
  have h1 := fr_ge (b := b) (t := t) (p := p)
  unfold too
  split
  · rename_i q
    rw [runB_y (srt_1 q)]
    have := runB_ge (b := b) (t := t) (lo := 97) (hi := 122) (d := 119) (k := fr b t p + 1)
    omega
  · split
    · rename_i q
      rw [runB_y (srt_2 q)]
      have := runB_ge (b := b) (t := t) (lo := 48) (hi := 57) (d := 119) (k := fr b t p + 1)
      omega
    · split
      · omega
      · rename_i a1 a2 a3
        have : srt b t p = 3 := by
          unfold srt at h a1 a2 ⊢
          by_cases q : fr b t p = t
          · rw [if_pos q] at h; exact absurd rfl h
          · rw [if_neg q] at a1 a2 ⊢
            by_cases q1 : isB b t 97 122 (fr b t p)
            · rw [if_pos q1] at a1; exact absurd rfl a1
            · rw [if_neg q1] at a2 ⊢
              by_cases q2 : isB b t 48 57 (fr b t p)
              · rw [if_pos q2] at a2; exact absurd rfl a2
              · rw [if_neg q2]
        exact absurd this a3
def tkN (φ : Fl) (s f o v : Int32) : Fl := fun i => if i = 2 then s else if i = 3 then f else if i = 4 then o else if i = 5 then v else φ i
def tokR (φ : Fl) (b : Fl) (t p : Nat) : Fl := tkN φ (srt b t p) (nI (fr b t p)) (nI (too b t p)) (val b t p)
/-- the TOKEN that is looked at is the one behind p; c: is the text bad already? -/
def TK (φ b : Fl) (t p : Nat) (c : Int32) : Prop := t ≤ 120 ∧ p ≤ t ∧ φ 1 = nI t ∧ φ 2 = srt b t p ∧ φ 3 = nI (fr b t p) ∧ φ 4 = nI (too b t p) ∧ φ 5 = val b t p ∧ φ 6 = c
theorem TK.next {φ b : Fl} {t p : Nat} {c : Int32} (h : TK φ b t p c) : TK (tokR φ b t (too b t p)) b t (too b t p) c := by
  obtain ⟨h1, h2, h3, h4, h5, h6, h7, h8⟩ := h
  exact ⟨h1, too_le h2, h3, rfl, rfl, rfl, rfl, h8⟩
theorem TK.first {φ b : Fl} {t : Nat} {c : Int32} (h1 : t ≤ 120) (h3 : φ 1 = nI t) (h8 : φ 6 = c) : TK (tokR φ b t 0) b t 0 c := ⟨h1, by omega, h3, rfl, rfl, rfl, rfl, h8⟩
def mt (b : Fl) (f : Nat) (l : List Int32) : Nat → Bool
  | 0 => true
  | k + 1 => mt b f l k && decide (b (f + k) = l.getD k 0)
theorem mt_s {b : Fl} {f k : Nat} {l : List Int32} : mt b f l (k + 1) = true ↔ mt b f l k = true ∧ b (f + k) = l.getD k 0 := by simp [mt]
theorem mt_mono {b : Fl} {f k : Nat} {l : List Int32} : ∀ {n : Nat}, k ≤ n → mt b f l n = true → mt b f l k = true
  | 0, h, q => by
    obtain rfl : k = 0 := by omega
    exact q
  | n + 1, h, q => by
    rcases Nat.lt_or_ge n k with z | z
    · obtain rfl : k = n + 1 := by omega
      exact q
    · exact mt_mono z (mt_s.mp q).1
/-- is the TOKEN the word w? -/
def wdP (b : Fl) (t p w : Nat) : Prop := srt b t p = 1 ∧ too b t p - fr b t p = (wordB w).length ∧ mt b (fr b t p) (wordB w) (wordB w).length = true
def wdB (b : Fl) (t p w : Nat) : Bool := decide (srt b t p = 1) && (decide (too b t p - fr b t p = (wordB w).length) && mt b (fr b t p) (wordB w) (wordB w).length)
theorem wdB_iff {b : Fl} {t p w : Nat} : wdB b t p w = true ↔ wdP b t p w := by simp [wdB, wdP]
abbrev numP (b : Fl) (t p : Nat) (lo hi : Int32) : Prop := srt b t p = 2 ∧ (lo ≤ val b t p ∧ val b t p ≤ hi)
def numR (b : Fl) (t p : Nat) (lo hi : Int32) : Nat ⊕ (Int32 × Nat) := if numP b t p lo hi then .inr (val b t p, too b t p) else .inl p
/-- an ITEM of GROUND: from which YARD to which -/
def gndR (b : Fl) (t p : Nat) : Nat ⊕ ((Int32 × Int32) × Nat) := match numR b t (too b t p) 0 29 with
  | .inl f => .inl f
  | .inr (a, p2) => if wdB b t p2 5 = true then (match numR b t (too b t p2) a 29 with
    | .inl f => .inl f
    | .inr (l, p4) => .inr ((a, l), p4)) else .inr ((a, a), p2)
def optR (b : Fl) (t p w : Nat) (v lo hi : Int32) : Nat ⊕ (Int32 × Nat) := if wdB b t p w = true then numR b t (too b t p) lo hi else .inr (v, p)
def rnR (b : Fl) (t p : Nat) : Nat ⊕ ((Int32 × Int32 × Int32) × Nat) := match optR b t (too b t p) 14 4 0 9 with
  | .inl f => .inl f
  | .inr (a, p1) => match optR b t p1 15 1 0 5 with
    | .inl f => .inl f
    | .inr (s, p2) => match optR b t p2 16 4 1 9 with
      | .inl f => .inl f
      | .inr (q, p3) => .inr ((a, s, q), p3)
def gTold (b : Fl) (t p : Nat) : Int32 := if wdB b t p 0 = true then 0 else if wdB b t p 1 = true then 1 else if wdB b t p 2 = true then 2 else if wdB b t p 3 = true then 3 else if wdB b t p 4 = true then 4 else -1
def kTold (b : Fl) (t p : Nat) : Int32 := if wdB b t p 7 = true then 0 else if wdB b t p 8 = true then 1 else if wdB b t p 9 = true then 2 else if wdB b t p 10 = true then 3 else if wdB b t p 11 = true then 4 else if wdB b t p 12 = true then 5 else if wdB b t p 13 = true then 6 else -1
def gfill (μ : Fl) (a l : Nat) (g : Int32) : Fl := fun i => if 3 + a ≤ i ∧ i ≤ 3 + l then g else μ i
def gR (b : Fl) (t : Nat) (μ : Fl) (p : Nat) (g : Int32) : Nat ⊕ (Fl × Nat) := match gndR b t p with
  | .inl f => .inl f
  | .inr (al, p') => .inr (gfill μ (cl al.1) (cl al.2) g, p')
def pkR (b : Fl) (t : Nat) (μ : Fl) (p : Nat) : Nat ⊕ (Fl × Nat) := match numR b t (too b t p) 0 99 with
  | .inl f => .inl f
  | .inr (v, p') => .inr (upd μ 0 v, p')
def runR (b : Fl) (t : Nat) (μ : Fl) (p : Nat) (k : Int32) : Nat ⊕ (Fl × Nat) := if ¬ k < 0 ∧ ¬ μ 2 = 6 then (match rnR b t p with
  | .inl f => .inl f
  | .inr (x, p') => .inr (newR μ (cl (μ 2)) k x.1 x.2.1 x.2.2, p')) else .inl p
def itemR (b : Fl) (t : Nat) (μ : Fl) (p : Nat) : Nat ⊕ (Fl × Nat) := if gTold b t p < 0 then (if wdB b t p 6 = true then pkR b t μ p else runR b t μ p (kTold b t p)) else gR b t μ p (gTold b t p)
def textR (b : Fl) (t : Nat) : Nat → Nat → Fl → Nat → Nat ⊕ (Nat × Fl)
  | 0, _, _, p => .inl p
  | d + 1, k, μ, p => match itemR b t μ p with
    | .inl f => .inl f
    | .inr (ν, p') => if srt b t p' = 3 ∧ b (fr b t p') = 59 then textR b t d (k + 1) ν (too b t p') else if srt b t p' = 0 then .inr (k + 1, ν) else .inl p'
