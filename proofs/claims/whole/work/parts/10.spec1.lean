/-! what is told of the field, in one row of numbers (PICK 0, z 1, how many 2, GROUND 3 .. 32, each RUNNER 37 from 33 on, SPOTS 255 .. 264) -/
abbrev Fl : Type := Nat → Int32
abbrev cl (x : Int32) : Nat := x.toNatClampNeg
theorem cl_nI {k : Nat} (h : k < 2147483648) : cl (nI k) = k := nI_clamp h
abbrev fl (μ : Fl) (r w : Nat) : Int32 := μ (33 + 37 * r + w)
def sTakes (k p : Int32) : Int32 := (if k = 3 then 11 else if k = 6 then 15 else 12) - p
def sRockB (k p : Int32) : Int32 := if p = 1 then 1 else if p = 2 then 1 else if p = 3 then 2 else if p = 4 then 2 else if p = 5 then 3 else if p = 6 then (if k = 4 then 2 else 6) else if p = 7 then 5 else 3
def sRocks (k p : Int32) : Int32 := if k = 3 then sRockB k p + 1 else sRockB k p
def sHurtB (g : Int32) : Int32 := if g = 0 then 0 else if g = 2 then 4 else if g = 3 then 2 else 3
def sHurts (k g : Int32) : Int32 := if k = 2 then 2 * sHurtB g else if k = 6 then 2 * sHurtB g else sHurtB g
def sHolds (k a s : Int32) : Int32 := if k = 1 then a / 2 + s + 2 else if k = 2 then a / 2 + s + 3 else if k = 3 then a / 2 + s else if k = 4 then a / 2 + s + 2 else if k = 5 then a / 2 + s + 11 else if k = 6 then a / 2 + s + 3 else a / 2 + s
def holdsM (μ : Fl) (r : Nat) : Int32 := sHolds (fl μ r 0) (fl μ r 1) (fl μ r 2)
def sClip (v : Int32) : Int32 := if v < 0 then 0 else if 23 < v then 23 else v
/-- ODDS: shaken as 3 or 0 -/
def oddsM (μ : Fl) (r y : Nat) (p sh nv : Int32) : Int32 := sClip (sRocks (fl μ r 0) p + sHurts (fl μ r 0) (μ (3 + y)) + sh + nv - holdsM μ r)
def shk (P : Prop) [Decidable P] : Int32 := if P then 3 else 0
/-- findings: answer of a call: a finding's number, or the answer and the row behind -/
abbrev An : Type := Nat ⊕ (Int32 × Fl)
def lowI (i : Nat) : Int32 := -100000001 - nI i
def anA : An → Int32
  | .inl i => lowI i
  | .inr q => q.1
def anS (σ : St) (rm rf : Nat) : An → St
  | .inl i => setR σ rf (upd (σ.1 rf) i (σ.1 rf i + 1))
  | .inr q => setR σ rm q.2
theorem rg {x : Int32} (A B : Nat) (h : nI A ≤ x ∧ x ≤ nI B) (hB : B < 2147483648) (hA : A < 2147483648) : ∃ k, x = nI k ∧ A ≤ k ∧ k ≤ B := by
  have h1 := Int32.le_iff_toInt_le.mp h.1
  have h2 := Int32.le_iff_toInt_le.mp h.2
  rw [nI_toInt hA] at h1
  rw [nI_toInt hB] at h2
  obtain ⟨k, hk, rfl⟩ := nI_of (x := x) (fun z => by
    have := Int32.lt_iff_toInt_lt.mp z
    have e : (0 : Int32).toInt = 0 := rfl
    omega)
  rw [nI_toInt hk] at h1 h2
  exact ⟨k, rfl, by omega, by omega⟩
abbrev isR (n : Nat) (x : Int32) : Prop := 0 ≤ x ∧ x < nI n
theorem rgR {x : Int32} {n : Nat} (h : isR n x) (hn : n ≤ 6) : ∃ r, x = nI r ∧ r < n := by
  have h2 := Int32.lt_iff_toInt_lt.mp h.2
  rw [nI_toInt (by omega)] at h2
  obtain ⟨k, hk, rfl⟩ := nI_of (x := x) (fun z => by
    have h1 := Int32.le_iff_toInt_le.mp h.1
    have := Int32.lt_iff_toInt_lt.mp z
    omega)
  rw [nI_toInt hk] at h2
  exact ⟨k, rfl, by omega⟩
theorem isR_of {r n : Nat} (h : r < n) (hn : n ≤ 6) : isR n (nI r) := ⟨nI_pos' (by omega), nI_lt h (by omega)⟩
theorem isR_le {x : Int32} {n : Nat} (hn : n ≤ 6) : (0 ≤ x ∧ x ≤ nI n - 1) ↔ isR n x := by
  have e : (nI n - 1).toInt = (n : Int) - 1 := by
    match n, hn with
    | 0, _ => decide
    | 1, _ => decide
    | 2, _ => decide
    | 3, _ => decide
    | 4, _ => decide
    | 5, _ => decide
    | 6, _ => decide
  simp only [isR, Int32.le_iff_toInt_le, Int32.lt_iff_toInt_lt, e, nI_toInt (show n < 2 ^ 31 by omega)]
  omega
/-! the race -/
def nrv (μ : Fl) (r : Nat) : Nat → Int32
  | 0 => 0
  | o + 1 => nrv μ r o + (if o = r then 0 else if fl μ o 3 = 30 then 0 else if -1 ≤ fl μ o 3 - fl μ r 3 ∧ fl μ o 3 - fl μ r 3 ≤ 1 then 1 else 0)
/-- ODDS in the next STEP of r, of n -/
def oddsN (μ : Fl) (n r : Nat) : Int32 := oddsM μ r (cl (fl μ r 3)) (fl μ r (7 + cl (fl μ r 3))) (shk (0 < fl μ r 5)) (nrv μ r n)
def drawZ (μ : Fl) : Int32 := μ 1 * 1103515245 + 12345
def drawV (μ : Fl) : Int32 := ((drawZ μ).toUInt32 >>> ((8 : Int32).toUInt32 &&& Int32.toUInt32 31)).toInt32
def rem (x d : Int32) : Int32 := x - x / d * d
/-- who runs next, of the first k -/
def oI : Option Nat → Int32
  | none => -1
  | some r => nI r
def nxtIf (μ : Fl) (k : Nat) (b : Option Nat) : Option Nat := if fl μ k 3 = 30 then b else match b with
  | none => some k
  | some r => if fl μ k 4 < fl μ r 4 then some k else some r
def nxt (μ : Fl) : Nat → Option Nat
  | 0 => none
  | k + 1 => nxtIf μ k (nxt μ k)
theorem nxt_lt {μ : Fl} : ∀ {k r : Nat}, nxt μ k = some r → r < k ∧ ¬ fl μ r 3 = 30
  | 0, r, h => by cases h
  | k + 1, r, h => by
    simp only [nxt, nxtIf] at h
    by_cases hh : fl μ k 3 = 30
    · rw [if_pos hh] at h
      have := nxt_lt h
      exact ⟨by omega, this.2⟩
    · rw [if_neg hh] at h
      cases hb : nxt μ k with
      | none =>
        rw [hb] at h
        cases h
        exact ⟨by omega, hh⟩
      | some q =>
        rw [hb] at h
        have hq := nxt_lt hb
        dsimp only at h
        by_cases ht : fl μ k 4 < fl μ q 4
        · rw [if_pos ht] at h; cases h; exact ⟨by omega, hh⟩
        · rw [if_neg ht] at h; cases h; exact ⟨by omega, hq.2⟩
/-- does r drop in his STEP? -/
abbrev dropP (μ : Fl) (n r : Nat) : Prop := 0 < oddsN μ n r ∧ rem (drawV μ) 24 < oddsN μ n r
def drawn (μ : Fl) (n r : Nat) : Fl := if 0 < oddsN μ n r then upd μ 1 (drawZ μ) else μ
def stepM (μ : Fl) (n r : Nat) : Fl :=
  upd (upd (upd (upd (drawn μ n r) (33 + 37 * r + 4) (fl μ r 4 + sTakes (fl μ r 0) (fl μ r (7 + cl (fl μ r 3))) + (if dropP μ n r then μ 0 else 0)))
    (33 + 37 * r + 5) (if dropP μ n r then 3 else if 0 < fl μ r 5 then fl μ r 5 - 1 else 0))
    (33 + 37 * r + 6) (fl μ r 6 + (if dropP μ n r then 1 else 0)))
    (33 + 37 * r + 3) (fl μ r 3 + 1)
def stepD (μ : Fl) (n r : Nat) : Int32 := if dropP μ n r then 1 else 0
/-- k STEPS: drops in them, and the row behind -/
def goM (n : Nat) : Nat → Fl → Fl
  | 0, μ => μ
  | k + 1, μ => match nxt μ n with
    | none => μ
    | some r => goM n k (stepM μ n r)
def goD (n : Nat) : Nat → Int32 → Fl → Int32
  | 0, s, _ => s
  | k + 1, s, μ => match nxt μ n with
    | none => s
    | some r => goD n k (s + stepD μ n r) (stepM μ n r)
def homeS (μ : Fl) : Nat → Int32
  | 0 => 0
  | k + 1 => homeS μ k ||| (if fl μ k 3 = 30 then 1 <<< (nI k &&& 31) else 0)
def manyS (x : Int32) : Nat → Int32
  | 0 => 0
  | k + 1 => manyS x k + (x >>> (nI k &&& 31) &&& 1)
/-- a new start of the first k -/
def startM (μ : Fl) : Nat → Fl
  | 0 => μ
  | k + 1 => upd (upd (upd (upd (startM μ k) (33 + 37 * k + 3) 0) (33 + 37 * k + 4) 0) (33 + 37 * k + 5) 0) (33 + 37 * k + 6) 0
/-- the rows that can stand: n RUNNERS and what they are -/
def RunOk (μ : Fl) (r : Nat) : Prop := (∃ k, k < 7 ∧ fl μ r 0 = nI k) ∧ (∃ a, a < 10 ∧ fl μ r 1 = nI a) ∧ (∃ s, s < 6 ∧ fl μ r 2 = nI s) ∧ (∃ y, y ≤ 30 ∧ fl μ r 3 = nI y) ∧ (∃ s, s ≤ 3 ∧ fl μ r 5 = nI s) ∧ ∀ y, y < 30 → ∃ p, 1 ≤ p ∧ p ≤ 9 ∧ fl μ r (7 + y) = nI p
def Ok (n : Nat) (μ : Fl) : Prop := n ≤ 6 ∧ μ 2 = nI n ∧ (∃ p, p < 100 ∧ μ 0 = nI p) ∧ (∀ y, y < 30 → ∃ g, g < 5 ∧ μ (3 + y) = nI g) ∧ (∀ r, r < n → RunOk μ r) ∧ ∀ k, k < 10 → μ (255 + k) = -1 ∨ ∃ r, r < n ∧ μ (255 + k) = nI r
theorem Ok.yard {n : Nat} {μ : Fl} (h : Ok n μ) {r : Nat} (hr : r < n) (hh : ¬ fl μ r 3 = 30) : ∃ y, y < 30 ∧ fl μ r 3 = nI y := by
  obtain ⟨y, hy, e⟩ := (h.2.2.2.2.1 r hr).2.2.2.1
  refine ⟨y, ?_, e⟩
  rcases Nat.lt_or_ge y 30 with q | q
  · exact q
  · exact absurd (by rw [e, show y = 30 by omega]; rfl) hh
