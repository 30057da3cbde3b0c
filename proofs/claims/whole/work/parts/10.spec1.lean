/-! what is told of the field, in one row of numbers (PICK 0, z 1, how many 2, GROUND 3 .. 32, each RUNNER 37 from 33 on, SPOTS 255 .. 264) -/
abbrev Fl : Type := Nat → Int32
abbrev cl (x : Int32) : Nat := x.toNatClampNeg
theorem cl_nI {k : Nat} (h : k < 2147483648) : cl (nI k) = k := nI_clamp h
abbrev fl (μ : Fl) (r w : Nat) : Int32 := μ (33 + 37 * r + w)
def sTakes (k p : Int32) : Int32 := (if k = 3 then 11 else if k = 6 then 15 else 12) - p
def sRockB (k p : Int32) : Int32 := if p = 1 then 1 else if p = 2 then 1 else if p = 3 then 2 else if p = 4 then 2 else if p = 5 then 3 else if p = 6 then (if k = 4 then 2 else 6) else if p = 7 then 5 else 3
def sRocks (k p : Int32) : Int32 := if k = 3 then sRockB k p + 1 else sRockB k p
def sHurtB (g : Int32) : Int32 := if g = 0 then 0 else if g = 2 then 4 else if g = 3 then 2 else 3
def sHurts (k g : Int32) : Int32 := if k = 2 then 2 * sHurtB g else if k = 6 then 2 * sHurtB g else sHurtB g
def sHolds (k a s : Int32) : Int32 := if k = 1 then a / 2 + s + 2 else if k = 2 then a / 2 + s + 3 else if k = 3 then a / 2 + s else if k = 4 then a / 2 + s + 2 else if k = 5 then a / 2 + s + 11 else if k = 6 then a / 2 + s + 3 else a / 2 + s
def holdsM (μ : Fl) (r : Nat) : Int32 := sHolds (fl μ r 0) (fl μ r 1) (fl μ r 2)
def sClip (v : Int32) : Int32 := if v < 0 then 0 else if 23 < v then 23 else v
/-- ODDS: shaken as 3 or 0 -/
def oddsM (μ : Fl) (r y : Nat) (p sh nv : Int32) : Int32 := sClip (sRocks (fl μ r 0) p + sHurts (fl μ r 0) (μ (3 + y)) + sh + nv - holdsM μ r)
def shk (P : Prop) [Decidable P] : Int32 := if P then 3 else 0
/-- findings: answer of a call: a finding's number, or the answer and the row behind -/
abbrev An : Type := Nat ⊕ (Int32 × Fl)
def lowI (i : Nat) : Int32 := -100000001 - nI i
def anA : An → Int32
  | .inl i => lowI i
  | .inr q => q.1
def anS (σ : St) (rm rf : Nat) : An → St
  | .inl i => setR σ rf (upd (σ.1 rf) i (σ.1 rf i + 1))
  | .inr q => setR σ rm q.2
theorem rg {x : Int32} (A B : Nat) (h : nI A ≤ x ∧ x ≤ nI B) (hB : B < 2147483648) (hA : A < 2147483648) : ∃ k, x = nI k ∧ A ≤ k ∧ k ≤ B := by
  have h1 := Int32.le_iff_toInt_le.mp h.1
  have h2 := Int32.le_iff_toInt_le.mp h.2
  rw [nI_toInt hA] at h1
  rw [nI_toInt hB] at h2
  obtain ⟨k, hk, rfl⟩ := nI_of (x := x) (fun z => by
    have := Int32.lt_iff_toInt_lt.mp z
    have e : (0 : Int32).toInt = 0 := rfl
    omega)
  rw [nI_toInt hk] at h1 h2
  exact ⟨k, rfl, by omega, by omega⟩
abbrev isR (n : Nat) (x : Int32) : Prop := 0 ≤ x ∧ x < nI n
theorem rgR {x : Int32} {n : Nat} (h : isR n x) (hn : n ≤ 6) : ∃ r, x = nI r ∧ r < n := by
  have h2 := Int32.lt_iff_toInt_lt.mp h.2
  rw [nI_toInt (by omega)] at h2
  obtain ⟨k, hk, rfl⟩ := nI_of (x := x) (fun z => by
    have h1 := Int32.le_iff_toInt_le.mp h.1
    have := Int32.lt_iff_toInt_lt.mp z
    omega)
  rw [nI_toInt hk] at h2
  exact ⟨k, rfl, by omega⟩
theorem isR_of {r n : Nat} (h : r < n) (hn : n ≤ 6) : isR n (nI r) := ⟨nI_pos' (by omega), nI_lt h (by omega)⟩
theorem isR_le {x : Int32} {n : Nat} (hn : n ≤ 6) : (0 ≤ x ∧ x ≤ nI n - 1) ↔ isR n x := by
  have e : (nI n - 1).toInt = (n : Int) - 1 := by
    match n, hn with
    | 0, _ => decide
    | 1, _ => decide
    | 2, _ => decide
    | 3, _ => decide
    | 4, _ => decide
    | 5, _ => decide
    | 6, _ => decide
  simp only [isR, Int32.le_iff_toInt_le, Int32.lt_iff_toInt_lt, e, nI_toInt (show n < 2 ^ 31 by omega)]
  omega
/-! the race -/
def nrv (μ : Fl) (r : Nat) : Nat → Int32
  | 0 => 0
  | o + 1 => nrv μ r o + (if o = r then 0 else if fl μ o 3 = 30 then 0 else if -1 ≤ fl μ o 3 - fl μ r 3 ∧ fl μ o 3 - fl μ r 3 ≤ 1 then 1 else 0)
/-- ODDS in the next STEP of r, of n -/
def oddsN (μ : Fl) (n r : Nat) : Int32 := oddsM μ r (cl (fl μ r 3)) (fl μ r (7 + cl (fl μ r 3))) (shk (0 < fl μ r 5)) (nrv μ r n)
def drawZ (μ : Fl) : Int32 := μ 1 * 1103515245 + 12345
def drawV (μ : Fl) : Int32 := ((drawZ μ).toUInt32 >>> ((8 : Int32).toUInt32 &&& Int32.toUInt32 31)).toInt32
def rem (x d : Int32) : Int32 := x - x / d * d
/-- who runs next, of the first k -/
def oI : Option Nat → Int32
  | none => -1
  | some r => nI r
def nxtIf (μ : Fl) (k : Nat) (b : Option Nat) : Option Nat := if fl μ k 3 = 30 then b else match b with
  | none => some k
  | some r => if fl μ k 4 < fl μ r 4 then some k else some r
def nxt (μ : Fl) : Nat → Option Nat
  | 0 => none
  | k + 1 => nxtIf μ k (nxt μ k)
theorem nxt_lt {μ : Fl} : ∀ {k r : Nat}, nxt μ k = some r → r < k ∧ ¬ fl μ r 3 = 30
  | 0, r, h => by cases h
  | k + 1, r, h => by
    simp only [nxt, nxtIf] at h
    by_cases hh : fl μ k 3 = 30
    · rw [if_pos hh] at h
      have := nxt_lt h
      exact ⟨by omega, this.2⟩
    · rw [if_neg hh] at h
      cases hb : nxt μ k with
      | none =>
        rw [hb] at h
        cases h
        exact ⟨by omega, hh⟩
      | some q =>
        rw [hb] at h
        have hq := nxt_lt hb
        dsimp only at h
        by_cases ht : fl μ k 4 < fl μ q 4
        · rw [if_pos ht] at h; cases h; exact ⟨by omega, hh⟩
        · rw [if_neg ht] at h; cases h; exact ⟨by omega, hq.2⟩
/-- does r drop in his STEP? -/
abbrev dropP (μ : Fl) (n r : Nat) : Prop := 0 < oddsN μ n r ∧ rem (drawV μ) 24 < oddsN μ n r
def drawn (μ : Fl) (n r : Nat) : Fl := if 0 < oddsN μ n r then upd μ 1 (drawZ μ) else μ
def stepM (μ : Fl) (n r : Nat) : Fl :=
  upd (upd (upd (upd (drawn μ n r) (33 + 37 * r + 4) (fl μ r 4 + sTakes (fl μ r 0) (fl μ r (7 + cl (fl μ r 3))) + (if dropP μ n r then μ 0 else 0)))
    (33 + 37 * r + 5) (if dropP μ n r then 3 else if 0 < fl μ r 5 then fl μ r 5 - 1 else 0))
    (33 + 37 * r + 6) (fl μ r 6 + (if dropP μ n r then 1 else 0)))
    (33 + 37 * r + 3) (fl μ r 3 + 1)
def stepD (μ : Fl) (n r : Nat) : Int32 := if dropP μ n r then 1 else 0
/-- k STEPS: the row behind, and drops in them -/
def goM (n : Nat) (μ : Fl) : Nat → Fl
  | 0 => μ
  | k + 1 => match nxt (goM n μ k) n with
    | none => goM n μ k
    | some r => stepM (goM n μ k) n r
def goD (n : Nat) (μ : Fl) : Nat → Int32
  | 0 => 0
  | k + 1 => match nxt (goM n μ k) n with
    | none => goD n μ k
    | some r => goD n μ k + stepD (goM n μ k) n r
theorem goM_s {n k r : Nat} {μ : Fl} (h : nxt (goM n μ k) n = some r) : goM n μ (k + 1) = stepM (goM n μ k) n r := by simp only [goM, h]
theorem goD_s {n k r : Nat} {μ : Fl} (h : nxt (goM n μ k) n = some r) : goD n μ (k + 1) = goD n μ k + stepD (goM n μ k) n r := by simp only [goD, h]
theorem go_stuck {n k : Nat} {μ : Fl} (h : nxt (goM n μ k) n = none) : ∀ d, goM n μ (k + d) = goM n μ k ∧ goD n μ (k + d) = goD n μ k
  | 0 => ⟨rfl, rfl⟩
  | d + 1 => by
    obtain ⟨h1, h2⟩ := go_stuck h d
    have e : nxt (goM n μ (k + d)) n = none := by rw [h1]; exact h
    refine ⟨?_, ?_⟩
    · show goM n μ (k + d + 1) = _
      simp only [goM, e]
      exact h1
    · show goD n μ (k + d + 1) = _
      simp only [goD, e]
      exact h2
theorem go_stuck' {n k m : Nat} {μ : Fl} (h : nxt (goM n μ k) n = none) (hm : k ≤ m) : goM n μ m = goM n μ k ∧ goD n μ m = goD n μ k := by
  obtain ⟨d, rfl⟩ := Nat.exists_eq_add_of_le hm
  exact go_stuck h d
theorem nxt_home {μ : Fl} {k : Nat} (h : fl μ k 3 = 30) : nxt μ (k + 1) = nxt μ k := by simp only [nxt, nxtIf, if_pos h]
theorem nxt_none {μ : Fl} {k : Nat} (h : ¬ fl μ k 3 = 30) (hb : nxt μ k = none) : nxt μ (k + 1) = some k := by simp only [nxt, nxtIf, if_neg h, hb]
theorem nxt_less {μ : Fl} {k b : Nat} (h : ¬ fl μ k 3 = 30) (hb : nxt μ k = some b) (ht : fl μ k 4 < fl μ b 4) : nxt μ (k + 1) = some k := by simp only [nxt, nxtIf, if_neg h, hb, if_pos ht]
theorem nxt_more {μ : Fl} {k b : Nat} (h : ¬ fl μ k 3 = 30) (hb : nxt μ k = some b) (ht : ¬ fl μ k 4 < fl μ b 4) : nxt μ (k + 1) = some b := by simp only [nxt, nxtIf, if_neg h, hb, if_neg ht]
def homeS (μ : Fl) : Nat → Int32
  | 0 => 0
  | k + 1 => homeS μ k ||| (if fl μ k 3 = 30 then 1 <<< (nI k &&& 31) else 0)
def manyS (x : Int32) : Nat → Int32
  | 0 => 0
  | k + 1 => manyS x k + (x >>> (nI k &&& 31) &&& 1)
/-- a new start of the first k -/
def startM (μ : Fl) : Nat → Fl
  | 0 => μ
  | k + 1 => upd (upd (upd (upd (startM μ k) (33 + 37 * k + 3) 0) (33 + 37 * k + 4) 0) (33 + 37 * k + 5) 0) (33 + 37 * k + 6) 0
/-- the rows that can stand: n RUNNERS and what they are -/
def RunOk (μ : Fl) (r : Nat) : Prop := (∃ k, k < 7 ∧ fl μ r 0 = nI k) ∧ (∃ a, a < 10 ∧ fl μ r 1 = nI a) ∧ (∃ s, s < 6 ∧ fl μ r 2 = nI s) ∧ (∃ y, y ≤ 30 ∧ fl μ r 3 = nI y) ∧ (∃ s, s ≤ 3 ∧ fl μ r 5 = nI s) ∧ ∀ y, y < 30 → ∃ p, 1 ≤ p ∧ p ≤ 9 ∧ fl μ r (7 + y) = nI p
def Ok (n : Nat) (μ : Fl) : Prop := n ≤ 6 ∧ μ 2 = nI n ∧ (∃ p, p < 100 ∧ μ 0 = nI p) ∧ (∀ y, y < 30 → ∃ g, g < 5 ∧ μ (3 + y) = nI g) ∧ (∀ r, r < n → RunOk μ r) ∧ ∀ k, k < 10 → μ (255 + k) = -1 ∨ ∃ r, r < n ∧ μ (255 + k) = nI r
theorem Ok.yard {n : Nat} {μ : Fl} (h : Ok n μ) {r : Nat} (hr : r < n) (hh : ¬ fl μ r 3 = 30) : ∃ y, y < 30 ∧ fl μ r 3 = nI y := by
  obtain ⟨y, hy, e⟩ := (h.2.2.2.2.1 r hr).2.2.2.1
  refine ⟨y, ?_, e⟩
  rcases Nat.lt_or_ge y 30 with q | q
  · exact q
  · exact absurd (by rw [e, show y = 30 by omega]; rfl) hh

/-- a row that differs only in time, shaken, drops, yard of r, and z, is such a row too -/
theorem Ok.step {n : Nat} {μ : Fl} (h : Ok n μ) {r : Nat} (hr : r < n) (hh : ¬ fl μ r 3 = 30) : Ok n (stepM μ n r) := by
  obtain ⟨y, hy, ey⟩ := h.yard hr hh
  obtain ⟨h1, h2, h3, h4, h5, h6⟩ := h
  have dr : ∀ k, k ≠ 1 → drawn μ n r k = μ k := by
    intro k hk
    unfold drawn
    by_cases q : 0 < oddsN μ n r
    · rw [if_pos q]; exact pk_un hk
    · rw [if_neg q]
  have off : ∀ k, k ≠ 1 → k ≠ 33 + 37 * r + 3 → k ≠ 33 + 37 * r + 4 → k ≠ 33 + 37 * r + 5 → k ≠ 33 + 37 * r + 6 → stepM μ n r k = μ k := by
    intro k a b c d e
    unfold stepM
    rw [pk_un b, pk_un e, pk_un d, pk_un c, dr k a]
  refine ⟨h1, by rw [off 2 (by omega) (by omega) (by omega) (by omega) (by omega)]; exact h2, by rw [off 0 (by omega) (by omega) (by omega) (by omega) (by omega)]; exact h3, fun q hq => by rw [off (3 + q) (by omega) (by omega) (by omega) (by omega) (by omega)]; exact h4 q hq, fun q hq => ?_, fun q hq => by rw [off (255 + q) (by omega) (by omega) (by omega) (by omega) (by omega)]; exact h6 q hq⟩
  obtain ⟨a1, a2, a3, a4, a5, a6⟩ := h5 q hq
  by_cases e : q = r
  · subst e
    refine ⟨?_, ?_, ?_, ?_, ?_, fun z hz => ?_⟩
    · show ∃ k, k < 7 ∧ stepM μ n q (33 + 37 * q + 0) = nI k
      rw [off _ (by omega) (by omega) (by omega) (by omega) (by omega)]; exact a1
    · show ∃ k, k < 10 ∧ stepM μ n q (33 + 37 * q + 1) = nI k
      rw [off _ (by omega) (by omega) (by omega) (by omega) (by omega)]; exact a2
    · show ∃ k, k < 6 ∧ stepM μ n q (33 + 37 * q + 2) = nI k
      rw [off _ (by omega) (by omega) (by omega) (by omega) (by omega)]; exact a3
    · refine ⟨y + 1, by omega, ?_⟩
      show stepM μ n q (33 + 37 * q + 3) = _
      unfold stepM
      rw [pk_us, ey, nI_1]
    · obtain ⟨s, hs, es⟩ := a5
      have e2 : stepM μ n q (33 + 37 * q + 5) = if dropP μ n q then 3 else if 0 < fl μ q 5 then fl μ q 5 - 1 else 0 := by
        unfold stepM
        rw [pk_un (by omega), pk_un (by omega), pk_us]
      show ∃ s, s ≤ 3 ∧ stepM μ n q (33 + 37 * q + 5) = nI s
      rw [e2]
      by_cases d : dropP μ n q
      · rw [if_pos d]; exact ⟨3, by omega, rfl⟩
      · rw [if_neg d]
        by_cases z : 0 < fl μ q 5
        · rw [if_pos z, es]
          have hs0 : 0 < s := by
            rcases Nat.eq_zero_or_pos s with w | w
            · rw [es, w] at z; exact absurd z (by decide)
            · exact w
          exact ⟨s - 1, by omega, pk_sub (b := 1) (by omega)⟩
        · rw [if_neg z]; exact ⟨0, by omega, rfl⟩
    · show ∃ p, 1 ≤ p ∧ p ≤ 9 ∧ stepM μ n q (33 + 37 * q + (7 + z)) = nI p
      rw [off _ (by omega) (by omega) (by omega) (by omega) (by omega)]; exact a6 z hz
  · refine ⟨?_, ?_, ?_, ?_, ?_, fun z hz => ?_⟩
    · show ∃ k, k < 7 ∧ stepM μ n r (33 + 37 * q + 0) = nI k
      rw [off _ (by omega) (by omega) (by omega) (by omega) (by omega)]; exact a1
    · show ∃ k, k < 10 ∧ stepM μ n r (33 + 37 * q + 1) = nI k
      rw [off _ (by omega) (by omega) (by omega) (by omega) (by omega)]; exact a2
    · show ∃ k, k < 6 ∧ stepM μ n r (33 + 37 * q + 2) = nI k
      rw [off _ (by omega) (by omega) (by omega) (by omega) (by omega)]; exact a3
    · show ∃ k, k ≤ 30 ∧ stepM μ n r (33 + 37 * q + 3) = nI k
      rw [off _ (by omega) (by omega) (by omega) (by omega) (by omega)]; exact a4
    · show ∃ k, k ≤ 3 ∧ stepM μ n r (33 + 37 * q + 5) = nI k
      rw [off _ (by omega) (by omega) (by omega) (by omega) (by omega)]; exact a5
    · show ∃ p, 1 ≤ p ∧ p ≤ 9 ∧ stepM μ n r (33 + 37 * q + (7 + z)) = nI p
      rw [off _ (by omega) (by omega) (by omega) (by omega) (by omega)]; exact a6 z hz
theorem Ok.go {n : Nat} {μ : Fl} (h : Ok n μ) : ∀ k, Ok n (goM n μ k)
  | 0 => h
  | k + 1 => by
    cases hb : nxt (goM n μ k) n with
    | none => simp only [goM, hb]; exact h.go k
    | some r => rw [goM_s hb]; exact (h.go k).step (nxt_lt hb).1 (nxt_lt hb).2
/-- who is HOME first, of the first k: least TIME, least number -/
abbrev aheadP (μ : Fl) (a b : Nat) : Prop := fl μ a 4 < fl μ b 4 ∨ (fl μ a 4 = fl μ b 4 ∧ a < b)
def fst (μ : Fl) : Nat → Option Nat
  | 0 => none
  | k + 1 => match fst μ k with
    | none => some k
    | some b => if aheadP μ k b then some k else some b
theorem fst_none {μ : Fl} {k : Nat} (h : fst μ k = none) : fst μ (k + 1) = some k := by simp only [fst, h]
theorem fst_yes {μ : Fl} {k b : Nat} (h : fst μ k = some b) (ht : aheadP μ k b) : fst μ (k + 1) = some k := by simp only [fst, h, if_pos ht]
theorem fst_no {μ : Fl} {k b : Nat} (h : fst μ k = some b) (ht : ¬ aheadP μ k b) : fst μ (k + 1) = some b := by simp only [fst, h, if_neg ht]
theorem fst_lt {μ : Fl} : ∀ {k b : Nat}, fst μ k = some b → b < k
  | 0, b, h => by cases h
  | k + 1, b, h => by
    cases hb : fst μ k with
    | none => rw [fst_none hb] at h; cases h; omega
    | some q =>
      have := fst_lt hb
      by_cases ht : aheadP μ k q
      · rw [fst_yes hb ht] at h; cases h; omega
      · rw [fst_no hb ht] at h; cases h; omega
def placeS (μ : Fl) (r : Nat) : Nat → Int32
  | 0 => 1
  | k + 1 => placeS μ r k + (if k = r then 0 else if aheadP μ k r then 1 else 0)
/-- races: each with a new start, the draws as they were left -/
def raceM (n : Nat) (μ : Fl) : Nat → Fl
  | 0 => μ
  | k + 1 => goM n (startM (raceM n μ k) n) 180
def winsS (n : Nat) (μ : Fl) (r : Int32) : Nat → Int32
  | 0 => 0
  | k + 1 => winsS n μ r k + (if oI (fst (raceM n μ (k + 1)) n) = r then 1 else 0)
theorem startM_off {μ : Fl} : ∀ {k : Nat} {i : Nat}, (∀ r, r < k → ¬ (33 + 37 * r + 3 ≤ i ∧ i ≤ 33 + 37 * r + 6)) → startM μ k i = μ i
  | 0, i, _ => rfl
  | k + 1, i, h => by
    have h1 := h k (by omega)
    unfold startM
    rw [pk_un (by omega), pk_un (by omega), pk_un (by omega), pk_un (by omega)]
    exact startM_off (fun r hr => h r (by omega))
theorem startM_at {μ : Fl} : ∀ {k r w : Nat}, r < k → 3 ≤ w → w ≤ 6 → startM μ k (33 + 37 * r + w) = 0
  | 0, r, w, h, _, _ => by omega
  | k + 1, r, w, h, h3, h6 => by
    unfold startM
    by_cases e : r = k
    · subst e
      rcases (show w = 3 ∨ w = 4 ∨ w = 5 ∨ w = 6 by omega) with rfl | rfl | rfl | rfl
      · rw [pk_un (by omega), pk_un (by omega), pk_un (by omega), pk_us]
      · rw [pk_un (by omega), pk_un (by omega), pk_us]
      · rw [pk_un (by omega), pk_us]
      · rw [pk_us]
    · rw [pk_un (by omega), pk_un (by omega), pk_un (by omega), pk_un (by omega)]
      exact startM_at (by omega) h3 h6
theorem Ok.start {n : Nat} {μ : Fl} (h : Ok n μ) : Ok n (startM μ n) := by
  obtain ⟨h1, h2, h3, h4, h5, h6⟩ := h
  refine ⟨h1, by rw [startM_off (fun r _ => by omega)]; exact h2, by rw [startM_off (fun r _ => by omega)]; exact h3, fun q hq => by rw [startM_off (fun r _ => by omega)]; exact h4 q hq, fun q hq => ?_, fun q hq => by rw [startM_off (fun r _ => by omega)]; exact h6 q hq⟩
  obtain ⟨a1, a2, a3, a4, a5, a6⟩ := h5 q hq
  refine ⟨?_, ?_, ?_, ⟨0, by omega, ?_⟩, ⟨0, by omega, ?_⟩, fun z hz => ?_⟩
  · show ∃ k, k < 7 ∧ startM μ n (33 + 37 * q + 0) = nI k
    rw [startM_off (fun r _ => by omega)]; exact a1
  · show ∃ k, k < 10 ∧ startM μ n (33 + 37 * q + 1) = nI k
    rw [startM_off (fun r _ => by omega)]; exact a2
  · show ∃ k, k < 6 ∧ startM μ n (33 + 37 * q + 2) = nI k
    rw [startM_off (fun r _ => by omega)]; exact a3
  · exact startM_at hq (by omega) (by omega)
  · exact startM_at hq (by omega) (by omega)
  · show ∃ p, 1 ≤ p ∧ p ≤ 9 ∧ startM μ n (33 + 37 * q + (7 + z)) = nI p
    rw [startM_off (fun r _ => by omega)]; exact a6 z hz
theorem Ok.race {n : Nat} {μ : Fl} (h : Ok n μ) : ∀ k, Ok n (raceM n μ k)
  | 0 => h
  | k + 1 => (h.race k).start.go 180
