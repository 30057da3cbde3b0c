/-! alone: stretches, drops, means -/
abbrev strP (n : Nat) (r y k m : Int32) : Prop := isR n r ∧ (0 ≤ y ∧ y ≤ 29) ∧ (0 ≤ k ∧ k ≤ m) ∧ ¬ 30 < y + k
theorem str_nat {n : Nat} {r y k m : Int32} {B : Nat} (h : strP n r y k m) (hn : n ≤ 6) (hm : m = nI B) (hB : B ≤ 12) : ∃ r' y' k', r = nI r' ∧ y = nI y' ∧ k = nI k' ∧ r' < n ∧ y' ≤ 29 ∧ k' ≤ B ∧ y' + k' ≤ 30 := by
  obtain ⟨h1, h2, h3, h4⟩ := h
  subst hm
  obtain ⟨r', rfl, hr⟩ := rgR h1 hn
  obtain ⟨y', rfl, -, hy⟩ := rg 0 29 h2 (by omega) (by omega)
  obtain ⟨k', rfl, -, hk⟩ := rg 0 B h3 (by omega) (by omega)
  refine ⟨r', y', k', rfl, rfl, rfl, hr, hy, hk, ?_⟩
  rw [nI_add] at h4
  rcases Nat.lt_or_ge 30 (y' + k') with q | q
  · exact absurd (nI_lt (a := 30) q (by omega)) h4
  · exact q
def oddsA (μ : Fl) (r y : Nat) (sh : Int32) : Int32 := oddsM μ r y (fl μ r (7 + y)) sh 0
def cleanL (μ : Fl) (r y : Nat) : Nat → Int64
  | 0 => 1
  | k + 1 => cleanL μ r y k * (24 - oddsA μ r (y + k) 0).toInt64
/-- parts by which just k drops come on n yards from y on, shaken s -/
def dS (μ : Fl) (r : Nat) : Nat → Nat → Nat → Nat → Int64
  | 0, _, k, _ => if k = 0 then 1 else 0
  | n + 1, y, k, s => if n + 1 < k then 0 else (24 - oddsA μ r y (shk (0 < s))).toInt64 * dS μ r n (y + 1) k (s - 1) + (oddsA μ r y (shk (0 < s))).toInt64 * (match k with
    | 0 => 0
    | k + 1 => dS μ r n (y + 1) k 3)
theorem dS_big {μ : Fl} {r n y k s : Nat} (h : n + 1 < k) : dS μ r (n + 1) y k s = 0 := by
  cases k with
  | zero => omega
  | succ k => simp only [dS, if_pos h]
theorem dS_o {μ : Fl} {r n y k s : Nat} (h : k ≤ n + 1) (ho : oddsA μ r y (shk (0 < s)) = 0) : dS μ r (n + 1) y k s = (24 - oddsA μ r y (shk (0 < s))).toInt64 * dS μ r n (y + 1) k (s - 1) := by
  have e : (0 : Int32).toInt64 = 0 := rfl
  cases k with
  | zero => simp only [dS, if_neg (Nat.not_lt.mpr h), ho, e, Int64.zero_mul, Int64.add_zero]
  | succ k => simp only [dS, if_neg (Nat.not_lt.mpr h), ho, e, Int64.zero_mul, Int64.add_zero]
abbrev LAn : Type := Nat ⊕ Int64
def laA : LAn → Int64
  | .inl i => (lowI i).toInt64
  | .inr x => x
/-- a long answer of the reference -/
def PML (σ : St) (an : LAn) : RZ := fun w s => w = some (.long (laA an)) ∧ (∀ r, r ∉ mScr → s.1 r = (match an with
  | .inl i => setR σ 24 (upd (σ.1 24) i (σ.1 24 i + 1))
  | .inr _ => σ).1 r) ∧ s.2 = σ.2
theorem pml_low {σ s : St} {an : LAn} {x : Int64} (h : an = .inl 0) (hv : x = (lowI 0).toInt64) (hs : s = setR σ 24 (upd (σ.1 24) 0 (σ.1 24 0 + 1))) : PML σ an (some (.long x)) s := by
  subst h; subst hv; subst hs
  exact ⟨rfl, fun _ _ => rfl, rfl⟩
theorem pml_of {σ s : St} {an : LAn} {x y : Int64} (h : an = .inr y) (hv : x = y) (hs : s = σ) : PML σ an (some (.long x)) s := by
  subst h; subst hv; subst hs
  exact ⟨rfl, fun _ _ => rfl, rfl⟩
def sClean (μ : Fl) (n : Nat) (r y k : Int32) : LAn := if strP n r y k 12 then .inr (cleanL μ (cl r) (cl y) (cl k)) else .inl 0
def sDrops (μ : Fl) (n : Nat) (r y k j : Int32) : LAn := if strP n r y k 10 ∧ (0 ≤ j ∧ j ≤ k) then .inr (dS μ (cl r) (cl k) (cl y) (cl j) 0) else .inl 0
/-- the row with another KIND of r -/
def asK (μ : Fl) (r : Nat) (k : Int32) : Fl := upd μ (33 + 37 * r + 0) k
def sGum (μ : Fl) (n : Nat) (r y k j w : Int32) : LAn := if strP n r y k 8 ∧ (¬ k = 0) ∧ (0 ≤ j ∧ j ≤ k) ∧ (0 ≤ w ∧ w ≤ 1) then .inr (dS (asK μ (cl r) (if w = 0 then 5 else fl μ (cl r) 0)) (cl r) (cl k) (cl y) (cl j) 0) else .inl 0
theorem asK_back (μ : Fl) (r : Nat) (k : Int32) : upd (asK μ r k) (33 + 37 * r + 0) (fl μ r 0) = μ := by
  funext i
  simp only [upd, asK]
  by_cases h : i = 33 + 37 * r + 0
  · rw [if_pos h, h]
  · rw [if_neg h, if_neg h]
theorem asK_own (μ : Fl) (r : Nat) : asK μ r (fl μ r 0) = μ := by
  funext i
  simp only [upd, asK]
  by_cases h : i = 33 + 37 * r + 0
  · rw [if_pos h, h]
  · rw [if_neg h]
/-- counting down: -1 behind 0 -/
def dI : Nat → Int32
  | 0 => -1
  | m + 1 => nI m
theorem dI_dec (m : Nat) : nI m + (-1) = dI m := by
  cases m with
  | zero => decide
  | succ m => exact pk_m1 m
theorem dI_sub (m : Nat) : nI m - 1 = dI m := by
  cases m with
  | zero => decide
  | succ m => exact pk_sub (b := 1) (by omega)
theorem dI_neg {m : Nat} (h : dI m < 0) (hm : m < 1000) : m = 0 := by
  cases m with
  | zero => rfl
  | succ m => exact absurd h (nI_pos (by omega))
abbrev susP (μ : Fl) (r y n k : Nat) : Prop := 0 < dS (asK μ r 5) r n y k 0 ∧ 2 * dS μ r n y k 0 ≤ dS (asK μ r 5) r n y k 0
/-- the greatest such below m -/
def susS (μ : Fl) (r y n : Nat) : Nat → Option Nat
  | 0 => none
  | m + 1 => if susP μ r y n m then some m else susS μ r y n m
def sSuspect (μ : Fl) (n : Nat) (r y k : Int32) : An := if strP n r y k 8 ∧ ¬ k = 0 then (match susS μ (cl r) (cl y) (cl k) (cl k + 1) with
  | none => .inl 3
  | some j => .inr (nI j, μ)) else .inl 0
