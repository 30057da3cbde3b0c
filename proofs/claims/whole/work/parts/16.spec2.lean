/-! the calls' answers: a finding, or the answer and the row behind -/
theorem oI_lt0 : oI none < 0 := by decide
def mScr : List Nat := [22, 25, 26, 27, 28]
/-- what a call of the reference promises: the answer, and all but the scratch rows as told -/
def PM (σ : St) (an : An) : RZ := fun w s => w = some (.int (anA an)) ∧ (∀ r, r ∉ mScr → s.1 r = (anS σ 20 24 an).1 r) ∧ s.2 = σ.2
theorem pm_of {σ s : St} {an an' : An} {x : Int32} (h : an = an') (hv : x = anA an') (hs : s = anS σ 20 24 an') : PM σ an (some (.int x)) s := by
  subst h; subst hv; subst hs
  exact ⟨rfl, fun _ _ => rfl, by cases an <;> rfl⟩
theorem pm_scr {σ s : St} {an an' : An} {x : Int32} (h : an = an') (hv : x = anA an') (hs : ∀ r, r ∉ mScr → s.1 r = (anS σ 20 24 an').1 r) (hL : s.2 = σ.2) : PM σ an (some (.int x)) s := by
  subst h; subst hv
  exact ⟨rfl, hs, hL⟩
def sGround (μ : Fl) (yard v : Int32) : An := if (0 ≤ yard ∧ yard ≤ 29) ∧ (0 ≤ v ∧ v ≤ 4) then .inr (μ (3 + cl yard), upd μ (3 + cl yard) v) else .inl 0
def sPick (μ : Fl) (v : Int32) : An := if 0 ≤ v ∧ v ≤ 99 then .inr (μ 0, upd μ 0 v) else .inl 0
/-- a new RUNNER behind n -/
def newR (μ : Fl) (n : Nat) (k a s p : Int32) : Fl := fun i => if i = 2 then nI (n + 1) else if 33 + 37 * n ≤ i ∧ i < 70 + 37 * n then (if i = 33 + 37 * n then k else if i = 34 + 37 * n then a else if i = 35 + 37 * n then s else if i < 40 + 37 * n then 0 else p) else μ i
def sRunner (μ : Fl) (n : Nat) (k a s : Int32) : An := if (0 ≤ k ∧ k ≤ 6) ∧ (0 ≤ a ∧ a ≤ 9) ∧ (0 ≤ s ∧ s ≤ 5) then (if n = 6 then .inl 1 else .inr (nI n, newR μ n k a s 4)) else .inl 0
def sOf (μ : Fl) (n : Nat) (r w : Int32) : An := if isR n r ∧ (0 ≤ w ∧ w ≤ 7) then .inr (if cl w < 7 then fl μ (cl r) (cl w) else holdsM μ (cl r), μ) else .inl 0
def partB (w v : Int32) : Bool := if w = 0 then decide (0 ≤ v ∧ v ≤ 6) else if w = 1 then decide (0 ≤ v ∧ v ≤ 9) else if w = 2 then decide (0 ≤ v ∧ v ≤ 5) else if w = 3 then decide (0 ≤ v ∧ v ≤ 30) else if w = 5 then decide (0 ≤ v ∧ v ≤ 3) else false
theorem part_w {w v : Int32} (h : partB w v = true) : ∃ k, w = nI k ∧ k ≤ 5 := by
  unfold partB at h
  split at h
  · exact ⟨0, by assumption, by omega⟩
  · split at h
    · exact ⟨1, by assumption, by omega⟩
    · split at h
      · exact ⟨2, by assumption, by omega⟩
      · split at h
        · exact ⟨3, by assumption, by omega⟩
        · split at h
          · exact ⟨5, by assumption, by omega⟩
          · cases h
def sChange (μ : Fl) (n : Nat) (r w v : Int32) : An := if isR n r ∧ partB w v = true then .inr (fl μ (cl r) (cl w), upd μ (33 + 37 * cl r + cl w) v) else .inl 0
/-- PACE of r becomes v on the first k yards from a on; how many had another -/
def paceM (μ : Fl) (r a : Nat) (v : Int32) : Nat → Fl
  | 0 => μ
  | k + 1 => upd (paceM μ r a v k) (33 + 37 * r + 7 + (a + k)) v
def paceC (μ : Fl) (r a : Nat) (v : Int32) : Nat → Int32
  | 0 => 0
  | k + 1 => paceC μ r a v k + (if μ (33 + 37 * r + 7 + (a + k)) = v then 0 else 1)
theorem paceM_off {μ : Fl} {r a : Nat} {v : Int32} : ∀ {k i : Nat}, (i < 33 + 37 * r + 7 + a ∨ 33 + 37 * r + 7 + a + k ≤ i) → paceM μ r a v k i = μ i
  | 0, _, _ => rfl
  | k + 1, i, h => by unfold paceM; rw [pk_un (by omega)]; exact paceM_off (by omega)
theorem paceM_at {μ : Fl} {r a : Nat} {v : Int32} : ∀ {k i : Nat}, 33 + 37 * r + 7 + a ≤ i → i < 33 + 37 * r + 7 + a + k → paceM μ r a v k i = v
  | 0, i, h, h2 => by omega
  | k + 1, i, h, h2 => by
    unfold paceM
    by_cases e : i = 33 + 37 * r + 7 + (a + k)
    · rw [e, pk_us]
    · rw [pk_un e]; exact paceM_at h (by omega)
def sPace (μ : Fl) (n : Nat) (r a b v : Int32) : An := if isR n r ∧ (0 ≤ a ∧ a ≤ 29) ∧ (0 ≤ b ∧ b ≤ 29) ∧ (¬ b < a) ∧ (1 ≤ v ∧ v ≤ 9) then .inr (paceC μ (cl r) (cl a) v (cl b + 1 - cl a), paceM μ (cl r) (cl a) v (cl b + 1 - cl a)) else .inl 0
def sPaceOf (μ : Fl) (n : Nat) (r y : Int32) : An := if isR n r ∧ (0 ≤ y ∧ y ≤ 29) then .inr (fl μ (cl r) (7 + cl y), μ) else .inl 0
def sTold (μ : Fl) (n : Nat) (r w p : Int32) : An := if isR n r ∧ (0 ≤ w ∧ w ≤ 1) ∧ (1 ≤ p ∧ p ≤ 9) then .inr (if w = 0 then sTakes (fl μ (cl r) 0) p else sRocks (fl μ (cl r) 0) p, μ) else .inl 0
def sOdds (μ : Fl) (n : Nat) (r y p s : Int32) : An := if isR n r ∧ (0 ≤ y ∧ y ≤ 29) ∧ (1 ≤ p ∧ p ≤ 9) ∧ (0 ≤ s ∧ s ≤ 1) then .inr (oddsM μ (cl r) (cl y) p (shk (s = 1)) 0, μ) else .inl 0
def sNow (μ : Fl) (n : Nat) (r : Int32) : An := if isR n r then (if fl μ (cl r) 3 = 30 then .inl 4 else .inr (oddsN μ n (cl r), μ)) else .inl 0
def sNerves (μ : Fl) (n : Nat) (r : Int32) : An := if isR n r then .inr (nrv μ (cl r) n, μ) else .inl 0
def sNext (μ : Fl) (n : Nat) : An := match nxt μ n with
  | none => .inl 3
  | some r => .inr (nI r, μ)
def sSteps (μ : Fl) (n : Nat) (k : Int32) : An := if 1 ≤ k ∧ k ≤ 180 then .inr (goD n μ (cl k), goM n μ (cl k)) else .inl 0
def sStart (μ : Fl) (n : Nat) : An := .inr (manyS (homeS μ n) 6, startM μ n)
/-- what ahead tells of the row behind the STEPS -/
def aheadV (ν : Fl) (n : Nat) (d : Int32) (w : Nat) : Int32 := if w = 0 then homeS ν n else if w = 1 then d else if w = 2 then oI (nxt ν n) else fl ν (w - 3) 4
def sAhead (μ : Fl) (n : Nat) (k w : Int32) : An := if (0 ≤ k ∧ k ≤ 180) ∧ (0 ≤ w ∧ w ≤ nI (2 + n)) then .inr (aheadV (goM n μ (cl k)) n (goD n μ (cl k)) (cl w), μ) else .inl 0
def sWinner (μ : Fl) (n : Nat) : An := match fst (goM n μ 180) n with
  | none => .inl 3
  | some r => .inr (nI r, μ)
def sPlace (μ : Fl) (n : Nat) (r : Int32) : An := if isR n r then .inr (placeS (goM n μ 180) (cl r) n, μ) else .inl 0
def sWins (μ : Fl) (n : Nat) (r k : Int32) : An := if isR n r ∧ (1 ≤ k ∧ k ≤ 10) then .inr (winsS n μ r (cl k), upd μ 1 (raceM n μ (cl k) 1)) else .inl 0
