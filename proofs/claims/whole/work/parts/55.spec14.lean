/-! the class's means -/
theorem mxsub {s : Nat} (hs : s < 4) : mxI 0 (nI s - 1) = nI (s - 1) := by
  match s, hs with
  | 0, _ => rfl
  | 1, _ => rfl
  | 2, _ => rfl
  | 3, _ => rfl
theorem dI_lt {a : Nat} (ha : a < 1000) : dI a < nI a := by
  cases a with
  | zero => decide
  | succ m => exact nI_lt (by omega) (by omega)
def RInv (b : Bool) (μ : Fl) (r e y : Nat) (f : Fl) : Prop := ∀ s, s < 4 → f s = mRow b μ r e y s
theorem RInv.first {b : Bool} {μ : Fl} {r e : Nat} {f : Fl} : RInv b μ r e e (filK f 0 0 4) := fun s hs => by
  rw [mRow_e]
  exact if_pos (by omega)
theorem RInv.back {b : Bool} {μ : Fl} {r e y : Nat} {f g : Fl} (h : RInv b μ r e y g) : RInv b μ r e y (cpyR g f (0 + 0) (0 + 0) 4) := fun s hs => by
  have e : cpyR g f (0 + 0) (0 + 0) 4 s = g (0 + 0 + (s - (0 + 0))) := if_pos (by omega)
  rw [e, show 0 + 0 + (s - (0 + 0)) = s by omega]
  exact h s hs
theorem RInv.bd {b : Bool} {μ : Fl} {r e y : Nat} {f : Fl} (h : RInv b μ r e y f) (hm : MOk μ r) (he : e ≤ 30) : ∀ q, q < 4 → ∃ v, v ≤ 3500000 ∧ f q = nI v := fun q hq => by
  obtain ⟨k, hk, ek⟩ := mRow_bd (b := b) (y := y) (s := q) hm he hq
  exact ⟨k, by omega, (h q hq).trans ek⟩
def HInv (b : Bool) (μ : Fl) (r e y s : Nat) (g : Fl) : Prop := ∀ q, q < s → g q = mRow b μ r e y q
theorem HInv.put {b : Bool} {μ : Fl} {r e y s : Nat} {g : Fl} {v : Int32} (h : HInv b μ r e y s g) (hv : v = mRow b μ r e y s) : HInv b μ r e y (s + 1) (upd g s v) := fun q hq => by
  by_cases e1 : q = s
  · subst e1; rw [pk_us]; exact hv
  · rw [pk_un e1]; exact h q (by omega)
theorem mRow_f {μ f : Fl} {r e y s p : Nat} (h : RInv false μ r e (y + 1) f) (hs : s < 4) (hy : y < e) (hp : fl μ r (7 + y) = nI p) : behS f μ r y s (nI p) = mRow false μ r e y s := by
  rw [behS_congr h hs, mRow_s hy, ← hp]
  rfl
theorem mRow_t {μ f : Fl} {r e y s : Nat} (h : RInv true μ r e (y + 1) f) (hs : s < 4) (hy : y < e) : behS f μ r y s (nI (bpS f μ r y s 9)) = mRow true μ r e y s := by
  rw [bpS_congr h hs, behS_congr h hs, mRow_s hy]
  rfl
theorem mPc_t {μ f : Fl} {r e y s : Nat} (h : RInv true μ r e (y + 1) f) (hs : s < 4) : nI (bpS f μ r y s 9) = mPc true μ r e y s := by
  rw [bpS_congr h hs]
  rfl
def CInv (μ : Fl) (r y : Nat) (h : Fl) : Prop := ∀ z, y ≤ z → z < 30 → ∀ q, q < 4 → h (4 * z + q) = mPc true μ r 30 z q
def CInv2 (μ : Fl) (r y s : Nat) (h : Fl) : Prop := CInv μ r (y + 1) h ∧ ∀ q, q < s → h (4 * y + q) = mPc true μ r 30 y q
theorem CInv2.put {μ : Fl} {r y s : Nat} {h : Fl} {v : Int32} (hh : CInv2 μ r y s h) (hs : s < 4) (hv : v = mPc true μ r 30 y s) : CInv2 μ r y (s + 1) (upd h (y * 4 + s) v) := by
  refine ⟨fun z h1 h2 q hq => ?_, fun q hq => ?_⟩
  · rw [pk_un (by omega)]; exact hh.1 z h1 h2 q hq
  · by_cases e : q = s
    · subst e; rw [show y * 4 + q = 4 * y + q by omega, pk_us]; exact hv
    · rw [pk_un (by omega)]; exact hh.2 q (by omega)
theorem CInv2.done {μ : Fl} {r y : Nat} {h : Fl} (hh : CInv2 μ r y 4 h) : CInv μ r y h := fun z h1 h2 q hq => by
  by_cases e : z = y
  · subst e; exact hh.2 q hq
  · exact hh.1 z (by omega) h2 q hq
/-- what means promise of the class: the answer; the rows behind and here are anything -/
def ApO (σ : St) (v : Int32) : RZ := fun w s => ∃ f g : Fl, w = some (.int v) ∧ s = setR (setR σ 5 f) 6 g
def AbO (σ : St) (μ : Fl) (r a : Nat) (v : Int32) : RZ := fun w s => ∃ f g h : Fl, CInv μ r a h ∧ w = some (.int v) ∧ s = setR (setR (setR σ 5 f) 6 g) 7 h
def lsq (f : Fl) (μ : Fl) (r y s : Nat) : Nat → Int32
  | 0 => 2147483647
  | q + 1 => behS f μ r y s (nI (bpS f μ r y s (q + 1)))
theorem max_gt {k : Nat} (h : k < 4000000) : nI k < 2147483647 := nI_lt (b := 2147483647) (by omega) (by omega)
theorem bpS_yes {f : Fl} {μ : Fl} {r y s q : Nat} (h : behS f μ r y s (nI (q + 1 + 1)) < behS f μ r y s (nI (bpS f μ r y s (q + 1)))) : bpS f μ r y s (q + 1 + 1) = q + 1 + 1 := by
  rw [bpS]; exact if_pos h
theorem bpS_not {f : Fl} {μ : Fl} {r y s q : Nat} (h : ¬ behS f μ r y s (nI (q + 1 + 1)) < behS f μ r y s (nI (bpS f μ r y s (q + 1)))) : bpS f μ r y s (q + 1 + 1) = bpS f μ r y s (q + 1) := by
  rw [bpS]; exact if_neg h
