/-! MEAN and LEAST -/
def behS (f : Nat → Int32) (μ : Fl) (r y s : Nat) (p : Int32) : Int32 := 1000 * sTakes (fl μ r 0) p + ((24 - oddsM μ r y p (shk (0 < s)) 0) * f (s - 1) + oddsM μ r y p (shk (0 < s)) 0 * (1000 * μ 0 + f 3)) / 24
theorem behS_congr {f g : Nat → Int32} {μ : Fl} {r y s : Nat} {p : Int32} (h : ∀ j, j < 4 → f j = g j) (hs : s < 4) : behS f μ r y s p = behS g μ r y s p := by
  unfold behS
  rw [h (s - 1) (by omega), h 3 (by omega)]
/-- the best PACE of 1 .. q -/
def bpS (f : Nat → Int32) (μ : Fl) (r y s : Nat) : Nat → Nat
  | 0 => 1
  | 1 => 1
  | q + 2 => if behS f μ r y s (nI (q + 2)) < behS f μ r y s (nI (bpS f μ r y s (q + 1))) then q + 2 else bpS f μ r y s (q + 1)
theorem bpS_rg {f : Nat → Int32} {μ : Fl} {r y s : Nat} : ∀ {q : Nat}, 1 ≤ bpS f μ r y s q ∧ bpS f μ r y s q ≤ q + 1
  | 0 => ⟨by unfold bpS; omega, by unfold bpS; omega⟩
  | 1 => ⟨by unfold bpS; omega, by unfold bpS; omega⟩
  | q + 2 => by
    have := bpS_rg (f := f) (μ := μ) (r := r) (y := y) (s := s) (q := q + 1)
    unfold bpS
    split
    · omega
    · omega
theorem bpS_le {f : Nat → Int32} {μ : Fl} {r y s : Nat} : ∀ {q : Nat}, 1 ≤ q → bpS f μ r y s q ≤ q
  | 0, h => by omega
  | 1, _ => by unfold bpS; omega
  | q + 2, _ => by
    have := bpS_le (f := f) (μ := μ) (r := r) (y := y) (s := s) (q := q + 1) (by omega)
    unfold bpS
    split
    · omega
    · omega
theorem bpS_congr {f g : Nat → Int32} {μ : Fl} {r y s : Nat} (h : ∀ j, j < 4 → f j = g j) (hs : s < 4) : ∀ q, bpS f μ r y s q = bpS g μ r y s q
  | 0 => by rw [bpS, bpS]
  | 1 => by rw [bpS, bpS]
  | q + 2 => by
    rw [bpS, bpS, bpS_congr h hs (q + 1), behS_congr h hs, behS_congr h hs]
/-- the PACE of the plan: the best one, or his own -/
def mpc (b : Bool) (f : Nat → Int32) (μ : Fl) (r y s : Nat) : Int32 := if b = true then nI (bpS f μ r y s 9) else fl μ r (7 + y)
def mrow (b : Bool) (μ : Fl) (r e : Nat) : Nat → Nat → Int32
  | 0, _ => 0
  | d + 1, s => behS (mrow b μ r e d) μ r (e - (d + 1)) s (mpc b (mrow b μ r e d) μ r (e - (d + 1)) s)
/-- MEAN (or LEAST) from y on, shaken s, as if e were HOME; the PACE there -/
def mRow (b : Bool) (μ : Fl) (r e y s : Nat) : Int32 := mrow b μ r e (e - y) s
def mPc (b : Bool) (μ : Fl) (r e y s : Nat) : Int32 := mpc b (mRow b μ r e (y + 1)) μ r y s
theorem mRow_e {b : Bool} {μ : Fl} {r e s : Nat} : mRow b μ r e e s = 0 := by
  unfold mRow
  rw [Nat.sub_self]
  rfl
theorem mRow_s {b : Bool} {μ : Fl} {r e y s : Nat} (h : y < e) : mRow b μ r e y s = behS (mRow b μ r e (y + 1)) μ r y s (mPc b μ r e y s) := by
  unfold mPc mRow
  rw [show e - y = (e - (y + 1)) + 1 by omega, mrow, show e - (e - (y + 1) + 1) = y by omega]
def meanS (μ : Fl) (r : Nat) : Int32 := mRow false μ r 30 0 0
/-- the rows of means from m on stand -/
def MInv (b : Bool) (μ : Fl) (r e m : Nat) (f g : Fl) : Prop := (∀ y, m ≤ y → y ≤ e → ∀ j, j < 4 → f (4 * y + j) = mRow b μ r e y j) ∧ ∀ y, m ≤ y → y < e → ∀ j, j < 4 → g (4 * y + j) = mPc b μ r e y j
def MInv2 (b : Bool) (μ : Fl) (r e m s : Nat) (f g : Fl) : Prop := MInv b μ r e (m + 1) f g ∧ ∀ j, j < s → f (4 * m + j) = mRow b μ r e m j ∧ g (4 * m + j) = mPc b μ r e m j
theorem MInv2.beg {b : Bool} {μ : Fl} {r e m : Nat} {f g : Fl} (h : MInv b μ r e (m + 1) f g) : MInv2 b μ r e m 0 f g := ⟨h, fun j hj => by omega⟩
theorem MInv2.done {b : Bool} {μ : Fl} {r e m : Nat} {f g : Fl} (h : MInv2 b μ r e m 4 f g) : MInv b μ r e m f g := by
  refine ⟨fun y h1 h2 j hj => ?_, fun y h1 h2 j hj => ?_⟩
  · by_cases e1 : y = m
    · subst e1; exact (h.2 j hj).1
    · exact h.1.1 y (by omega) h2 j hj
  · by_cases e1 : y = m
    · subst e1; exact (h.2 j hj).2
    · exact h.1.2 y (by omega) h2 j hj
theorem MInv2.put {b : Bool} {μ : Fl} {r e m s : Nat} {f g : Fl} (h : MInv2 b μ r e m s f g) (hs : s < 4) {v w : Int32} (hv : v = mRow b μ r e m s) (hw : w = mPc b μ r e m s) : MInv2 b μ r e m (s + 1) (upd f (4 * m + s) v) (upd g (4 * m + s) w) := by
  refine ⟨⟨fun y h1 h2 j hj => ?_, fun y h1 h2 j hj => ?_⟩, fun j hj => ?_⟩
  · rw [pk_un (by omega)]; exact h.1.1 y h1 h2 j hj
  · rw [pk_un (by omega)]; exact h.1.2 y h1 h2 j hj
  · by_cases e1 : j = s
    · subst e1; rw [pk_us, pk_us]; exact ⟨hv, hw⟩
    · rw [pk_un (by omega), pk_un (by omega)]; exact h.2 j (by omega)
theorem MInv.first {b : Bool} {μ : Fl} {r e : Nat} {f g : Fl} : MInv b μ r e e (upd (upd (upd (upd f (4 * e + 0) 0) (4 * e + 1) 0) (4 * e + 2) 0) (4 * e + 3) 0) g := by
  refine ⟨fun y h1 h2 j hj => ?_, fun y h1 h2 j hj => by omega⟩
  obtain rfl : y = e := by omega
  rw [mRow_e]
  rcases (show j = 0 ∨ j = 1 ∨ j = 2 ∨ j = 3 by omega) with rfl | rfl | rfl | rfl
  · rw [pk_un (by omega), pk_un (by omega), pk_un (by omega), pk_us]
  · rw [pk_un (by omega), pk_un (by omega), pk_us]
  · rw [pk_un (by omega), pk_us]
  · rw [pk_us]
theorem MInv.row {b : Bool} {μ : Fl} {r e m : Nat} {f g : Fl} (h : MInv b μ r e (m + 1) f g) (hm : m < e) : ∀ j, j < 4 → f (4 * (m + 1) + j) = mRow b μ r e (m + 1) j := fun j hj => h.1 (m + 1) (by omega) (by omega) j hj
/-- what means promises -/
def MeanZ (b : Bool) (σ : St) (r e : Nat) : RZ := fun w s => ∃ f g : Fl, MInv b (σ.1 20) r e 0 f g ∧ w = none ∧ s = setR (setR σ 25 f) 26 g
def MeanO (σ : St) (r : Nat) : RZ := fun w s => ∃ f g : Fl, w = some (.int (meanS (σ.1 20) r)) ∧ s = setR (setR σ 25 f) 26 g
/-- the PACE while the paces are gone through: behind q of them -/
def pcq (f : Nat → Int32) (μ : Fl) (r y s : Nat) (v : Int32) : Nat → Int32
  | 0 => v
  | q + 1 => nI (bpS f μ r y s (q + 1))
theorem pcq_less {f : Nat → Int32} {μ : Fl} {r y s q : Nat} {v : Int32} (h : behS f μ r y s (nI (q + 1 + 1)) < behS f μ r y s (pcq f μ r y s v (q + 1))) : pcq f μ r y s v (q + 1 + 1) = nI (q + 1 + 1) := by
  have h' : behS f μ r y s (nI (q + 2)) < behS f μ r y s (nI (bpS f μ r y s (q + 1))) := h
  show nI (bpS f μ r y s (q + 2)) = nI (q + 2)
  rw [bpS, if_pos h']
theorem pcq_more {f : Nat → Int32} {μ : Fl} {r y s q : Nat} {v : Int32} (h : ¬ behS f μ r y s (nI (q + 1 + 1)) < behS f μ r y s (pcq f μ r y s v (q + 1))) : pcq f μ r y s v (q + 1 + 1) = pcq f μ r y s v (q + 1) := by
  have h' : ¬ behS f μ r y s (nI (q + 2)) < behS f μ r y s (nI (bpS f μ r y s (q + 1))) := h
  show nI (bpS f μ r y s (q + 2)) = nI (bpS f μ r y s (q + 1))
  rw [bpS, if_neg h']
abbrev meanP (n : Nat) (r y s m : Int32) : Prop := isR n r ∧ (0 ≤ y ∧ y ≤ m) ∧ (0 ≤ s ∧ s ≤ 3)
def sMean (μ : Fl) (n : Nat) (r y s : Int32) : An := if meanP n r y s 30 then .inr (mRow false μ (cl r) 30 (cl y) (cl s), μ) else .inl 0
def sLeast (μ : Fl) (n : Nat) (r y s : Int32) : An := if meanP n r y s 30 then .inr (mRow true μ (cl r) 30 (cl y) (cl s), μ) else .inl 0
def sBest (μ : Fl) (n : Nat) (r y s : Int32) : An := if meanP n r y s 29 then .inr (mPc true μ (cl r) 30 (cl y) (cl s), μ) else .inl 0
def trainM (μ : Fl) (r : Nat) : Nat → Fl
  | 0 => μ
  | k + 1 => upd (trainM μ r k) (33 + 37 * r + 7 + k) (mPc true μ r 30 k 0)
def trainC (μ : Fl) (r : Nat) : Nat → Int32
  | 0 => 0
  | k + 1 => trainC μ r k + (if μ (33 + 37 * r + 7 + k) = mPc true μ r 30 k 0 then 0 else 1)
theorem trainM_off {μ : Fl} {r : Nat} : ∀ {k i : Nat}, (i < 33 + 37 * r + 7 ∨ 33 + 37 * r + 7 + k ≤ i) → trainM μ r k i = μ i
  | 0, _, _ => rfl
  | k + 1, i, h => by unfold trainM; rw [pk_un (by omega)]; exact trainM_off (by omega)
theorem trainM_at {μ : Fl} {r : Nat} : ∀ {k j : Nat}, j < k → trainM μ r k (33 + 37 * r + 7 + j) = mPc true μ r 30 j 0
  | 0, j, h => by omega
  | k + 1, j, h => by
    unfold trainM
    by_cases e : j = k
    · subst e; rw [pk_us]
    · rw [pk_un (by omega)]; exact trainM_at (by omega)
def sTrain (μ : Fl) (n : Nat) (r : Int32) : An := if isR n r then .inr (trainC μ (cl r) 30, trainM μ (cl r) 30) else .inl 0
/-- the first of the least, of the first k -/
def amin (v : Nat → Int32) : Nat → Option Nat
  | 0 => none
  | k + 1 => match amin v k with
    | none => some k
    | some b => if v k < v b then some k else some b
theorem amin_none {v : Nat → Int32} {k : Nat} (h : amin v k = none) : amin v (k + 1) = some k := by simp only [amin, h]
theorem amin_less {v : Nat → Int32} {k b : Nat} (h : amin v k = some b) (q : v k < v b) : amin v (k + 1) = some k := by simp only [amin, h, if_pos q]
theorem amin_more {v : Nat → Int32} {k b : Nat} (h : amin v k = some b) (q : ¬ v k < v b) : amin v (k + 1) = some b := by simp only [amin, h, if_neg q]
theorem amin_lt {v : Nat → Int32} : ∀ {k b : Nat}, amin v k = some b → b < k
  | 0, b, h => by cases h
  | k + 1, b, h => by
    cases hb : amin v k with
    | none => rw [amin_none hb] at h; cases h; omega
    | some q =>
      have := amin_lt hb
      by_cases ht : v k < v q
      · rw [amin_less hb ht] at h; cases h; omega
      · rw [amin_more hb ht] at h; cases h; omega
theorem amin_some {v : Nat → Int32} {k : Nat} (h : 0 < k) : ∃ b, amin v k = some b := by
  cases k with
  | zero => omega
  | succ k =>
    cases hb : amin v k with
    | none => exact ⟨_, amin_none hb⟩
    | some q =>
      by_cases ht : v k < v q
      · exact ⟨_, amin_less hb ht⟩
      · exact ⟨_, amin_more hb ht⟩
theorem amin_congr {v w : Nat → Int32} : ∀ {k : Nat}, (∀ i, i < k → v i = w i) → amin v k = amin w k
  | 0, _ => rfl
  | k + 1, h => by
    have ih := amin_congr (v := v) (w := w) (k := k) (fun i hi => h i (by omega))
    cases hb : amin w k with
    | none => rw [amin_none hb, amin_none (ih.trans hb)]
    | some q =>
      have hq := amin_lt hb
      by_cases ht : w k < w q
      · rw [amin_less hb ht, amin_less (ih.trans hb) (by rw [h k (by omega), h q (by omega)]; exact ht)]
      · rw [amin_more hb ht, amin_more (ih.trans hb) (by rw [h k (by omega), h q (by omega)]; exact ht)]
def lsv (v : Nat → Int32) : Option Nat → Int32
  | none => 0
  | some b => v b
def eP : Option Nat → Int32
  | none => 0
  | some b => nI (b + 1)
/-- all PACES of r become p: the first k of them -/
def evK (ν : Fl) (r : Nat) (p : Int32) (k : Nat) : Fl := fun i => if 33 + 37 * r + 7 ≤ i ∧ i < 33 + 37 * r + 7 + k then p else ν i
def evN (μ : Fl) (r : Nat) : Nat → Fl
  | 0 => μ
  | q + 1 => evK μ r (nI (q + 1)) 30
theorem evK_0 {ν : Fl} {r : Nat} {p : Int32} : evK ν r p 0 = ν := funext fun i => if_neg (by omega)
theorem evK_s {ν : Fl} {r k : Nat} {p : Int32} : upd (evK ν r p k) (33 + 37 * r + (7 + k)) p = evK ν r p (k + 1) := by
  funext i
  simp only [upd, evK]
  repeat' split
  all_goals first | rfl | (exfalso; omega)
theorem evK_evN {μ : Fl} {r q : Nat} {p : Int32} : evK (evN μ r q) r p 30 = evK μ r p 30 := by
  cases q with
  | zero => rfl
  | succ q =>
    funext i
    simp only [evN, evK]
    repeat' split
    all_goals first | rfl | (exfalso; omega)
def evV (μ : Fl) (r k : Nat) : Int32 := meanS (evK μ r (nI (k + 1)) 30) r
def sEven (μ : Fl) (n : Nat) (r : Int32) : An := if isR n r then .inr (eP (amin (evV μ (cl r)) 9), μ) else .inl 0
def sCosts (μ : Fl) (n : Nat) (r y : Int32) : An := if isR n r ∧ (0 ≤ y ∧ y ≤ 29) then .inr (1000 * μ 0 + mRow false μ (cl r) 30 (cl y + 1) 3 - mRow false μ (cl r) 30 (cl y + 1) 0, μ) else .inl 0
def wrV (μ : Fl) (r k : Nat) : Int32 := meanS (upd μ (3 + k) 0) r
def sWorst (μ : Fl) (n : Nat) (r : Int32) : An := if isR n r then .inr (oI (amin (wrV μ (cl r)) 30), μ) else .inl 0
theorem upd_back (f : Fl) (i : Nat) (x : Int32) : upd (upd f i x) i (f i) = f := by
  funext k
  simp only [upd]
  by_cases h : k = i
  · rw [if_pos h, h]
  · rw [if_neg h, if_neg h]
theorem upd_twice (f : Fl) (i : Nat) (x y : Int32) : upd (upd f i x) i y = upd f i y := by
  funext k
  simp only [upd]
  by_cases h : k = i
  · rw [if_pos h, if_pos h]
  · rw [if_neg h, if_neg h, if_neg h]
theorem upd_same (f : Fl) (i : Nat) : upd f i (f i) = f := by
  funext k
  simp only [upd]
  by_cases h : k = i
  · rw [if_pos h, h]
  · rw [if_neg h]
/-- the row in which place i is gone through 0, 1 .. -/
def spN (μ : Fl) (i : Nat) : Nat → Fl
  | 0 => μ
  | k + 1 => upd μ i (nI k)
theorem spN_upd {μ : Fl} {i k : Nat} {x : Int32} : upd (spN μ i k) i x = upd μ i x := by
  cases k with
  | zero => rfl
  | succ k => exact upd_twice _ _ _ _
def spV (μ : Fl) (r k : Nat) : Int32 := meanS (upd μ (33 + 37 * r + 2) (nI k)) r + nI (15000 * k)
def sSpoon (μ : Fl) (n : Nat) (r : Int32) : An := if isR n r then .inr (oI (amin (spV μ (cl r)) 6), μ) else .inl 0
/-- the least arm that will do, of the last d -/
def arD (μ : Fl) (r : Nat) (v : Int32) : Nat → Option Nat
  | 0 => none
  | d + 1 => if v < meanS (upd μ (33 + 37 * r + 1) (nI (9 - d))) r then arD μ r v d else some (9 - d)
theorem arD_step {μ : Fl} {r m : Nat} {v : Int32} (h : m < 10) : arD μ r v (10 - m) = if v < meanS (upd μ (33 + 37 * r + 1) (nI m)) r then arD μ r v (10 - (m + 1)) else some m := by
  rw [show 10 - m = (10 - (m + 1)) + 1 by omega, arD, show 9 - (10 - (m + 1)) = m by omega]
theorem arD_lt {μ : Fl} {r b : Nat} {v : Int32} : ∀ {d : Nat}, arD μ r v d = some b → b < 10
  | 0, h => by cases h
  | d + 1, h => by
    rw [arD] at h
    split at h
    · exact arD_lt h
    · cases h; omega
def sArmFor (μ : Fl) (n : Nat) (r v : Int32) : An := if isR n r ∧ (0 ≤ v ∧ v ≤ 9999999) then (match arD μ (cl r) v 10 with
  | none => .inl 3
  | some a => .inr (nI a, μ)) else .inl 0
def latS (μ : Fl) : Nat → Int32
  | 0 => 0
  | k + 1 => if latS μ k < meanS μ k then meanS μ k else latS μ k
def sLater (μ : Fl) (n : Nat) (r : Int32) : An := if isR n r then .inr ((latS μ n - meanS μ (cl r)) / 1000, μ) else .inl 0
