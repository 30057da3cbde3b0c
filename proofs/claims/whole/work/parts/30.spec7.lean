/-! SPOTS, SHEETS, images, counts -/
def sHold (μ : Fl) (n : Nat) (s r : Int32) : An := if (0 ≤ s ∧ s ≤ 9) ∧ (r = -1 ∨ isR n r) then .inr (1, upd μ (255 + cl s) r) else .inl 0
abbrev asP (kd k : Int32) : Prop := kd = k ∨ k = 0 ∨ (k = 1 ∧ (kd = 4 ∨ kd = 5)) ∨ (k = 2 ∧ kd = 6)
def sAs (μ : Fl) (s k : Int32) : An := if (0 ≤ s ∧ s ≤ 9) ∧ (0 ≤ k ∧ k ≤ 6) then (if μ (255 + cl s) < 0 then .inl 5 else if asP (fl μ (cl (μ (255 + cl s))) 0) k then .inr (μ (255 + cl s), μ) else .inl 2) else .inl 0
/-- calls of SHEETS: a finding, or the answer, bits, sizes, numbers -/
abbrev SAn : Type := Nat ⊕ (Int32 × Fl × Fl × Fl)
def sanA : SAn → Int32
  | .inl i => lowI i
  | .inr q => q.1
def sanS (σ : St) : SAn → St
  | .inl i => setR σ 24 (upd (σ.1 24) i (σ.1 24 i + 1))
  | .inr q => setR (setR (setR σ 30 q.2.1) 31 q.2.2.1) 32 q.2.2.2
def PS (σ : St) (an : SAn) : RZ := fz (some (.int (sanA an))) (sanS σ an)
theorem ps_of {σ s : St} {an an' : SAn} {x : Int32} (h : an = an') (hv : x = sanA an') (hs : s = sanS σ an') : PS σ an (some (.int x)) s := by
  subst h; subst hv; subst hs
  exact ⟨rfl, rfl⟩
/-- the sheets that can stand -/
def ShOk (bt sz : Fl) : Prop := ∀ s, s < 4 → (bt s = 0 ∨ bt s = 8 ∨ bt s = 16 ∨ bt s = 32) ∧ ∃ z, z ≤ 40 ∧ sz s = nI z
def clr (nm : Fl) (s k : Nat) : Fl := fun i => if 40 * s ≤ i ∧ i < 40 * s + k then 0 else nm i
theorem clr_0 {nm : Fl} {s : Nat} : clr nm s 0 = nm := funext fun i => if_neg (by omega)
theorem clr_s {nm : Fl} {s k : Nat} : upd (clr nm s k) (40 * s + k) 0 = clr nm s (k + 1) := by
  funext i
  simp only [upd, clr]
  repeat' split
  all_goals first | rfl | (exfalso; omega)
abbrev bitP (b : Int32) : Prop := b = 0 ∨ b = 8 ∨ b = 16 ∨ b = 32
def szv (b n : Int32) : Int32 := if b = 0 then 0 else n
def sSheet (bt sz nm : Fl) (s b n : Int32) : SAn := if (0 ≤ s ∧ s ≤ 3) ∧ bitP b then (if n < 0 then .inl 6 else if 40 < n then .inl 0 else .inr (szv b n, upd bt (cl s) b, upd sz (cl s) (szv b n), clr nm (cl s) 40)) else .inl 0
def wv (b v : Int32) : Int32 := if b = 8 then v.toInt8.toInt32 else if b = 16 then v.toInt16.toInt32 else v
def sWrite (bt sz nm : Fl) (s i v : Int32) : SAn := if 0 ≤ s ∧ s ≤ 3 then (if bt (cl s) = 0 then .inl 5 else if 0 ≤ i ∧ i ≤ sz (cl s) - 1 then .inr (1, bt, sz, upd nm (40 * cl s + cl i) (wv (bt (cl s)) v)) else .inl 0) else .inl 0
theorem idx_nat {i x : Int32} {z : Nat} (hz : z ≤ 40) (e : x = nI z) (h : 0 ≤ i ∧ i ≤ x - 1) : ∃ k, i = nI k ∧ k < z := by
  subst e
  have e : (nI z - 1).toInt = (z : Int) - 1 := pk_sub_toInt (b := 1) (by omega) (by omega)
  have h1 := Int32.le_iff_toInt_le.mp h.1
  have h2 := Int32.le_iff_toInt_le.mp h.2
  rw [e] at h2
  obtain ⟨k, hk, rfl⟩ := nI_of (x := i) (Int32.not_lt.mpr h.1)
  rw [nI_toInt hk] at h2
  exact ⟨k, rfl, by omega⟩
/-- n numbers from S to T, as if all at once -/
def cpM (nm : Fl) (S T n : Nat) : Fl := fun i => if T ≤ i ∧ i < T + n then nm (S + (i - T)) else nm i
/-- the last k of n -/
def cpD (nm : Fl) (S T n k : Nat) : Fl := fun i => if T + (n - k) ≤ i ∧ i < T + n then nm (S + (i - T)) else nm i
theorem cpM_0 {nm : Fl} {S T : Nat} : cpM nm S T 0 = nm := funext fun i => if_neg (by omega)
theorem cpD_0 {nm : Fl} {S T n : Nat} : cpD nm S T n 0 = nm := funext fun i => if_neg (by omega)
theorem cpD_n {nm : Fl} {S T n : Nat} : cpD nm S T n n = cpM nm S T n := by
  funext i
  simp only [cpD, cpM, Nat.sub_self, Nat.add_zero]
theorem cpM_s {nm : Fl} {S T k : Nat} (h : T ≤ S ∨ S + k < T ∨ T + k ≤ S) : upd (cpM nm S T k) (T + k) (cpM nm S T k (S + k)) = cpM nm S T (k + 1) := by
  have e : cpM nm S T k (S + k) = nm (S + k) := if_neg (by omega)
  rw [e]
  funext i
  simp only [upd, cpM]
  by_cases q : i = T + k
  · rw [if_pos q, if_pos (by omega), q, show T + k - T = k by omega]
  · rw [if_neg q]
    by_cases q2 : T ≤ i ∧ i < T + k
    · rw [if_pos q2, if_pos (by omega)]
    · rw [if_neg q2, if_neg (by omega)]
theorem cpD_s {nm : Fl} {S T n k : Nat} (hk : k < n) (h : S < T) : upd (cpD nm S T n k) (T + (n - 1 - k)) (cpD nm S T n k (S + (n - 1 - k))) = cpD nm S T n (k + 1) := by
  have e : cpD nm S T n k (S + (n - 1 - k)) = nm (S + (n - 1 - k)) := if_neg (by omega)
  rw [e]
  funext i
  simp only [upd, cpD]
  by_cases q : i = T + (n - 1 - k)
  · rw [if_pos q, if_pos (by omega), q, show T + (n - 1 - k) - T = n - 1 - k by omega]
  · rw [if_neg q]
    by_cases q2 : T + (n - k) ≤ i ∧ i < T + n
    · rw [if_pos q2, if_pos (by omega)]
    · rw [if_neg q2, if_neg (by omega)]
theorem sub40 {z f : Nat} (hz : z ≤ 40) (hf : f < 2147483648) : (nI z - nI f).toInt = (z : Int) - f := by
  rw [Int32.toInt_sub, nI_toInt (by omega), nI_toInt hf]
  exact Int.bmod_eq_of_le (by omega) (by omega)
abbrev cpP (z : Int32) (f n : Int32) : Prop := ¬ z - f < n
theorem cp_nat {z f n : Nat} (hz : z ≤ 40) (hf : f < 2147483648) (hn : n < 2147483648) : cpP (nI z) (nI f) (nI n) ↔ f + n ≤ z := by
  unfold cpP
  rw [Int32.lt_iff_toInt_lt, sub40 hz hf, nI_toInt hn]
  omega
def sCopy (bt sz nm : Fl) (s f t o n : Int32) : SAn := if (0 ≤ s ∧ s ≤ 3) ∧ (0 ≤ t ∧ t ≤ 3) then (if bt (cl s) = 0 ∨ bt (cl t) = 0 then .inl 5 else if bt (cl s) = bt (cl t) then (if ¬ n < 0 ∧ ¬ f < 0 ∧ ¬ o < 0 ∧ cpP (sz (cl s)) f n ∧ cpP (sz (cl t)) o n then .inr (n, bt, sz, cpM nm (40 * cl s + cl f) (40 * cl t + cl o) (cl n)) else .inl 0) else .inl 2) else .inl 0
/-- how many PACES are loaded -/
abbrev ldG (f : Nat → Int32) (z k : Nat) : Prop := k < z ∧ k < 30 ∧ (1 ≤ f k ∧ f k ≤ 9)
def ldC (f : Nat → Int32) (z : Nat) : Nat → Nat → Nat
  | 0, k => k
  | d + 1, k => if ldG f z k then ldC f z d (k + 1) else k
theorem ldC_y {f : Nat → Int32} {z d k : Nat} (h : ldG f z k) : ldC f z (d + 1) k = ldC f z d (k + 1) := if_pos h
theorem ldC_n {f : Nat → Int32} {z d k : Nat} (h : ¬ ldG f z k) : ldC f z (d + 1) k = k := if_neg h
/-- the first k PACES of r out of f -/
def ldM (μ : Fl) (r : Nat) (f : Nat → Int32) (k : Nat) : Fl := fun i => if 33 + 37 * r + 7 ≤ i ∧ i < 33 + 37 * r + 7 + k then f (i - (33 + 37 * r + 7)) else μ i
theorem ldM_0 {μ : Fl} {r : Nat} {f : Nat → Int32} : ldM μ r f 0 = μ := funext fun i => if_neg (by omega)
theorem ldM_s {μ : Fl} {r k : Nat} {f : Nat → Int32} : upd (ldM μ r f k) (33 + 37 * r + (7 + k)) (f k) = ldM μ r f (k + 1) := by
  funext i
  simp only [upd, ldM]
  by_cases q : i = 33 + 37 * r + (7 + k)
  · rw [if_pos q, if_pos (by omega), q, show 33 + 37 * r + (7 + k) - (33 + 37 * r + 7) = k by omega]
  · rw [if_neg q]
    by_cases q2 : 33 + 37 * r + 7 ≤ i ∧ i < 33 + 37 * r + 7 + k
    · rw [if_pos q2, if_pos (by omega)]
    · rw [if_neg q2, if_neg (by omega)]
def sLoad (μ : Fl) (n : Nat) (bt sz nm : Fl) (s r : Int32) : An := if 0 ≤ s ∧ s ≤ 3 then (if bt (cl s) = 0 then .inl 5 else if isR n r then .inr (nI (ldC (fun k => nm (40 * cl s + k)) (cl (sz (cl s))) 40 0), ldM μ (cl r) (fun k => nm (40 * cl s + k)) (ldC (fun k => nm (40 * cl s + k)) (cl (sz (cl s))) 40 0)) else .inl 0) else .inl 0
/-- how many STEPS the film has right -/
abbrev jdG (n : Nat) (μ : Fl) (f : Nat → Int32) (z k : Nat) : Prop := k < z ∧ ¬ nxt (goM n μ k) n = none ∧ f k = oI (nxt (goM n μ k) n)
def jdC (n : Nat) (μ : Fl) (f : Nat → Int32) (z : Nat) : Nat → Nat → Nat
  | 0, k => k
  | d + 1, k => if jdG n μ f z k then jdC n μ f z d (k + 1) else k
theorem jdC_y {n : Nat} {μ : Fl} {f : Nat → Int32} {z d k : Nat} (h : jdG n μ f z k) : jdC n μ f z (d + 1) k = jdC n μ f z d (k + 1) := if_pos h
theorem jdC_n {n : Nat} {μ : Fl} {f : Nat → Int32} {z d k : Nat} (h : ¬ jdG n μ f z k) : jdC n μ f z (d + 1) k = k := if_neg h
def jdA (N z : Nat) : Int32 := if N = z then 0 else nI (1 + N)
def sJudge (μ : Fl) (n : Nat) (bt sz nm : Fl) (s : Int32) : An := if 0 ≤ s ∧ s ≤ 3 then (if bt (cl s) = 0 then .inl 5 else .inr (jdA (jdC n μ (fun k => nm (40 * cl s + k)) (cl (sz (cl s))) 40 0) (cl (sz (cl s))), μ)) else .inl 0
def adS (μ : Fl) : Nat → Int32
  | 0 => 0
  | k + 1 => adS μ k + fl μ k 6
def hgS (μ : Fl) : Nat → Int32
  | 0 => 0
  | k + 1 => hgS μ k + (if μ (255 + k) < 0 then 0 else 1)
def sCount (μ : Fl) (n t : Nat) (w : Int32) : An := if w = 0 then .inr (nI n, μ) else if w = 1 then .inr (manyS (homeS μ n) 6, μ) else if w = 2 then .inr (adS μ n, μ) else if w = 3 then .inr (grS μ 30, μ) else if w = 4 then .inr (μ 0, μ) else if w = 5 then .inr (nI t, μ) else if w = 6 then .inr (μ 1, μ) else if w = 7 then .inr (hgS μ 10, μ) else .inl 0
def stS (φ : Fl) (w : Int32) : Nat → Int32
  | 0 => 0
  | k + 1 => stS φ w k + (if w < 0 ∨ w = nI k then φ k else 0)
def sStatus (μ φ : Fl) (w : Int32) : An := if -1 ≤ w ∧ w ≤ 6 then .inr (stS φ w 7, μ) else .inl 0
/-- images: the row kept, and whether one is -/
def sTear (k : Int32) : Int32 := if k = 0 then 0 else 1
