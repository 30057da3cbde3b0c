/-! the class's reckonings are the specs' -/
theorem add0 (x : Int32) : x + 0 = x := by simp
theorem sub_add_c (a b p : Int32) : a - p + b = a + b - p := by
  simp only [Int32.sub_eq_add_neg]
  rw [Int32.add_assoc, Int32.add_comm (-p) b, ← Int32.add_assoc]
theorem takesC {k : Nat} (hk : k < 7) (p : Int32) : 12 - p + tabS 3 k = sTakes (nI k) p := by
  rw [sub_add_c]
  match k, hk with
  | 0, _ => rfl
  | 1, _ => rfl
  | 2, _ => rfl
  | 3, _ => rfl
  | 4, _ => rfl
  | 5, _ => rfl
  | 6, _ => rfl
theorem rocksC : ∀ k, k < 7 → ∀ p, p < 10 → 1 ≤ p → ¬ (k = 4 ∧ p = 6) → tabS 0 p + tabS 4 k = sRocks (nI k) (nI p) := by decide +kernel
theorem rocksD : sRocks 4 6 = 2 := by decide +kernel
theorem hurtsC : ∀ k, k < 7 → ∀ g, g < 5 → tabS 1 g * tabS 5 k = sHurts (nI k) (nI g) := by decide +kernel
theorem holdsC {k : Nat} (hk : k < 7) (a s : Int32) : a / 2 + s + tabS 6 k = sHolds (nI k) a s := by
  match k, hk with
  | 0, _ => exact add0 _
  | 1, _ => rfl
  | 2, _ => rfl
  | 3, _ => exact add0 _
  | 4, _ => rfl
  | 5, _ => rfl
  | 6, _ => rfl
theorem clipC (v : Int32) : mxI 0 (mnI 23 v) = sClip v := by
  have t0 : (0 : Int32).toInt = 0 := rfl
  have t23 : (23 : Int32).toInt = 23 := rfl
  unfold mxI mnI sClip
  by_cases h1 : v < 0
  · have h2 : v < 23 := by rw [Int32.lt_iff_toInt_lt] at h1 ⊢; omega
    rw [if_pos h1, if_pos h2, if_neg (fun z => by rw [Int32.lt_iff_toInt_lt] at h1 z; omega)]
  · rw [if_neg h1]
    by_cases h3 : 23 < v
    · have e : (if v < 23 then v else 23) = 23 := if_neg (fun z => by rw [Int32.lt_iff_toInt_lt] at h3 z; omega)
      rw [if_pos h3, e]
      rfl
    · rw [if_neg h3]
      have e : (if v < 23 then v else 23) = v := by
        by_cases h4 : v < 23
        · rw [if_pos h4]
        · rw [if_neg h4]
          apply Int32.toInt_inj.mp
          rw [Int32.lt_iff_toInt_lt] at h3 h4
          omega
      rw [e]
      by_cases h5 : 0 < v
      · rw [if_pos h5]
      · rw [if_neg h5]
        apply Int32.toInt_inj.mp
        rw [Int32.lt_iff_toInt_lt] at h1 h5
        omega
theorem homeC {v : Int32} {y : Nat} (h : v = nI y) (hy : y ≤ 30) : ¬ v < 30 ↔ v = 30 := by
  subst h
  have e1 : nI y < 30 ↔ y < 30 := nI_ltI (b := 30) (by omega) (by omega)
  have e2 : nI y = 30 ↔ y = 30 := nI_eq (b := 30) (by omega) (by omega)
  rw [e1, e2]
  omega
theorem absC {a b : Nat} (ha : a ≤ 30) (hb : b ≤ 30) : ¬ 1 < abI (nI a - nI b) ↔ (-1 ≤ nI a - nI b ∧ nI a - nI b ≤ 1) := by
  have e : (nI a - nI b).toInt = (a : Int) - b := pk_sub_toInt (by omega) (by omega)
  have t0 : (0 : Int32).toInt = 0 := rfl
  have t1 : (1 : Int32).toInt = 1 := rfl
  have t2 : (-1 : Int32).toInt = -1 := rfl
  unfold abI
  by_cases h : 0 ≤ nI a - nI b
  · rw [if_pos h]
    rw [Int32.le_iff_toInt_le] at h
    rw [Int32.lt_iff_toInt_lt, Int32.le_iff_toInt_le, Int32.le_iff_toInt_le]
    omega
  · rw [if_neg h]
    have e2 : (0 - (nI a - nI b)).toInt = (b : Int) - a := by
      rw [Int32.toInt_sub, e, t0]
      rw [Int.bmod_eq_of_le (by omega) (by omega)]
      omega
    rw [Int32.le_iff_toInt_le] at h
    rw [Int32.lt_iff_toInt_lt, Int32.le_iff_toInt_le, Int32.le_iff_toInt_le]
    omega
theorem shakC {s : Nat} (hs : s ≤ 3) : mxI 0 (nI s - 1) = (if 0 < nI s then nI s - 1 else 0) := by
  match s, hs with
  | 0, _ => rfl
  | 1, _ => rfl
  | 2, _ => rfl
  | 3, _ => rfl
def rstR (μ : Fl) (i : Nat) : Fl := upd (upd (upd (upd μ (33 + 37 * i + 3) 0) (33 + 37 * i + 4) 0) (33 + 37 * i + 5) 0) (33 + 37 * i + 6) 0
def bnR (μ : Fl) (i : Nat) (k a s : Int32) : Fl := fun z => if 33 + 37 * i ≤ z ∧ z < 70 + 37 * i then (if z = 33 + 37 * i then k else if z = 34 + 37 * i then a else if z = 35 + 37 * i then s else if z < 40 + 37 * i then 0 else 4) else μ z
theorem bnR_of {μ : Fl} {i : Nat} {k a s : Int32} : rstR (upd (upd (upd (filK μ (33 + 37 * i + 7) 4 30) (33 + 37 * i + 0) k) (33 + 37 * i + 1) a) (33 + 37 * i + 2) s) i = bnR μ i k a s := by
  funext z
  simp only [rstR, upd, filK, bnR]
  repeat' split
  all_goals first | rfl | (exfalso; omega)
/-- the RUNNER i out of another row -/
def rbR (μ ν : Fl) (i : Nat) : Fl := fun z => if 33 + 37 * i ≤ z ∧ z < 70 + 37 * i then ν z else μ z
theorem rbR_of {μ ν : Fl} {i : Nat} : upd (upd (upd (upd (upd (upd (upd (cpyR ν μ (0 + (33 + 37 * i + 7)) (0 + (33 + 37 * i + 7)) 30) (33 + 37 * i + 0) (ν (33 + 37 * i + 0))) (33 + 37 * i + 1) (ν (33 + 37 * i + 1))) (33 + 37 * i + 2) (ν (33 + 37 * i + 2))) (33 + 37 * i + 3) (ν (33 + 37 * i + 3))) (33 + 37 * i + 4) (ν (33 + 37 * i + 4))) (33 + 37 * i + 5) (ν (33 + 37 * i + 5))) (33 + 37 * i + 6) (ν (33 + 37 * i + 6)) = rbR μ ν i := by
  funext z
  simp only [upd, cpyR, rbR]
  repeat' split
  all_goals first | rfl | (exfalso; omega) | (exact congrArg ν (by omega)) | (subst_vars; rfl)
/-- field, SPOTS and the first m RUNNERS out of another row -/
def bcK (μ ν : Fl) (m : Nat) : Fl := fun z => if (3 ≤ z ∧ z < 33 + 37 * m) ∨ (255 ≤ z ∧ z < 265) then ν z else μ z
def bcm (μ ν : Fl) (m : Nat) : Fl := fun z => if z < 33 + 37 * m ∨ (255 ≤ z ∧ z < 265) then ν z else μ z
theorem bcK_0 {μ ν : Fl} : cpyR ν (cpyR ν μ (0 + 3) (0 + 3) 30) (0 + 255) (0 + 255) 10 = bcK μ ν 0 := by
  funext z
  simp only [cpyR, bcK]
  repeat' split
  all_goals first | with_reducible rfl | (exfalso; omega) | (exact congrArg ν (by omega))
theorem bcK_s {μ ν : Fl} {m : Nat} (hm : m < 6) : rbR (bcK μ ν m) ν m = bcK μ ν (m + 1) := by
  funext z
  simp only [rbR, bcK]
  repeat' split
  all_goals first | rfl | (exfalso; omega)
theorem bcm_of {μ ν : Fl} {m : Nat} : upd (upd (upd (bcK μ ν m) 2 (ν 2)) 0 (ν 0)) 1 (ν 1) = bcm μ ν m := by
  funext z
  simp only [upd, bcK, bcm]
  repeat' split
  all_goals first | rfl | (exfalso; omega) | (subst_vars; rfl)
def tellS (μ : Fl) (i : Nat) (w : Int32) : Int32 := if w = 0 then fl μ i 0 else if w = 1 then fl μ i 1 else if w = 2 then fl μ i 2 else if w = 3 then fl μ i 3 else if w = 4 then fl μ i 4 else if w = 5 then fl μ i 5 else if w = 6 then fl μ i 6 else holdsM μ i
def putS (μ : Fl) (i : Nat) (w v : Int32) : Fl := if w = 0 then upd μ (33 + 37 * i + 0) v else if w = 1 then upd μ (33 + 37 * i + 1) v else if w = 2 then upd μ (33 + 37 * i + 2) v else if w = 3 then upd μ (33 + 37 * i + 3) v else if w = 4 then μ else if w = 5 then upd μ (33 + 37 * i + 5) v else μ
def mostS (w : Int32) : Int32 := if w = 0 then 6 else if w = 1 then 9 else if w = 2 then 5 else if w = 3 then 30 else if w = 4 then -1 else if w = 5 then 3 else -1
