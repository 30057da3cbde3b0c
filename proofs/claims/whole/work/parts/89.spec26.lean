/-! DROPS counted forwards: the class's rows of parts -/
abbrev LR : Type := Nat → Int64
def sprK (P A : LR) (s : Nat) (o : Int32) : Nat → LR
  | 0 => P
  | k + 1 => vp_updL (vp_updL (sprK P A s o k) ((s - 1) * 11 + k) (sprK P A s o k ((s - 1) * 11 + k) + A (s * 11 + k) * (24 - o).toInt64)) (33 + k + 1) ((vp_updL (sprK P A s o k) ((s - 1) * 11 + k) (sprK P A s o k ((s - 1) * 11 + k) + A (s * 11 + k) * (24 - o).toInt64)) (33 + k + 1) + A (s * 11 + k) * o.toInt64)
def sp4 (B A : LR) (o : Nat → Int32) (M : Nat) : Nat → LR
  | 0 => B
  | s + 1 => sprK (sp4 B A o M s) A s (o s) M
def suS (P : LR) (k : Nat) : Nat → Int64
  | 0 => 0
  | z + 1 => suS P k z + P (z * 11 + k)
theorem l_add0 (x : Int64) : x + 0 = x := by simp
theorem l_0add (x : Int64) : 0 + x = x := by simp
theorem sprK_at {P A : LR} {s : Nat} {o : Int32} (hs : s < 4) : ∀ {m : Nat}, m ≤ 10 → ∀ z, sprK P A s o m z = P z + (if (s - 1) * 11 ≤ z ∧ z < (s - 1) * 11 + m then A (s * 11 + (z - (s - 1) * 11)) * (24 - o).toInt64 else 0) + (if 34 ≤ z ∧ z < 34 + m then A (s * 11 + (z - 34)) * o.toInt64 else 0)
  | 0, _, z => by
    rw [if_neg (by omega), if_neg (by omega)]
    simp [sprK]
  | m + 1, hm, z => by
    have ih := sprK_at (P := P) (A := A) (o := o) hs (m := m) (by omega)
    have h22 : (s - 1) * 11 ≤ 22 := by omega
    simp only [sprK, vp_updL]
    by_cases h1 : z = 33 + m + 1
    · subst h1
      rw [if_pos rfl, if_neg (by omega), ih, if_neg (by omega), if_neg (by omega), if_neg (by omega), if_pos (by omega), show 33 + m + 1 - 34 = m by omega]
      simp only [l_add0]
    · rw [if_neg h1]
      by_cases h2 : z = (s - 1) * 11 + m
      · rw [if_pos h2, ih]
        rw [if_neg (by omega), if_neg (by omega), if_pos (by omega), if_neg (by omega), h2, show (s - 1) * 11 + m - (s - 1) * 11 = m by omega]
        simp only [l_add0]
      · rw [if_neg h2, ih]
        congr 1
        · congr 1
          by_cases h3 : (s - 1) * 11 ≤ z ∧ z < (s - 1) * 11 + m
          · rw [if_pos h3, if_pos (by omega)]
          · rw [if_neg h3, if_neg (by omega)]
        · by_cases h3 : 34 ≤ z ∧ z < 34 + m
          · rw [if_pos h3, if_pos (by omega)]
          · rw [if_neg h3, if_neg (by omega)]
/-- a row behind one yard more -/
theorem sp4_row {B A : LR} {o : Nat → Int32} {m : Nat} (hm : m < 10) (hB : ∀ z, z < 44 → B z = 0) (hA : ∀ s j, s < 4 → m < j → j ≤ 10 → A (s * 11 + j) = 0) {j : Nat} (hj : j ≤ 10) :
    sp4 B A o (m + 1) 4 (0 * 11 + j) = A (0 * 11 + j) * (24 - o 0).toInt64 + A (1 * 11 + j) * (24 - o 1).toInt64 ∧
    sp4 B A o (m + 1) 4 (1 * 11 + j) = A (2 * 11 + j) * (24 - o 2).toInt64 ∧
    sp4 B A o (m + 1) 4 (2 * 11 + j) = A (3 * 11 + j) * (24 - o 3).toInt64 ∧
    sp4 B A o (m + 1) 4 (3 * 11 + j) = (match j with
      | 0 => 0
      | i + 1 => A (0 * 11 + i) * (o 0).toInt64 + A (1 * 11 + i) * (o 1).toInt64 + A (2 * 11 + i) * (o 2).toInt64 + A (3 * 11 + i) * (o 3).toInt64) := by
  have key : ∀ z, z < 44 → sp4 B A o (m + 1) 4 z = ((((0 + (if 0 ≤ z ∧ z < 0 + (m + 1) then A (0 * 11 + (z - 0)) * (24 - o 0).toInt64 else 0) + (if 34 ≤ z ∧ z < 34 + (m + 1) then A (0 * 11 + (z - 34)) * (o 0).toInt64 else 0)) + (if 0 ≤ z ∧ z < 0 + (m + 1) then A (1 * 11 + (z - 0)) * (24 - o 1).toInt64 else 0) + (if 34 ≤ z ∧ z < 34 + (m + 1) then A (1 * 11 + (z - 34)) * (o 1).toInt64 else 0)) + (if 11 ≤ z ∧ z < 11 + (m + 1) then A (2 * 11 + (z - 11)) * (24 - o 2).toInt64 else 0) + (if 34 ≤ z ∧ z < 34 + (m + 1) then A (2 * 11 + (z - 34)) * (o 2).toInt64 else 0)) + (if 22 ≤ z ∧ z < 22 + (m + 1) then A (3 * 11 + (z - 22)) * (24 - o 3).toInt64 else 0) + (if 34 ≤ z ∧ z < 34 + (m + 1) then A (3 * 11 + (z - 34)) * (o 3).toInt64 else 0)) := by
    intro z hz
    have e : sp4 B A o (m + 1) 4 = sprK (sprK (sprK (sprK B A 0 (o 0) (m + 1)) A 1 (o 1) (m + 1)) A 2 (o 2) (m + 1)) A 3 (o 3) (m + 1) := rfl
    rw [e, sprK_at (by omega) (by omega), sprK_at (by omega) (by omega), sprK_at (by omega) (by omega), sprK_at (by omega) (by omega), hB z hz]
  refine ⟨?_, ?_, ?_, ?_⟩
  · rw [key _ (by omega)]
    by_cases h : j < m + 1
    · rw [if_pos (by omega), if_neg (by omega), if_pos (by omega), if_neg (by omega), if_neg (by omega), if_neg (by omega), if_neg (by omega), if_neg (by omega), show 0 * 11 + j - 0 = j by omega]
      simp only [l_add0, l_0add]
    · rw [if_neg (by omega), if_neg (by omega), if_neg (by omega), if_neg (by omega), if_neg (by omega), if_neg (by omega), if_neg (by omega), if_neg (by omega), hA 0 j (by omega) (by omega) hj, hA 1 j (by omega) (by omega) hj]
      simp
  · rw [key _ (by omega)]
    by_cases h : j < m + 1
    · rw [if_neg (by omega), if_neg (by omega), if_neg (by omega), if_neg (by omega), if_pos (by omega), if_neg (by omega), if_neg (by omega), if_neg (by omega), show 1 * 11 + j - 11 = j by omega]
      simp only [l_add0, l_0add]
    · rw [if_neg (by omega), if_neg (by omega), if_neg (by omega), if_neg (by omega), if_neg (by omega), if_neg (by omega), if_neg (by omega), if_neg (by omega), hA 2 j (by omega) (by omega) hj]
      simp
  · rw [key _ (by omega)]
    by_cases h : j < m + 1
    · rw [if_neg (by omega), if_neg (by omega), if_neg (by omega), if_neg (by omega), if_neg (by omega), if_neg (by omega), if_pos (by omega), if_neg (by omega), show 2 * 11 + j - 22 = j by omega]
      simp only [l_add0, l_0add]
    · rw [if_neg (by omega), if_neg (by omega), if_neg (by omega), if_neg (by omega), if_neg (by omega), if_neg (by omega), if_neg (by omega), if_neg (by omega), hA 3 j (by omega) (by omega) hj]
      simp
  · rw [key _ (by omega)]
    cases j with
    | zero =>
      rw [if_neg (by omega), if_neg (by omega), if_neg (by omega), if_neg (by omega), if_neg (by omega), if_neg (by omega), if_neg (by omega), if_neg (by omega)]
      simp
    | succ i =>
      dsimp only
      by_cases h : i < m + 1
      · rw [if_neg (by omega), if_pos (by omega), if_neg (by omega), if_pos (by omega), if_neg (by omega), if_pos (by omega), if_neg (by omega), if_pos (by omega), show 3 * 11 + (i + 1) - 34 = i by omega]
        simp only [l_add0, l_0add]
      · rw [if_neg (by omega), if_neg (by omega), if_neg (by omega), if_neg (by omega), if_neg (by omega), if_neg (by omega), if_neg (by omega), if_neg (by omega), hA 0 i (by omega) (by omega) (by omega), hA 1 i (by omega) (by omega) (by omega), hA 2 i (by omega) (by omega) (by omega), hA 3 i (by omega) (by omega) (by omega)]
        simp
/-! sums -/
def sumL (g : Nat → Int64) : Nat → Int64
  | 0 => 0
  | n + 1 => sumL g n + g n
theorem sumL_congr {f g : Nat → Int64} : ∀ {n : Nat}, (∀ j, j < n → f j = g j) → sumL f n = sumL g n
  | 0, _ => rfl
  | n + 1, h => by rw [sumL, sumL, sumL_congr (n := n) (fun j hj => h j (by omega)), h n (by omega)]
theorem sumL_add (f g : Nat → Int64) : ∀ n, sumL (fun j => f j + g j) n = sumL f n + sumL g n
  | 0 => rfl
  | n + 1 => by
    rw [sumL, sumL, sumL, sumL_add f g n]
    ac_rfl
theorem sumL_shift (g : Nat → Int64) : ∀ n, sumL g (n + 1) = g 0 + sumL (fun j => g (j + 1)) n
  | 0 => by simp [sumL]
  | n + 1 => by
    rw [sumL, sumL_shift g n, sumL]
    ac_rfl
theorem sumL_0 : ∀ n, sumL (fun _ => 0) n = 0
  | 0 => rfl
  | n + 1 => by rw [sumL, sumL_0 n]; simp
def wT (P : LR) (D : Nat → Nat → Int64) (k j : Nat) : Int64 := P (0 * 11 + j) * D 0 (k - j) + P (1 * 11 + j) * D 1 (k - j) + P (2 * 11 + j) * D 2 (k - j) + P (3 * 11 + j) * D 3 (k - j)
def wS (P : LR) (D : Nat → Nat → Int64) (k : Nat) : Int64 := sumL (wT P D k) (k + 1)
def pr1 (D : Nat → Int64) : Nat → Int64
  | 0 => 0
  | c + 1 => D c
theorem dS_zero {μ : Fl} {r : Nat} : ∀ {n y c s : Nat}, n < c → dS μ r n y c s = 0
  | 0, y, c, s, h => by rw [dS, if_neg (by omega)]
  | n + 1, y, c, s, h => dS_big h
theorem dS_rec {μ : Fl} {r n y c s : Nat} : dS μ r (n + 1) y c s = (24 - oddsA μ r y (shk (0 < s))).toInt64 * dS μ r n (y + 1) c (s - 1) + (oddsA μ r y (shk (0 < s))).toInt64 * pr1 (fun c => dS μ r n (y + 1) c 3) c := by
  by_cases h : n + 1 < c
  · rw [dS_zero h, dS_zero (n := n) (by omega)]
    cases c with
    | zero => omega
    | succ c =>
      show _ = _ + _ * dS μ r n (y + 1) c 3
      rw [dS_zero (n := n) (c := c) (by omega)]
      simp
  · cases c with
    | zero => simp only [dS, if_neg h, pr1]
    | succ c => simp only [dS, if_neg h, pr1]
theorem wS_step {P Q : LR} {D E : Nat → Nat → Int64} {u v : Nat → Int64} {k : Nat} (h0 : ∀ j, j ≤ k → Q (0 * 11 + j) = P (0 * 11 + j) * u 0 + P (1 * 11 + j) * u 1) (h1 : ∀ j, j ≤ k → Q (1 * 11 + j) = P (2 * 11 + j) * u 2) (h2 : ∀ j, j ≤ k → Q (2 * 11 + j) = P (3 * 11 + j) * u 3) (h30 : Q (3 * 11 + 0) = 0) (h3 : ∀ j, j < k → Q (3 * 11 + (j + 1)) = P (0 * 11 + j) * v 0 + P (1 * 11 + j) * v 1 + P (2 * 11 + j) * v 2 + P (3 * 11 + j) * v 3)
    (e0 : ∀ c, E 0 c = u 0 * D 0 c + v 0 * pr1 (D 3) c) (e1 : ∀ c, E 1 c = u 1 * D 0 c + v 1 * pr1 (D 3) c) (e2 : ∀ c, E 2 c = u 2 * D 1 c + v 2 * pr1 (D 3) c) (e3 : ∀ c, E 3 c = u 3 * D 2 c + v 3 * pr1 (D 3) c) : wS Q D k = wS P E k := by
  have a1 : wS Q D k = sumL (fun j => (P (0 * 11 + j) * u 0 + P (1 * 11 + j) * u 1) * D 0 (k - j) + P (2 * 11 + j) * u 2 * D 1 (k - j) + P (3 * 11 + j) * u 3 * D 2 (k - j)) (k + 1) + sumL (fun j => Q (3 * 11 + j) * D 3 (k - j)) (k + 1) := by
    rw [← sumL_add]
    refine sumL_congr fun j hj => ?_
    unfold wT
    rw [h0 j (by omega), h1 j (by omega), h2 j (by omega)]
  have a2 : wS P E k = sumL (fun j => (P (0 * 11 + j) * u 0 + P (1 * 11 + j) * u 1) * D 0 (k - j) + P (2 * 11 + j) * u 2 * D 1 (k - j) + P (3 * 11 + j) * u 3 * D 2 (k - j)) (k + 1) + sumL (fun j => (P (0 * 11 + j) * v 0 + P (1 * 11 + j) * v 1 + P (2 * 11 + j) * v 2 + P (3 * 11 + j) * v 3) * pr1 (D 3) (k - j)) (k + 1) := by
    rw [← sumL_add]
    refine sumL_congr fun j hj => ?_
    unfold wT
    rw [e0, e1, e2, e3]
    simp only [Int64.mul_add, Int64.add_mul, Int64.mul_assoc]
    ac_rfl
  rw [a1, a2]
  congr 1
  rw [sumL_shift, h30, sumL, Nat.sub_self]
  have z : ∀ x : Int64, x * pr1 (D 3) 0 = 0 := fun x => by show x * 0 = 0; simp
  rw [z]
  simp only [Int64.zero_mul, l_0add, l_add0]
  refine sumL_congr fun j hj => ?_
  rw [h3 j hj, show k - j = (k - (j + 1)) + 1 by omega]
  rfl
/-- the rows of parts behind m of q yards -/
def DInv (μ : Fl) (r y q k m : Nat) (P : LR) : Prop := (∀ s j, s < 4 → m < j → j ≤ 10 → P (s * 11 + j) = 0) ∧ wS P (fun s c => dS μ r (q - m) (y + m) c s) k = dS μ r q y k 0
theorem DInv.first {μ : Fl} {r y q k : Nat} {f : LR} (hk : k ≤ 10) : DInv μ r y q k 0 (vp_updL (filL f 0 44) 0 1) := by
  have z : ∀ i, i < 44 → i ≠ 0 → vp_updL (filL f 0 44) 0 1 i = 0 := fun i h1 h2 => by
    simp only [vp_updL, filL, if_neg h2, if_pos h1]
  refine ⟨fun s j hs hj hj2 => z _ (by omega) (by omega), ?_⟩
  unfold wS
  rw [sumL_shift, sumL_congr (g := fun _ => 0) (fun j hj => ?_), sumL_0]
  · unfold wT
    rw [z (1 * 11 + 0) (by omega) (by omega), z (2 * 11 + 0) (by omega) (by omega), z (3 * 11 + 0) (by omega) (by omega)]
    have o : vp_updL (filL f 0 44) 0 1 (0 * 11 + 0) = 1 := if_pos rfl
    rw [o]
    simp
  · unfold wT
    rw [z (0 * 11 + (j + 1)) (by omega) (by omega), z (1 * 11 + (j + 1)) (by omega) (by omega), z (2 * 11 + (j + 1)) (by omega) (by omega), z (3 * 11 + (j + 1)) (by omega) (by omega)]
    simp
theorem DInv.next {μ : Fl} {r y q k m : Nat} {P A : LR} (h : DInv μ r y q k m P) (hm : m < q) (hq : q ≤ 10) (hk : k ≤ q) : DInv μ r y q k (m + 1) (sp4 (filL P 0 44) (cpyL P A 0 0 44) (fun s => oddsA μ r (y + m) (shk (0 < s))) (m + 1) 4) := by
  obtain ⟨hz, hw⟩ := h
  have hc : ∀ s j, s < 4 → j ≤ 10 → cpyL P A 0 0 44 (s * 11 + j) = P (s * 11 + j) := fun s j hs hj => by
    unfold cpyL
    rw [if_pos (by omega)]
    exact congrArg P (by omega)
  have row := fun (j : Nat) (hj : j ≤ 10) => sp4_row (B := filL P 0 44) (A := cpyL P A 0 0 44) (o := fun s => oddsA μ r (y + m) (shk (0 < s))) (m := m) (by omega) (fun z hz => if_pos hz) (fun s j hs hj hj2 => (hc s j hs hj2).trans (hz s j hs hj hj2)) hj
  refine ⟨fun s j hs hj hj2 => ?_, ?_⟩
  · obtain ⟨r0, r1, r2, r3⟩ := row j hj2
    rcases (show s = 0 ∨ s = 1 ∨ s = 2 ∨ s = 3 by omega) with rfl | rfl | rfl | rfl
    · rw [r0, hc 0 j (by omega) hj2, hc 1 j (by omega) hj2, hz 0 j (by omega) (by omega) hj2, hz 1 j (by omega) (by omega) hj2]; simp
    · rw [r1, hc 2 j (by omega) hj2, hz 2 j (by omega) (by omega) hj2]; simp
    · rw [r2, hc 3 j (by omega) hj2, hz 3 j (by omega) (by omega) hj2]; simp
    · rw [r3]
      cases j with
      | zero => omega
      | succ i =>
        dsimp only
        rw [hc 0 i (by omega) (by omega), hc 1 i (by omega) (by omega), hc 2 i (by omega) (by omega), hc 3 i (by omega) (by omega), hz 0 i (by omega) (by omega) (by omega), hz 1 i (by omega) (by omega) (by omega), hz 2 i (by omega) (by omega) (by omega), hz 3 i (by omega) (by omega) (by omega)]
        simp
  · rw [← hw]
    have en : q - m = (q - (m + 1)) + 1 := by omega
    refine wS_step (u := fun s => (24 - oddsA μ r (y + m) (shk (0 < s))).toInt64) (v := fun s => (oddsA μ r (y + m) (shk (0 < s))).toInt64) (fun j hj => ?_) (fun j hj => ?_) (fun j hj => ?_) ?_ (fun j hj => ?_) (fun c => ?_) (fun c => ?_) (fun c => ?_) (fun c => ?_)
    · rw [(row j (by omega)).1, hc 0 j (by omega) (by omega), hc 1 j (by omega) (by omega)]
    · rw [(row j (by omega)).2.1, hc 2 j (by omega) (by omega)]
    · rw [(row j (by omega)).2.2.1, hc 3 j (by omega) (by omega)]
    · exact (row 0 (by omega)).2.2.2
    · rw [(row (j + 1) (by omega)).2.2.2]
      dsimp only
      rw [hc 0 j (by omega) (by omega), hc 1 j (by omega) (by omega), hc 2 j (by omega) (by omega), hc 3 j (by omega) (by omega)]
    · show dS μ r (q - m) (y + m) c 0 = _
      rw [en, dS_rec]
      rfl
    · show dS μ r (q - m) (y + m) c 1 = _
      rw [en, dS_rec]
      rfl
    · show dS μ r (q - m) (y + m) c 2 = _
      rw [en, dS_rec]
      rfl
    · show dS μ r (q - m) (y + m) c 3 = _
      rw [en, dS_rec]
      rfl
theorem DInv.sum {μ : Fl} {r y q k : Nat} {P : LR} (h : DInv μ r y q k q P) (hk : k ≤ q) : suS P k 4 = dS μ r q y k 0 := by
  rw [← h.2, Nat.sub_self]
  have e : suS P k 4 = 0 + P (0 * 11 + k) + P (1 * 11 + k) + P (2 * 11 + k) + P (3 * 11 + k) := rfl
  rw [e]
  unfold wS
  rw [sumL, sumL_congr (g := fun _ => 0) (fun j hj => ?_), sumL_0]
  · unfold wT
    simp [dS]
  · unfold wT
    have z : ∀ s, dS μ r 0 (y + q) (k - j) s = 0 := fun s => dS_zero (by omega)
    simp only [z]
    simp
theorem oddsA_agr {n r y : Nat} {μ ν : Fl} {z : Int32} (g : Agr n μ ν) (hr : r < n) (hy : y < 30) : oddsA μ r y z = oddsA ν r y z := by
  unfold oddsA
  rw [odds_agr g hr hy, show fl μ r (7 + y) = fl ν r (7 + y) from g.fl hr (by omega)]
theorem dS_0 {μ ν : Fl} {r y c s : Nat} : dS μ r 0 y c s = dS ν r 0 y c s := by rw [dS, dS]
theorem dS_s {μ ν : Fl} {r m y c s : Nat} (eo : ∀ z, oddsA μ r y z = oddsA ν r y z) (ih : ∀ c s, dS μ r m (y + 1) c s = dS ν r m (y + 1) c s) : dS μ r (m + 1) y c s = dS ν r (m + 1) y c s := by
  have e1 : pr1 (fun c => dS μ r m (y + 1) c 3) c = pr1 (fun c => dS ν r m (y + 1) c 3) c := by
    cases c with
    | zero => exact Eq.trans (b := (0 : Int64)) rfl rfl
    | succ c => exact ih c 3
  rw [dS_rec, dS_rec, eo, e1, ih]
theorem dS_agr {n r : Nat} {μ ν : Fl} (g : Agr n μ ν) (hr : r < n) {m : Nat} : ∀ {y c s : Nat}, y + m ≤ 30 → dS μ r m y c s = dS ν r m y c s := by
  induction m with
  | zero => intro y c s _; exact dS_0
  | succ m ih => intro y c s h; exact dS_s (fun z => oddsA_agr g hr (by omega)) (fun c s => ih (by omega))
theorem clean_agr {n r y : Nat} {μ ν : Fl} (g : Agr n μ ν) (hr : r < n) : ∀ {m : Nat}, y + m ≤ 30 → cleanL μ r y m = cleanL ν r y m
  | 0, _ => rfl
  | m + 1, h => by
    unfold cleanL
    rw [clean_agr g hr (m := m) (by omega)]
    unfold oddsA
    rw [odds_agr g hr (by omega), show fl μ r (7 + (y + m)) = fl ν r (7 + (y + m)) from g.fl hr (by omega)]
/-- parts are told; the long rows are anything -/
def OdO (σ : St) (v : Int64) : RZ := fun w s => ∃ P A : LR, w = some (.long v) ∧ s = setL (setL σ 0 P) 1 A
theorem pcl_any {σ s : St} {an : LAn} {x v : Int64} (h : an = .inr v) (hv : x = v) (hs : ∀ r, r ∉ cScr → s.1 r = σ.1 r) : PCL σ an (some (.long x)) s := by
  subst h; subst hv
  exact ⟨rfl, hs⟩
theorem setL_010 (σ : St) (a b c : LR) : setL (setL (setL σ 0 a) 1 b) 0 c = setL (setL σ 0 c) 1 b := by
  refine Prod.ext rfl (funext fun z => ?_)
  simp only [setL]
  by_cases h0 : z = 0
  · subst h0; rfl
  · rw [if_neg h0, if_neg h0, if_neg h0]
