/-! divisions of naturals; how great means can be; teams -/
theorem nI_div {a b : Nat} (ha : a < 2147483648) (hb : b < 2147483648) : nI a / nI b = nI (a / b) := by
  apply Int32.toInt_inj.mp
  have hq : a / b ≤ a := Nat.div_le_self a b
  rw [Int32.toInt_div, nI_toInt ha, nI_toInt hb, nI_toInt (Nat.lt_of_le_of_lt hq ha), ← Int.ofNat_tdiv]
  generalize a / b = c at hq
  exact Int.bmod_eq_of_le (by omega) (by omega)
theorem nI_rem {a b : Nat} (ha : a < 2147483648) (hb : b < 2147483648) : nI a - nI a / nI b * nI b = nI (a % b) := by
  rw [nI_div ha hb, pk_mul, pk_sub (Nat.div_mul_le_self a b)]
  congr 1
  have := Nat.div_add_mod a b
  rw [Nat.mul_comm] at this
  omega
section
variable {Y : MI} {K : KT} {Rz : RZ} {σ : St} {pc : Nat} {lv : List (Nat × Value)} {st : List Value}
theorem aw_idivN (C : Cx Y K) {x y : Int32} (a b : Nat) (hx : x = nI a) (hy : y = nI b) (ha : a < 2147483648) (hb : b < 2147483648) (h0 : 0 < b) (hd : decode Y.2.1 pc = .ok (.idiv, 1)) (kk : AW Y K Rz σ (pc + 1) lv (.int (nI (a / b)) :: st)) : AW Y K Rz σ pc lv (.int y :: .int x :: st) := by
  subst hx; subst hy; refine aw_idiv C hd (nI_ne0 h0 hb) ?_; rw [nI_div ha hb]; exact kk
theorem aw_iremN (C : Cx Y K) {x y : Int32} (a b : Nat) (hx : x = nI a) (hy : y = nI b) (ha : a < 2147483648) (hb : b < 2147483648) (h0 : 0 < b) (hd : decode Y.2.1 pc = .ok (.irem, 1)) (kk : AW Y K Rz σ (pc + 1) lv (.int (nI (a % b)) :: st)) : AW Y K Rz σ pc lv (.int y :: .int x :: st) := by
  subst hx; subst hy; refine aw_irem C hd (nI_ne0 h0 hb) ?_; rw [nI_rem ha hb]; exact kk
end
theorem takes_bd {k : Int32} {p : Nat} (h1 : 1 ≤ p) (h9 : p ≤ 9) : ∃ t, t ≤ 14 ∧ sTakes k (nI p) = nI t := by
  unfold sTakes
  split
  · exact ⟨11 - p, by omega, pk_sub (a := 11) (b := p) (by omega)⟩
  · split
    · exact ⟨15 - p, by omega, pk_sub (a := 15) (b := p) (by omega)⟩
    · exact ⟨12 - p, by omega, pk_sub (a := 12) (b := p) (by omega)⟩
theorem clip_bd (v : Int32) : ∃ o, o ≤ 23 ∧ sClip v = nI o := by
  unfold sClip
  split
  · exact ⟨0, by omega, rfl⟩
  · split
    · exact ⟨23, by omega, rfl⟩
    · rename_i h1 h2
      obtain ⟨k, e, _, hk⟩ := rg 0 23 (x := v) ⟨Int32.not_lt.mp h1, Int32.not_lt.mp h2⟩ (by omega) (by omega)
      exact ⟨k, hk, e⟩
theorem beh_bd {f : Nat → Int32} {μ : Fl} {r y s p q a b B : Nat} (h1 : 1 ≤ p) (h9 : p ≤ 9) (hq : q < 100) (eq : μ 0 = nI q) (ea : f (s - 1) = nI a) (eb : f 3 = nI b) (ha : a ≤ B) (hb : b ≤ B) (hB : B ≤ 4000000) : ∃ k, k ≤ 113000 + B ∧ behS f μ r y s (nI p) = nI k := by
  obtain ⟨t, ht, et⟩ := takes_bd (k := fl μ r 0) h1 h9
  obtain ⟨o, ho, eo⟩ := clip_bd (sRocks (fl μ r 0) (nI p) + sHurts (fl μ r 0) (μ (3 + y)) + shk (0 < s) + 0 - holdsM μ r)
  have m1 : (24 - o) * a ≤ (24 - o) * (99000 + B) := Nat.mul_le_mul_left _ (by omega)
  have m2 : o * (1000 * q + b) ≤ o * (99000 + B) := Nat.mul_le_mul_left _ (by omega)
  have m3 : (24 - o) * (99000 + B) + o * (99000 + B) = 24 * (99000 + B) := by rw [← Nat.add_mul, show 24 - o + o = 24 by omega]
  have m4 : ((24 - o) * a + o * (1000 * q + b)) / 24 ≤ 99000 + B := by omega
  refine ⟨1000 * t + ((24 - o) * a + o * (1000 * q + b)) / 24, by omega, ?_⟩
  unfold behS oddsM
  rw [et, eo, ea, eb, eq]
  show nI 1000 * nI t + ((nI 24 - nI o) * nI a + nI o * (nI 1000 * nI q + nI b)) / nI 24 = _
  rw [pk_sub (by omega), pk_mul, pk_mul, pk_mul, nI_add, pk_mul, nI_add, nI_div (by omega) (by omega), nI_add]
/-- what means need of a row -/
def MOk (μ : Fl) (r : Nat) : Prop := (∃ q, q < 100 ∧ μ 0 = nI q) ∧ ∀ y, y < 30 → ∃ p, 1 ≤ p ∧ p ≤ 9 ∧ fl μ r (7 + y) = nI p
theorem Ok.mok {n r : Nat} {μ : Fl} (h : Ok n μ) (hr : r < n) : MOk μ r := ⟨h.2.2.1, (h.2.2.2.2.1 r hr).2.2.2.2.2⟩
theorem mrow_bd {b : Bool} {μ : Fl} {r e : Nat} (h : MOk μ r) (he : e ≤ 30) : ∀ (d : Nat), d ≤ e → ∀ s, s < 4 → ∃ k, k ≤ 113000 * d ∧ mrow b μ r e d s = nI k
  | 0, _, s, _ => ⟨0, by omega, rfl⟩
  | d + 1, hd, s, hs => by
    have ih := mrow_bd (b := b) h he d (by omega)
    obtain ⟨a, ha, ea⟩ := ih (s - 1) (by omega)
    obtain ⟨c, hc, ec⟩ := ih 3 (by omega)
    obtain ⟨q, hq, eq⟩ := h.1
    have hp : ∃ p, 1 ≤ p ∧ p ≤ 9 ∧ mpc b (mrow b μ r e d) μ r (e - (d + 1)) s = nI p := by
      unfold mpc
      split
      · exact ⟨_, bpS_rg.1, bpS_le (by omega), rfl⟩
      · exact h.2 (e - (d + 1)) (by omega)
    obtain ⟨p, h1, h9, ep⟩ := hp
    obtain ⟨k, hk, ek⟩ := beh_bd (r := r) (y := e - (d + 1)) h1 h9 hq eq ea ec ha hc (by omega)
    refine ⟨k, by omega, ?_⟩
    rw [mrow, ep]
    exact ek
theorem mRow_bd {b : Bool} {μ : Fl} {r e y s : Nat} (h : MOk μ r) (he : e ≤ 30) (hs : s < 4) : ∃ k, k ≤ 113000 * (e - y) ∧ mRow b μ r e y s = nI k := mrow_bd h he (e - y) (by omega) s hs
theorem meanS_bd {μ : Fl} {r : Nat} (h : MOk μ r) : ∃ k, k ≤ 3390000 ∧ meanS μ r = nI k := mRow_bd (e := 30) (y := 0) (s := 0) h (by omega) (by omega)
/-- MEAN of r on a leg -/
def legS (μ : Fl) (r l : Nat) : Int32 := mRow false μ r (10 * (l + 1)) (10 * l) 0
theorem legS_bd {μ : Fl} {r l : Nat} (h : MOk μ r) (hl : l < 3) : ∃ k, k ≤ 1130000 ∧ legS μ r l = nI k := by
  obtain ⟨k, hk, e⟩ := mRow_bd (b := false) (y := 10 * l) (e := 10 * (l + 1)) (s := 0) h (by omega) (by omega)
  exact ⟨k, by omega, e⟩
def LInv (μ : Fl) (m : Nat) (f : Fl) : Prop := ∀ i, i < m → f i = legS μ (i / 3) (i % 3)
theorem LInv.put {μ : Fl} {r l : Nat} {f : Fl} {v : Int32} (h : LInv μ (3 * r + l) f) (hl : l < 3) (hv : v = legS μ r l) : LInv μ (3 * r + (l + 1)) (upd f (3 * r + l) v) := by
  intro i hi
  by_cases e : i = 3 * r + l
  · subst e
    rw [pk_us, hv, show (3 * r + l) / 3 = r by omega, show (3 * r + l) % 3 = l by omega]
  · rw [pk_un e]; exact h i (by omega)
theorem LInv.at {μ : Fl} {n r l : Nat} {f : Fl} (h : LInv μ (3 * n) f) (hr : r < n) (hl : l < 3) : f (3 * r + l) = legS μ r l := by
  rw [h (3 * r + l) (by omega), show (3 * r + l) / 3 = r by omega, show (3 * r + l) % 3 = l by omega]
abbrev teamOk (n : Nat) (x : Int32) : Prop := (0 ≤ x ∧ x ≤ 1 <<< (nI n &&& 31) - 1) ∧ ¬ manyS x 6 < 3
abbrev bitsI (x : Int32) (a b c : Nat) : Int32 := x >>> (nI a &&& 31) &&& x >>> (nI b &&& 31) &&& x >>> (nI c &&& 31) &&& 1
abbrev teamP (x : Int32) (k : Nat) : Prop := ¬ k / 6 / 6 = k / 6 % 6 ∧ ¬ k / 6 / 6 = k % 6 ∧ ¬ k / 6 % 6 = k % 6 ∧ ¬ bitsI x (k / 6 / 6) (k / 6 % 6) (k % 6) = 0
def tv (μ : Fl) (k : Nat) : Int32 := legS μ (k / 6 / 6) 0 + legS μ (k / 6 % 6) 1 + legS μ (k % 6) 2
def tmS (μ : Fl) (x : Int32) : Nat → Option Nat
  | 0 => none
  | k + 1 => if teamP x k then (match tmS μ x k with
    | none => some k
    | some b => if tv μ k < tv μ b then some k else some b) else tmS μ x k
theorem tmS_no {μ : Fl} {x : Int32} {k : Nat} (h : ¬ teamP x k) : tmS μ x (k + 1) = tmS μ x k := by simp only [tmS, if_neg h]
theorem tmS_none {μ : Fl} {x : Int32} {k : Nat} (h : teamP x k) (hb : tmS μ x k = none) : tmS μ x (k + 1) = some k := by simp only [tmS, if_pos h, hb]
theorem tmS_less {μ : Fl} {x : Int32} {k b : Nat} (h : teamP x k) (hb : tmS μ x k = some b) (q : tv μ k < tv μ b) : tmS μ x (k + 1) = some k := by simp only [tmS, if_pos h, hb, if_pos q]
theorem tmS_more {μ : Fl} {x : Int32} {k b : Nat} (h : teamP x k) (hb : tmS μ x k = some b) (q : ¬ tv μ k < tv μ b) : tmS μ x (k + 1) = some b := by simp only [tmS, if_pos h, hb, if_neg q]
theorem tmS_P {μ : Fl} {x : Int32} : ∀ {k b : Nat}, tmS μ x k = some b → b < k ∧ teamP x b
  | 0, b, h => by cases h
  | k + 1, b, h => by
    by_cases hp : teamP x k
    · cases hb : tmS μ x k with
      | none => rw [tmS_none hp hb] at h; cases h; exact ⟨by omega, hp⟩
      | some q =>
        have hq := tmS_P hb
        by_cases ht : tv μ k < tv μ q
        · rw [tmS_less hp hb ht] at h; cases h; exact ⟨by omega, hp⟩
        · rw [tmS_more hp hb ht] at h; cases h; exact ⟨by omega, hq.2⟩
    · rw [tmS_no hp] at h
      have := tmS_P h
      exact ⟨by omega, this.2⟩
theorem tmS_ex {μ : Fl} {x : Int32} {j : Nat} (h : teamP x j) : ∀ {k : Nat}, j < k → ∃ b, tmS μ x k = some b
  | 0, hj => by omega
  | k + 1, hj => by
    by_cases hp : teamP x k
    · cases hb : tmS μ x k with
      | none => exact ⟨_, tmS_none hp hb⟩
      | some q =>
        by_cases ht : tv μ k < tv μ q
        · exact ⟨_, tmS_less hp hb ht⟩
        · exact ⟨_, tmS_more hp hb ht⟩
    · rw [tmS_no hp]
      refine tmS_ex h ?_
      rcases Nat.lt_or_ge j k with q | q
      · exact q
      · obtain rfl : j = k := by omega
        exact absurd h hp
def lsT (μ : Fl) : Option Nat → Int32
  | none => -1
  | some b => tv μ b
/-- the b-th team's i-th leg -/
def tmL (b i : Nat) : Int32 := if i = 0 then nI (b / 6 / 6) else if i = 1 then nI (b / 6 % 6) else nI (b % 6)
theorem set_shr : ∀ s, s < 64 → ∀ a, a < 6 → nI s >>> (nI a &&& 31) = nI (s / 2 ^ a) := by decide +kernel
theorem set_top : ∀ n, n < 7 → (1 : Int32) <<< (nI n &&& 31) - 1 = nI (2 ^ n - 1) := by decide +kernel
theorem pow_le6 : ∀ n, n < 7 → 0 < 2 ^ n ∧ 2 ^ n ≤ 64 := by decide
theorem set_nat {n : Nat} {x : Int32} (hn : n ≤ 6) (h : 0 ≤ x ∧ x ≤ 1 <<< (nI n &&& 31) - 1) : ∃ s, x = nI s ∧ s < 2 ^ n := by
  rw [set_top n (by omega)] at h
  have := pow_le6 n (by omega)
  obtain ⟨s, e, _, hs⟩ := rg 0 (2 ^ n - 1) h (by omega) (by omega)
  exact ⟨s, e, by omega⟩
theorem bit_lt {s n a : Nat} (hn : n ≤ 6) (hs : s < 2 ^ n) (ha : a < 6) (h : ¬ nI s >>> (nI a &&& 31) = 0) : a < n := by
  have p := pow_le6 n (by omega)
  rcases Nat.lt_or_ge a n with q | q
  · exact q
  · rw [set_shr s (by omega) a ha, Nat.div_eq_of_lt (Nat.lt_of_lt_of_le hs (Nat.pow_le_pow_right (by omega) q))] at h
    exact absurd rfl h
theorem team_lt {n k : Nat} {x : Int32} (hn : n ≤ 6) (hx : 0 ≤ x ∧ x ≤ 1 <<< (nI n &&& 31) - 1) (hk : k < 216) (h : teamP x k) : k / 6 / 6 < n ∧ k / 6 % 6 < n ∧ k % 6 < n := by
  obtain ⟨s, rfl, hs⟩ := set_nat hn hx
  have h4 := h.2.2.2
  refine ⟨bit_lt hn hs (by omega) (fun z => h4 ?_), bit_lt hn hs (by omega) (fun z => h4 ?_), bit_lt hn hs (by omega) (fun z => h4 ?_)⟩
  · simp only [bitsI, z, Int32.zero_and]
  · simp only [bitsI, z, Int32.zero_and, Int32.and_zero]
  · simp only [bitsI, z, Int32.zero_and, Int32.and_zero]
theorem team_any : ∀ s, s < 64 → ¬ manyS (nI s) 6 < 3 → ∃ k, k < 216 ∧ teamP (nI s) k := by decide +kernel
theorem team_ex {n : Nat} {μ : Fl} {x : Int32} (hn : n ≤ 6) (h : teamOk n x) : ∃ b, tmS μ x 216 = some b := by
  obtain ⟨s, rfl, hs⟩ := set_nat hn h.1
  have p := pow_le6 n (by omega)
  obtain ⟨k, hk, hp⟩ := team_any s (by omega) h.2
  exact tmS_ex hp hk
theorem tv_bd {n k : Nat} {μ : Fl} (h : Ok n μ) (hl : k / 6 / 6 < n ∧ k / 6 % 6 < n ∧ k % 6 < n) : ∃ v, v ≤ 3390000 ∧ tv μ k = nI v := by
  obtain ⟨a, ha, ea⟩ := legS_bd (l := 0) (h.mok hl.1) (by omega)
  obtain ⟨b, hb, eb⟩ := legS_bd (l := 1) (h.mok hl.2.1) (by omega)
  obtain ⟨c, hc, ec⟩ := legS_bd (l := 2) (h.mok hl.2.2) (by omega)
  refine ⟨a + b + c, by omega, ?_⟩
  unfold tv
  rw [ea, eb, ec, nI_add, nI_add]
theorem tv_pos {n k : Nat} {μ : Fl} {x : Int32} (h : Ok n μ) (hx : 0 ≤ x ∧ x ≤ 1 <<< (nI n &&& 31) - 1) (hk : k < 216) (hp : teamP x k) : ¬ tv μ k < 0 := by
  obtain ⟨v, hv, e⟩ := tv_bd h (team_lt h.1 hx hk hp)
  rw [e]
  exact nI_pos (by omega)
def sTeam (μ : Fl) (n : Nat) (x : Int32) : An := if teamOk n x then .inr (lsT μ (tmS μ x 216), μ) else .inl 0
def sLeg (μ : Fl) (n : Nat) (x i : Int32) : An := if teamOk n x ∧ (0 ≤ i ∧ i ≤ 2) then (match tmS μ x 216 with
  | none => .inl 0
  | some b => .inr (tmL b (cl i), μ)) else .inl 0
def TInv (μ : Fl) (x : Int32) (k : Nat) (t : Fl) : Prop := ∀ b, tmS μ x k = some b → ∀ i, i < 3 → t i = tmL b i
def TeamO (σ : St) (x : Int32) : RZ := fun w s => ∃ f g h t : Fl, TInv (σ.1 20) x 216 t ∧ w = some (.int (lsT (σ.1 20) (tmS (σ.1 20) x 216))) ∧ s = setR (setR (setR (setR σ 25 f) 26 g) 27 h) 28 t
theorem TInv.put {μ : Fl} {x : Int32} {k : Nat} {t : Fl} (h : tmS μ x (k + 1) = some k) : TInv μ x (k + 1) (upd (upd (upd t 0 (nI (k / 6 / 6))) 1 (nI (k / 6 % 6))) 2 (nI (k % 6))) := by
  intro b hb i hi
  rw [h] at hb
  cases hb
  rcases (show i = 0 ∨ i = 1 ∨ i = 2 by omega) with rfl | rfl | rfl
  · rw [pk_un (by omega), pk_un (by omega), pk_us]; rfl
  · rw [pk_un (by omega), pk_us]; rfl
  · rw [pk_us]; rfl
theorem TInv.keep {μ : Fl} {x : Int32} {k : Nat} {t : Fl} (h : TInv μ x k t) (e : tmS μ x (k + 1) = tmS μ x k) : TInv μ x (k + 1) t := fun b hb => h b (e ▸ hb)
