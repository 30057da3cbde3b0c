/-! rain; THE TAPE -/
def grS (μ : Fl) : Nat → Int32
  | 0 => 0
  | k + 1 => grS μ k + (if μ (3 + k) = 0 then 1 else 0)
def rn1 (ν : Fl) : Fl := upd ν 1 (drawZ ν)
def rnM (μ : Fl) : Nat → Fl
  | 0 => μ
  | k + 1 => upd (rn1 (rn1 (rnM μ k))) (3 + cl (rem (drawV (rnM μ k)) 30)) (rem (drawV (rn1 (rnM μ k))) 5)
theorem u32_nI (u : UInt32) : u.toInt32 = nI u.toNat := by
  apply Int32.toBitVec_inj.mp
  show u.toBitVec = BitVec.ofNat 32 u.toBitVec.toNat
  simp
theorem draw_nat (μ : Fl) : ∃ d, d < 16777216 ∧ drawV μ = nI d := by
  refine ⟨_, ?_, u32_nI _⟩
  rw [UInt32.toNat_shiftRight]
  have := (drawZ μ).toUInt32.toNat_lt
  rw [show ((8 : Int32).toUInt32 &&& Int32.toUInt32 31).toNat % 32 = 8 from rfl, Nat.shiftRight_eq_div_pow]
  omega
theorem draw_rem (μ : Fl) (b : Nat) (hb : 0 < b) (hb2 : b < 1000) : ∃ j, j < b ∧ drawV μ - drawV μ / nI b * nI b = nI j := by
  obtain ⟨d, hd, e⟩ := draw_nat μ
  rw [e, nI_rem (by omega) (by omega)]
  exact ⟨d % b, Nat.mod_lt _ hb, rfl⟩
def sRain (μ : Fl) (k : Int32) : An := if 1 ≤ k ∧ k ≤ 12 then .inr (grS (rnM μ (cl k)) 30, rnM μ (cl k)) else .inl 0
def sSeed (μ : Fl) (v : Int32) : An := .inr (μ 1, upd μ 1 v)
/-- calls of THE TAPE: a finding, or the answer, the bytes and how many -/
abbrev TAn : Type := Nat ⊕ (Int32 × Fl × Nat)
/-- j bytes of n laid -/
def fdB (b : Fl) (t : Nat) (x : Int32) (n : Nat) : Nat → Fl
  | 0 => b
  | j + 1 => upd (fdB b t x n j) (t + j) (x >>> (nI (8 * (n - (j + 1))) &&& 31) &&& 255)
theorem fdB_s {b : Fl} {t n m : Nat} {x : Int32} (h : m < n) : upd (fdB b t x n (n - (m + 1))) (t + (n - (m + 1))) (x >>> (nI (8 * m) &&& 31) &&& 255) = fdB b t x n (n - m) := by
  rw [show n - m = (n - (m + 1)) + 1 by omega, fdB, show n - (n - (m + 1) + 1) = m by omega]
def sFeed (b : Fl) (t : Nat) (x n : Int32) : TAn := if 1 ≤ n ∧ n ≤ 4 then (if 120 < t + cl n then .inl 1 else .inr (nI (t + cl n), fdB b t x (cl n) (cl n), t + cl n)) else .inl 0
def sWipe (b : Fl) (t : Nat) : TAn := .inr (nI t, b, 0)
def tanA : TAn → Int32
  | .inl i => lowI i
  | .inr q => q.1
def tanS (σ : St) : TAn → St
  | .inl i => setR σ 24 (upd (σ.1 24) i (σ.1 24 i + 1))
  | .inr q => setR (setR σ 29 q.2.1) 23 (upd (σ.1 23) 1 (nI q.2.2))
def PT (σ : St) (an : TAn) : RZ := fz (some (.int (tanA an))) (tanS σ an)
theorem pt_of {σ s : St} {an an' : TAn} {x : Int32} (h : an = an') (hv : x = tanA an') (hs : s = tanS σ an') : PT σ an (some (.int x)) s := by
  subst h; subst hv; subst hs
  exact ⟨rfl, rfl⟩
