/-! the class's teams -/
abbrev three (a b c : Nat) : Int32 := (1 : Int32) <<< (nI a &&& 31) ||| (1 : Int32) <<< (nI b &&& 31) ||| (1 : Int32) <<< (nI c &&& 31)
abbrev tuP (x : Int32) (a b c : Nat) : Prop := bcS (three a b c) = 3 ∧ x &&& three a b c = three a b c
theorem three_un : ∀ a, a < 6 → ∀ b, b < 6 → ∀ c, c < 6 → (bcS (three a b c) = 3 ↔ ¬ a = b ∧ ¬ a = c ∧ ¬ b = c) := by decide +kernel
theorem three_in : ∀ a, a < 6 → ∀ b, b < 6 → ∀ c, c < 6 → ∀ s, s < 64 → (nI s &&& three a b c = three a b c ↔ ¬ bitsI (nI s) a b c = 0) := by decide +kernel
theorem tu_team {n a b c : Nat} {x : Int32} (hn : n ≤ 6) (hx : 0 ≤ x ∧ x ≤ 1 <<< (nI n &&& 31) - 1) (ha : a < 6) (hb : b < 6) (hc : c < 6) : tuP x a b c ↔ teamP x ((a * 6 + b) * 6 + c) := by
  obtain ⟨s, rfl, hs⟩ := set_nat hn hx
  have p := pow_le6 n (by omega)
  have e1 : ((a * 6 + b) * 6 + c) / 6 / 6 = a := by omega
  have e2 : ((a * 6 + b) * 6 + c) / 6 % 6 = b := by omega
  have e3 : ((a * 6 + b) * 6 + c) % 6 = c := by omega
  unfold tuP teamP
  rw [e1, e2, e3, three_un a ha b hb c hc, three_in a ha b hb c hc s (by omega)]
  exact ⟨fun z => ⟨z.1.1, z.1.2.1, z.1.2.2, z.2⟩, fun z => ⟨⟨z.1, z.2.1, z.2.2.1⟩, z.2.2.2⟩⟩
theorem tmS_skip {μ : Fl} {x : Int32} {K : Nat} : ∀ {d : Nat}, (∀ k, K ≤ k → k < K + d → ¬ teamP x k) → tmS μ x (K + d) = tmS μ x K
  | 0, _ => rfl
  | d + 1, h => by
    show tmS μ x (K + d + 1) = _
    rw [tmS_no (h (K + d) (by omega) (by omega))]
    exact tmS_skip (fun k h1 h2 => h k h1 (by omega))
def TQ (μ : Fl) (x : Int32) (K : Nat) (L M : Fl) : Prop := (tmS μ x K = none → M 0 = 2147483647) ∧ ∀ b, tmS μ x K = some b → M 0 = tv μ b ∧ ∀ i, i < 3 → L i = tmL b i
theorem TQ.skip {μ : Fl} {x : Int32} {K K' n : Nat} {L M : Fl} (h : TQ μ x K L M) (hn : n ≤ 6) (hx : 0 ≤ x ∧ x ≤ 1 <<< (nI n &&& 31) - 1) (hK : K ≤ K') (h216 : K' ≤ 216) (ho : ∀ k, K ≤ k → k < K' → ¬ (k / 6 / 6 < n ∧ k / 6 % 6 < n ∧ k % 6 < n)) : TQ μ x K' L M := by
  obtain ⟨d, rfl⟩ := Nat.exists_eq_add_of_le hK
  have e : tmS μ x (K + d) = tmS μ x K := tmS_skip (fun k h1 h2 q => ho k h1 h2 (team_lt hn hx (by omega) q))
  unfold TQ
  rw [e]
  exact h
theorem TQ.no {μ : Fl} {x : Int32} {K : Nat} {L M : Fl} (h : TQ μ x K L M) (hp : ¬ teamP x K) : TQ μ x (K + 1) L M := by
  unfold TQ
  rw [tmS_no hp]
  exact h
theorem TQ.yes {μ : Fl} {x : Int32} {K : Nat} {L M : Fl} (hp : teamP x K) (h : TQ μ x K L M) (hv : tv μ K < M 0) : TQ μ x (K + 1) (upd (upd (upd L 0 (nI (K / 6 / 6))) 1 (nI (K / 6 % 6))) 2 (nI (K % 6))) (upd M 0 (tv μ K)) := by
  have e : tmS μ x (K + 1) = some K := by
    cases hb : tmS μ x K with
    | none => exact tmS_none hp hb
    | some b => exact tmS_less hp hb (by rw [← (h.2 b hb).1]; exact hv)
  refine ⟨fun z => absurd (e.symm.trans z) (fun q => by cases q), fun b hb => ?_⟩
  have hT := TInv.put (t := L) e b hb
  rw [e] at hb
  cases hb
  exact ⟨pk_us, hT⟩
theorem TQ.more {μ : Fl} {x : Int32} {K : Nat} {L M : Fl} (hp : teamP x K) (h : TQ μ x K L M) (hv : ¬ tv μ K < M 0) (hm : tv μ K < 2147483647) : TQ μ x (K + 1) L M := by
  cases hb : tmS μ x K with
  | none => exact absurd (by rw [h.1 hb]; exact hm) hv
  | some b =>
    have e : tmS μ x (K + 1) = some b := tmS_more hp hb (by rw [← (h.2 b hb).1]; exact hv)
    refine ⟨fun z => absurd (e.symm.trans z) (fun q => by cases q), fun c hc => ?_⟩
    rw [e] at hc
    cases hc
    exact h.2 b hb
def LC (μ : Fl) (k l : Nat) (h : Fl) : Prop := ∀ i m, m < 3 → (i < k ∨ (i = k ∧ m < l)) → h (m * 6 + i) = legS μ i m
theorem LC.put {μ : Fl} {k l : Nat} {h : Fl} {v : Int32} (hh : LC μ k l h) (hk : k < 6) (hl : l < 3) (hv : v = legS μ k l) : LC μ k (l + 1) (upd h (l * 6 + k) v) := fun i m hm hi => by
  by_cases e : i = k ∧ m = l
  · obtain ⟨rfl, rfl⟩ := e; rw [pk_us]; exact hv
  · rw [pk_un (by omega)]; exact hh i m hm (by omega)
theorem LC.next {μ : Fl} {k : Nat} {h : Fl} (hh : LC μ k 3 h) : LC μ (k + 1) 0 h := fun i m hm hi => hh i m hm (by omega)
def WgO (σ : St) (a b c : Nat) : RZ := fun w s => ((σ.1 9 a + σ.1 9 (6 + b) + σ.1 9 (12 + c)) < σ.1 10 0 ∧ w = none ∧ s = setR (setR σ 10 (upd (σ.1 10) 0 (σ.1 9 a + σ.1 9 (6 + b) + σ.1 9 (12 + c)))) 8 (upd (upd (upd (σ.1 8) 0 (nI a)) 1 (nI b)) 2 (nI c))) ∨ (¬ (σ.1 9 a + σ.1 9 (6 + b) + σ.1 9 (12 + c)) < σ.1 10 0 ∧ w = none ∧ s = σ)
def ChO (σ : St) (μ : Fl) (x : Int32) : RZ := fun w s => ∃ f g h L M : Fl, TQ μ x 216 L M ∧ w = some (.int (M 0)) ∧ s = setR (setR (setR (setR (setR σ 5 f) 6 g) 9 h) 10 M) 8 L
