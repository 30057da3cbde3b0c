/-! sets of RUNNERS; a MEET copied can stand -/
theorem smod_k : ∀ k, k < 7 → ((nI k &&& 31).toBitVec.smod 32).toNat = k := by decide +kernel
theorem team_shr {n : Nat} {x : Int32} (hn : n ≤ 6) (h0 : ¬ x < 0) : x >>> (nI n &&& 31) = 0 ↔ (0 ≤ x ∧ x ≤ 1 <<< (nI n &&& 31) - 1) := by
  obtain ⟨s, hs, rfl⟩ := nI_of h0
  have p := pow_le6 n (by omega)
  rw [pk_shrN hs _ n (smod_k n (by omega)), set_top n (by omega)]
  have e1 : nI (s / 2 ^ n) = 0 ↔ s / 2 ^ n = 0 := nI_eq (b := 0) (Nat.lt_of_le_of_lt (Nat.div_le_self _ _) hs) (by omega)
  have e2 : nI s ≤ nI (2 ^ n - 1) ↔ s ≤ 2 ^ n - 1 := nI_leI hs (by omega)
  rw [e1, e2, Nat.div_eq_zero_iff]
  exact ⟨fun z => ⟨nI_pos' hs, by omega⟩, fun z => by have := z.2; omega⟩
theorem team_bc {n : Nat} {x : Int32} (hn : n ≤ 6) (hx : 0 ≤ x ∧ x ≤ 1 <<< (nI n &&& 31) - 1) : bcS x = manyS x 6 := by
  obtain ⟨s, rfl, hs⟩ := set_nat hn hx
  have p := pow_le6 n (by omega)
  exact bcS_many s (by omega)
/-- rows that agree where it counts -/
def Agr (n : Nat) (μ ν : Fl) : Prop := ∀ z, (z < 33 + 37 * n ∨ (255 ≤ z ∧ z < 265)) → μ z = ν z
theorem Agr.bcm {n : Nat} {μ ν : Fl} : Agr n (bcm μ ν n) ν := fun z hz => if_pos hz
theorem Agr.sym {n : Nat} {μ ν : Fl} (h : Agr n μ ν) : Agr n ν μ := fun z hz => (h z hz).symm
theorem Agr.tr {n : Nat} {μ ν ρ : Fl} (h : Agr n μ ν) (g : Agr n ν ρ) : Agr n μ ρ := fun z hz => (h z hz).trans (g z hz)
theorem Agr.fl {n r w : Nat} {μ ν : Fl} (h : Agr n μ ν) (hr : r < n) (hw : w < 37) : μ (33 + 37 * r + w) = ν (33 + 37 * r + w) := h _ (by omega)
theorem Ok.agr {n : Nat} {μ ν : Fl} (h : Ok n μ) (g : Agr n μ ν) : Ok n ν := by
  obtain ⟨h1, h2, h3, h4, h5, h6⟩ := h
  refine ⟨h1, by rw [← g 2 (by omega)]; exact h2, by rw [← g 0 (by omega)]; exact h3, fun y hy => by rw [← g (3 + y) (by omega)]; exact h4 y hy, fun r hr => ?_, fun k hk => by rw [← g (255 + k) (by omega)]; exact h6 k hk⟩
  obtain ⟨b1, b2, b3, b4, b5, b6⟩ := h5 r hr
  unfold RunOk
  refine ⟨?_, ?_, ?_, ?_, ?_, fun y hy => ?_⟩
  · rw [show fl ν r 0 = fl μ r 0 from (g.fl hr (by omega)).symm]; exact b1
  · rw [show fl ν r 1 = fl μ r 1 from (g.fl hr (by omega)).symm]; exact b2
  · rw [show fl ν r 2 = fl μ r 2 from (g.fl hr (by omega)).symm]; exact b3
  · rw [show fl ν r 3 = fl μ r 3 from (g.fl hr (by omega)).symm]; exact b4
  · rw [show fl ν r 5 = fl μ r 5 from (g.fl hr (by omega)).symm]; exact b5
  · rw [show fl ν r (7 + y) = fl μ r (7 + y) from (g.fl hr (by omega)).symm]; exact b6 y hy
/-! what is told of rows that agree -/
theorem nrv_agr {n r : Nat} {μ ν : Fl} (g : Agr n μ ν) (hr : r < n) : ∀ {k : Nat}, k ≤ n → nrv μ r k = nrv ν r k
  | 0, _ => rfl
  | k + 1, hk => by
    unfold nrv
    rw [nrv_agr g hr (k := k) (by omega), show fl μ k 3 = fl ν k 3 from g.fl (by omega) (by omega), show fl μ r 3 = fl ν r 3 from g.fl hr (by omega)]
theorem holds_agr {n r : Nat} {μ ν : Fl} (g : Agr n μ ν) (hr : r < n) : holdsM μ r = holdsM ν r := by
  unfold holdsM
  rw [show fl μ r 0 = fl ν r 0 from g.fl hr (by omega), show fl μ r 1 = fl ν r 1 from g.fl hr (by omega), show fl μ r 2 = fl ν r 2 from g.fl hr (by omega)]
theorem odds_agr {n r y : Nat} {μ ν : Fl} {p s v : Int32} (g : Agr n μ ν) (hr : r < n) (hy : y < 30) : oddsM μ r y p s v = oddsM ν r y p s v := by
  unfold oddsM
  rw [holds_agr g hr, show fl μ r 0 = fl ν r 0 from g.fl hr (by omega), g (3 + y) (by omega)]
theorem nxt_agr {n : Nat} {μ ν : Fl} (g : Agr n μ ν) : ∀ {k : Nat}, k ≤ n → nxt μ k = nxt ν k
  | 0, _ => rfl
  | k + 1, hk => by
    have ih := nxt_agr g (k := k) (by omega)
    unfold nxt nxtIf
    rw [ih, show fl μ k 3 = fl ν k 3 from g.fl (by omega) (by omega)]
    by_cases h : fl ν k 3 = 30
    · rw [if_pos h, if_pos h]
    · rw [if_neg h, if_neg h]
      cases hb : nxt ν k with
      | none => rfl
      | some b =>
        have := (nxt_lt hb).1
        dsimp only
        rw [show fl μ k 4 = fl ν k 4 from g.fl (by omega) (by omega), show fl μ b 4 = fl ν b 4 from g.fl (by omega) (by omega)]
theorem home_agr {n : Nat} {μ ν : Fl} (g : Agr n μ ν) : ∀ {k : Nat}, k ≤ n → homeS μ k = homeS ν k
  | 0, _ => rfl
  | k + 1, hk => by
    unfold homeS
    rw [home_agr g (k := k) (by omega), show fl μ k 3 = fl ν k 3 from g.fl (by omega) (by omega)]
theorem Agr.put {n i : Nat} {μ ν : Fl} {x y : Int32} (g : Agr n μ ν) (h : x = y) : Agr n (upd μ i x) (upd ν i y) := fun z hz => by
  subst h
  by_cases e : z = i
  · subst e; rw [pk_us, pk_us]
  · rw [pk_un e, pk_un e]; exact g z hz
