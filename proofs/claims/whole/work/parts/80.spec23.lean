/-! rows that agree: races, means -/
theorem draw_agr {n : Nat} {μ ν : Fl} (g : Agr n μ ν) : drawZ μ = drawZ ν ∧ drawV μ = drawV ν := by
  have e : drawZ μ = drawZ ν := by unfold drawZ; rw [g 1 (by omega)]
  exact ⟨e, by unfold drawV; rw [e]⟩
theorem oddsN_agr {n r y : Nat} {μ ν : Fl} (g : Agr n μ ν) (hr : r < n) (hy : fl ν r 3 = nI y) (hy3 : y < 30) : oddsN μ n r = oddsN ν n r := by
  have e : fl μ r 3 = nI y := (g.fl hr (by omega)).trans hy
  unfold oddsN
  rw [e, hy, cl_nI (by omega), nrv_agr g hr (Nat.le_refl n), odds_agr g hr hy3, show fl μ r (7 + y) = fl ν r (7 + y) from g.fl hr (by omega), show fl μ r 5 = fl ν r 5 from g.fl hr (by omega)]
theorem ifp {P Q : Prop} [Decidable P] [Decidable Q] {x y : Int32} {u v : Int32} (h : P ↔ Q) (e1 : x = u) (e2 : y = v) : (if P then x else y) = if Q then u else v := by
  by_cases q : Q
  · rw [if_pos q, if_pos (h.mpr q), e1]
  · rw [if_neg q, if_neg (fun z => q (h.mp z)), e2]
theorem step_agr {n r y : Nat} {μ ν : Fl} (g : Agr n μ ν) (hr : r < n) (hy : fl ν r 3 = nI y) (hy3 : y < 30) : Agr n (stepM μ n r) (stepM ν n r) ∧ stepD μ n r = stepD ν n r := by
  have eo := oddsN_agr g hr hy hy3
  obtain ⟨ez, ev⟩ := draw_agr g
  have hd : dropP μ n r ↔ dropP ν n r := by unfold dropP; rw [eo, ev]
  have a0 : fl μ r 0 = fl ν r 0 := g.fl hr (by omega)
  have a3 : fl μ r 3 = fl ν r 3 := g.fl hr (by omega)
  have a4 : fl μ r 4 = fl ν r 4 := g.fl hr (by omega)
  have a5 : fl μ r 5 = fl ν r 5 := g.fl hr (by omega)
  have a6 : fl μ r 6 = fl ν r 6 := g.fl hr (by omega)
  have ap : fl μ r (7 + y) = fl ν r (7 + y) := g.fl hr (by omega)
  have hdr : Agr n (drawn μ n r) (drawn ν n r) := by
    unfold drawn
    rw [eo]
    by_cases h : 0 < oddsN ν n r
    · rw [if_pos h, if_pos h]; exact g.put ez
    · rw [if_neg h, if_neg h]; exact g
  refine ⟨?_, ifp hd rfl rfl⟩
  unfold stepM
  refine (((hdr.put ?_).put ?_).put ?_).put (by rw [a3])
  · rw [a4, a0, a3, hy, cl_nI (by omega), ap, ifp hd (g 0 (by omega)) rfl]
  · rw [a5]; exact ifp hd rfl rfl
  · rw [a6, ifp hd rfl rfl]
theorem go_agr {n : Nat} {μ ν : Fl} (g : Agr n μ ν) (hok : Ok n ν) : ∀ k, Agr n (goM n μ k) (goM n ν k) ∧ goD n μ k = goD n ν k
  | 0 => ⟨g, rfl⟩
  | k + 1 => by
    obtain ⟨ih, ihd⟩ := go_agr g hok k
    have hk := hok.go k
    have e := nxt_agr ih (Nat.le_refl n)
    cases hb : nxt (goM n ν k) n with
    | none =>
      rw [hb] at e
      rw [(go_stuck e 1).1, (go_stuck e 1).2, (go_stuck hb 1).1, (go_stuck hb 1).2]
      exact ⟨ih, ihd⟩
    | some r =>
      rw [hb] at e
      obtain ⟨hr, hh⟩ := nxt_lt hb
      obtain ⟨y, hy3, hy⟩ := hk.yard hr hh
      obtain ⟨s1, s2⟩ := step_agr ih hr hy hy3
      rw [goM_s e, goM_s hb, goD_s e, goD_s hb, ihd, s2]
      exact ⟨s1, rfl⟩
theorem start_agr {n : Nat} {μ ν : Fl} (g : Agr n μ ν) : ∀ k, Agr n (startM μ k) (startM ν k)
  | 0 => g
  | k + 1 => by
    unfold startM
    exact ((((start_agr g k).put rfl).put rfl).put rfl).put rfl
theorem ahead_agr {n a b : Nat} {μ ν : Fl} (g : Agr n μ ν) (ha : a < n) (hb : b < n) : aheadP μ a b ↔ aheadP ν a b := by
  unfold aheadP
  rw [show fl μ a 4 = fl ν a 4 from g.fl ha (by omega), show fl μ b 4 = fl ν b 4 from g.fl hb (by omega)]
theorem fst_agr {n : Nat} {μ ν : Fl} (g : Agr n μ ν) : ∀ {k : Nat}, k ≤ n → fst μ k = fst ν k
  | 0, _ => rfl
  | k + 1, hk => by
    have ih := fst_agr g (k := k) (by omega)
    cases hb : fst ν k with
    | none => rw [fst_none hb, fst_none (ih.trans hb)]
    | some b =>
      have hl := fst_lt hb
      have q := ahead_agr g (a := k) (b := b) (by omega) (by omega)
      by_cases ht : aheadP ν k b
      · rw [fst_yes hb ht, fst_yes (ih.trans hb) (q.mpr ht)]
      · rw [fst_no hb ht, fst_no (ih.trans hb) (fun z => ht (q.mp z))]
theorem place_agr {n r : Nat} {μ ν : Fl} (g : Agr n μ ν) (hr : r < n) : ∀ {k : Nat}, k ≤ n → placeS μ r k = placeS ν r k
  | 0, _ => rfl
  | k + 1, hk => by
    unfold placeS
    rw [place_agr g hr (k := k) (by omega)]
    by_cases h : k = r
    · rw [if_pos h, if_pos h]
    · rw [if_neg h, if_neg h, ifp (ahead_agr g (by omega) hr) rfl rfl]
theorem race_agr {n : Nat} {μ ν : Fl} (g : Agr n μ ν) (hok : Ok n ν) : ∀ k, Agr n (raceM n μ k) (raceM n ν k)
  | 0 => g
  | k + 1 => by
    unfold raceM
    exact (go_agr (start_agr (race_agr g hok k) n) (hok.race k).start 180).1
theorem wins_agr {n : Nat} {μ ν : Fl} {r : Int32} (g : Agr n μ ν) (hok : Ok n ν) : ∀ k, winsS n μ r k = winsS n ν r k
  | 0 => rfl
  | k + 1 => by
    unfold winsS
    rw [wins_agr g hok k, fst_agr (race_agr g hok (k + 1)) (Nat.le_refl n)]
theorem beh_agr {n r y s : Nat} {μ ν f : Fl} {p : Int32} (g : Agr n μ ν) (hr : r < n) (hy : y < 30) : behS f μ r y s p = behS f ν r y s p := by
  unfold behS
  rw [odds_agr g hr hy, show fl μ r 0 = fl ν r 0 from g.fl hr (by omega), g 0 (by omega)]
theorem bp_agr {n r y s : Nat} {μ ν f : Fl} (g : Agr n μ ν) (hr : r < n) (hy : y < 30) : ∀ q, bpS f μ r y s q = bpS f ν r y s q
  | 0 => by rw [bpS, bpS]
  | 1 => by rw [bpS, bpS]
  | q + 2 => by rw [bpS, bpS, bp_agr g hr hy (q + 1), beh_agr g hr hy, beh_agr g hr hy]
theorem mpc_agr {n r y s : Nat} {b : Bool} {μ ν f : Fl} (g : Agr n μ ν) (hr : r < n) (hy : y < 30) : mpc b f μ r y s = mpc b f ν r y s := by
  unfold mpc
  rw [bp_agr g hr hy, show fl μ r (7 + y) = fl ν r (7 + y) from g.fl hr (by omega)]
theorem mrow_agr {n r e : Nat} {b : Bool} {μ ν : Fl} (g : Agr n μ ν) (hr : r < n) (he : e ≤ 30) : ∀ d, d ≤ e → mrow b μ r e d = mrow b ν r e d
  | 0, _ => by funext s; rfl
  | d + 1, hd => by
    have ih := mrow_agr (b := b) g hr he d (by omega)
    funext s
    rw [mrow, mrow, ih, mpc_agr g hr (by omega), beh_agr g hr (by omega)]
theorem mRow_agr {n r e y s : Nat} {b : Bool} {μ ν : Fl} (g : Agr n μ ν) (hr : r < n) (he : e ≤ 30) : mRow b μ r e y s = mRow b ν r e y s := by
  unfold mRow
  rw [mrow_agr g hr he _ (by omega)]
theorem mean_agr {n r : Nat} {μ ν : Fl} (g : Agr n μ ν) (hr : r < n) : meanS μ r = meanS ν r := mRow_agr g hr (by omega)
theorem mPc_agr {n r y s : Nat} {b : Bool} {μ ν : Fl} (g : Agr n μ ν) (hr : r < n) (hy : y < 30) : mPc b μ r 30 y s = mPc b ν r 30 y s := by
  unfold mPc
  have e : mRow b μ r 30 (y + 1) = mRow b ν r 30 (y + 1) := funext fun s => mRow_agr g hr (by omega)
  rw [e, mpc_agr g hr hy]
theorem ad_agr {n : Nat} {μ ν : Fl} (g : Agr n μ ν) : ∀ {k : Nat}, k ≤ n → adS μ k = adS ν k
  | 0, _ => rfl
  | k + 1, hk => by
    unfold adS
    rw [ad_agr g (k := k) (by omega), show fl μ k 6 = fl ν k 6 from g.fl (by omega) (by omega)]
theorem gr_agr {n : Nat} {μ ν : Fl} (g : Agr n μ ν) : ∀ {k : Nat}, k ≤ 30 → grS μ k = grS ν k
  | 0, _ => rfl
  | k + 1, hk => by
    unfold grS
    rw [gr_agr g (k := k) (by omega), g (3 + k) (by omega)]
theorem hg_agr {n : Nat} {μ ν : Fl} (g : Agr n μ ν) : ∀ {k : Nat}, k ≤ 10 → hgS μ k = hgS ν k
  | 0, _ => rfl
  | k + 1, hk => by
    unfold hgS
    rw [hg_agr g (k := k) (by omega), g (255 + k) (by omega)]
