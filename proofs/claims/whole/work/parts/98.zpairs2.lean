/-! the other calls: images, THE TAPE, a TEXT, SHEETS -/
theorem p_undo {σ : St} (h : Rel σ) : Pair Y_X8_undo Y_X9_undo [] σ := by
  obtain ⟨⟨n, ok, g⟩, h3, h4, ⟨m, h5, h6⟩, ⟨t, h7, h8, h9, h10⟩, h11, h12, h13⟩ := id h
  refine ⟨_, c_X8_undo σ m h5.2.1 h5.1, fun v σ1 h1 => ⟨⟨_, h1.1⟩, ?_⟩⟩
  have e21 : σ1.1 21 = σ.1 21 := pc_off (r := 21) h1 (by decide) (by decide) (by decide)
  have e23 : σ1.1 23 = σ.1 23 := pc_off (r := 23) h1 (by decide) (by decide) (by decide)
  refine ⟨_, c_X9_undo σ1, fun w σ2 h2 => ?_⟩
  rw [e21, e23] at h2
  rw [h4] at h1
  refine rel_an h (AnR.ite (fun _ => AnR.low) (fun c => ?_)) h1 h2
  have g6 := h6 c
  exact AnR.row (h5.2.1.symm.trans (g6 2 (by omega))) (h5.agr g6) (Agr.bcm.tr g6)
theorem ph_ne {σ : St} {r : Nat} {f : Fl} (h : ∀ s, s < 4 → r ≠ 14 + s) : ∀ s, s < 4 → Ph (setR σ r f) s = Ph σ s := fun s hs => setR_ne σ f (fun z => h s hs z.symm)
theorem SR.of {Φ Ψ : Nat → Fl} {bt sz nm : Fl} (h : SR Φ bt sz nm) (e : ∀ s, s < 4 → Ψ s = Φ s) : SR Ψ bt sz nm := fun s hs => by rw [e s hs]; exact h s hs
theorem p_image {σ : St} (h : Rel σ) : Pair Y_X8_image Y_X9_image [] σ := by
  obtain ⟨⟨n, ok, g⟩, h3, h4, ⟨m, h5, h6⟩, ⟨t, h7, h8, h9, h10⟩, h11, h12, h13⟩ := id h
  have ok0 := ok.agr g.sym
  refine ⟨_, c_X8_image σ n ok0.2.1 ok.1, fun v σ1 h1 => ⟨⟨_, h1.1⟩, ?_⟩⟩
  obtain ⟨rfl, rfl⟩ := h1
  refine ⟨_, c_X9_image _, fun w σ2 h2 => ?_⟩
  obtain ⟨rfl, rfl⟩ := h2
  refine ⟨rfl, ⟨n, ok, g⟩, h3, rfl, ⟨n, ok0.agr Agr.bcm.sym, fun _ => Agr.bcm.tr g⟩, ⟨t, h7, h8, h9, h10⟩, h11, h12, h13.of (fun s hs => ?_)⟩
  show (setR (setR (setR (setR σ 1 _) 4 _) 21 _) 23 _).1 (14 + s) = σ.1 (14 + s)
  rw [setR_ne _ _ (by omega), setR_ne _ _ (by omega), setR_ne _ _ (by omega), setR_ne _ _ (by omega)]
theorem p_tear {σ : St} (h : Rel σ) : Pair Y_X8_tear Y_X9_tear [] σ := by
  obtain ⟨⟨n, ok, g⟩, h3, h4, ⟨m, h5, h6⟩, ⟨t, h7, h8, h9, h10⟩, h11, h12, h13⟩ := id h
  refine ⟨_, c_X8_tear σ, fun v σ1 h1 => ⟨⟨_, h1.1⟩, ?_⟩⟩
  obtain ⟨rfl, rfl⟩ := h1
  refine ⟨_, c_X9_tear _, fun w σ2 h2 => ?_⟩
  obtain ⟨rfl, rfl⟩ := h2
  refine ⟨by rw [h4]; rfl, ⟨n, ok, g⟩, h3, rfl, ⟨m, h5, fun z => absurd rfl z⟩, ⟨t, h7, h8, h9, h10⟩, h11, h12, h13.of (fun s hs => ?_)⟩
  show (setR (setR σ 4 _) 23 _).1 (14 + s) = σ.1 (14 + s)
  rw [setR_ne _ _ (by omega), setR_ne _ _ (by omega)]
theorem p_wipe {σ : St} (h : Rel σ) : Pair Y_X8_wipe Y_X9_wipe [] σ := by
  obtain ⟨⟨n, ok, g⟩, h3, h4, ⟨m, h5, h6⟩, ⟨t, h7, h8, h9, h10⟩, h11, h12, h13⟩ := id h
  refine ⟨_, c_X8_wipe σ t h8, fun v σ1 h1 => ⟨⟨_, h1.1⟩, ?_⟩⟩
  obtain ⟨rfl, rfl⟩ := h1
  refine ⟨_, c_X9_wipe _ t h9 h7, fun w σ2 h2 => ?_⟩
  obtain ⟨rfl, rfl⟩ := h2
  refine ⟨rfl, ⟨n, ok, g⟩, h3, h4, ⟨m, h5, h6⟩, ⟨0, by omega, rfl, rfl, fun i hi => by omega⟩, h11, h12, h13.of (fun s hs => ?_)⟩
  show (setR (setR (setR σ 13 _) 29 _) 23 _).1 (14 + s) = σ.1 (14 + s)
  rw [setR_ne _ _ (by omega), setR_ne _ _ (by omega), setR_ne _ _ (by omega)]
theorem p_feed {σ : St} (h : Rel σ) (a0 a1 : Int32) : Pair Y_X8_feed Y_X9_feed [.int a0, .int a1] σ := by
  obtain ⟨⟨n, ok, g⟩, h3, h4, ⟨m, h5, h6⟩, ⟨t, h7, h8, h9, h10⟩, h11, h12, h13⟩ := id h
  refine ⟨_, c_X8_feed σ t h8 h7 h10 a0 a1, fun v σ1 h1 => ⟨⟨_, h1.1⟩, ?_⟩⟩
  obtain ⟨hv, hs⟩ := h1
  have hle : ∀ q, sFeed (σ.1 11) t a0 a1 = .inr q → q.2.2 ≤ 120 := fun q hq => by
    unfold sFeed at hq
    split at hq
    · split at hq
      · cases hq
      · cases hq; dsimp only; omega
    · cases hq
  cases e : sFeed (σ.1 11) t a0 a1 with
  | inl i =>
    rw [e] at hv hs
    dsimp only at hs
    subst hs
    refine ⟨_, c_X9_feed (setR σ 3 (upd (σ.1 3) i (σ.1 3 i + 1))) t h9 h7 a0 a1, fun w σ2 h2 => ?_⟩
    have e2 : sFeed ((setR σ 3 (upd (σ.1 3) i (σ.1 3 i + 1))).1 29) t a0 a1 = .inl i := by
      show sFeed (σ.1 29) t a0 a1 = _
      rw [← h11]; exact e
    rw [e2] at h2
    obtain ⟨rfl, rfl⟩ := h2
    exact ⟨hv, h.found⟩
  | inr q =>
    have hq := hle q e
    obtain ⟨x, b, t'⟩ := q
    rw [e] at hv hs
    obtain ⟨κ, hK, hs⟩ := hs
    dsimp only at hK hs hq
    subst hs
    refine ⟨_, c_X9_feed (setR (setR (setR σ 11 b) 12 κ) 13 (upd (σ.1 13) 0 (nI t'))) t h9 h7 a0 a1, fun w σ2 h2 => ?_⟩
    have e2 : sFeed ((setR (setR (setR σ 11 b) 12 κ) 13 (upd (σ.1 13) 0 (nI t'))).1 29) t a0 a1 = .inr (x, b, t') := by
      show sFeed (σ.1 29) t a0 a1 = _
      rw [← h11]; exact e
    rw [e2] at h2
    obtain ⟨rfl, rfl⟩ := h2
    refine ⟨hv, ⟨n, ok, g⟩, h3, h4, ⟨m, h5, h6⟩, ⟨t', hq, rfl, rfl, hK⟩, rfl, h12, h13.of (fun s hs => ?_)⟩
    show (setR (setR (setR (setR (setR σ 11 _) 12 _) 13 _) 29 _) 23 _).1 (14 + s) = σ.1 (14 + s)
    rw [setR_ne _ _ (by omega), setR_ne _ _ (by omega), setR_ne _ _ (by omega), setR_ne _ _ (by omega), setR_ne _ _ (by omega)]
theorem p_text {σ : St} (h : Rel σ) : Pair Y_X8_text Y_X9_text [] σ := by
  obtain ⟨⟨n, ok, g⟩, h3, h4, ⟨m, h5, h6⟩, ⟨t, h7, h8, h9, h10⟩, h11, h12, h13⟩ := id h
  have ok0 := ok.agr g.sym
  refine ⟨_, c_X8_text σ n ok0 t h8 h7 h10, fun v σ1 h1 => ?_⟩
  obtain ⟨f1, f2, f3⟩ := h1
  have e20 := f1 20 (by omega) (by omega) (by omega)
  have e23 := f1 23 (by omega) (by omega) (by omega)
  have e29 := f1 29 (by omega) (by omega) (by omega)
  have hx : ∃ x, v = some (.int x) := by
    rcases f3 with ⟨f, -, e, -⟩ | ⟨k, ν, m', -, e, -⟩
    · exact ⟨_, e⟩
    · exact ⟨_, e⟩
  refine ⟨hx, _, c_X9_text σ1 n (by rw [e20]; exact ok) t (by rw [e23]; exact h9) h7, fun w σ2 h2 => ?_⟩
  obtain ⟨φ, p0, p1, p2, p3, p4, p5⟩ := h2
  have ga : Agr n (bcm (σ.1 2) (σ.1 0) n) (σ.1 20) := Agr.bcm.tr g
  obtain ⟨ta, tb⟩ := text_agr (b := σ.1 11) (t := t) (d := 121) (k := 0) (p := 0) ga ok
  rw [e20, e29, ← h11] at p5
  have off : ∀ r, r ≠ 0 → r ≠ 2 → r ≠ 13 → r ≠ 22 → r ≠ 23 → r ≠ 20 → σ2.1 r = σ.1 r := fun r q0 q2 q13 q22 q23 q20 => (p2 r q22 q23 q20).trans (f1 r q0 q2 q13)
  have o0 : σ2.1 0 = σ1.1 0 := p2 0 (by omega) (by omega) (by omega)
  have o13 : σ2.1 13 = σ1.1 13 := p2 13 (by omega) (by omega) (by omega)
  have key : ∀ k (μ ν : Fl), σ2.1 0 = μ → σ2.1 20 = ν → Ok k ν → Agr k μ ν → Rel σ2 := fun k μ ν q1 q2 q3 q4 => by
    refine ⟨⟨k, by rw [q2]; exact q3, by rw [q1, q2]; exact q4⟩, ?_, ?_, ⟨m, ?_, ?_⟩, ⟨0, by omega, ?_, ?_, fun i hi => by omega⟩, ?_, ?_, ?_⟩
    · rw [off 3 (by omega) (by omega) (by omega) (by omega) (by omega) (by omega), off 24 (by omega) (by omega) (by omega) (by omega) (by omega) (by omega)]; exact h3
    · rw [off 4 (by omega) (by omega) (by omega) (by omega) (by omega) (by omega), p3, p0, e23]; exact h4
    · rw [off 1 (by omega) (by omega) (by omega) (by omega) (by omega) (by omega)]; exact h5
    · rw [off 1 (by omega) (by omega) (by omega) (by omega) (by omega) (by omega), off 21 (by omega) (by omega) (by omega) (by omega) (by omega) (by omega), p3, p0, e23]; exact h6
    · rw [o13]; exact f2
    · rw [p3]; exact p1
    · rw [off 11 (by omega) (by omega) (by omega) (by omega) (by omega) (by omega), off 29 (by omega) (by omega) (by omega) (by omega) (by omega) (by omega)]; exact h11
    · rw [off 30 (by omega) (by omega) (by omega) (by omega) (by omega) (by omega), off 31 (by omega) (by omega) (by omega) (by omega) (by omega) (by omega)]; exact h12
    · rw [off 30 (by omega) (by omega) (by omega) (by omega) (by omega) (by omega), off 31 (by omega) (by omega) (by omega) (by omega) (by omega) (by omega), off 32 (by omega) (by omega) (by omega) (by omega) (by omega) (by omega)]
      exact h13.of (fun s hs => off (14 + s) (by omega) (by omega) (by omega) (by omega) (by omega) (by omega))
  rcases p5 with ⟨f, r1, r2, r3⟩ | ⟨k, ν, r1, r2, r3⟩
  · have s1 := ta f r1
    rcases f3 with ⟨f', t1, t2, t3⟩ | ⟨k', ν', m', t1, -⟩
    · rw [s1] at t1
      cases t1
      exact ⟨t2.trans r2.symm, key n (σ.1 0) (σ.1 20) (o0.trans t3) r3 ok g⟩
    · rw [s1] at t1; cases t1
  · obtain ⟨m1, μ1, s1, s2, s3⟩ := tb k ν r1
    rcases f3 with ⟨f', t1, -⟩ | ⟨k', ν', m', t1, t2, t3, t4⟩
    · rw [s1] at t1; cases t1
    · rw [s1] at t1
      cases t1
      have hm : m' = m1 := by
        have a1 := t3.2.1
        have a2 := s3.2.1
        rw [s2 2 (by omega), a2] at a1
        have b1 := t3.1
        have b2 := s3.1
        exact ((nI_eq (by omega) (by omega)).mp a1).symm
      subst hm
      exact ⟨t2.trans r2.symm, key m' _ ν (o0.trans t4) r3 s3 (Agr.bcm.tr s2)⟩
/-- both calls of a SHEET -/
theorem rel_sh {σ σ1 σ2 : St} {an : CSAn} {an' : SAn} {v w : Option Value} (h : Rel σ) (q : KR (Ph σ) an an') (h1 : PCS σ an v σ1) (h2 : PS σ1 an' w σ2) : v = w ∧ Rel σ2 := by
  obtain ⟨hv, hs⟩ := h1
  obtain ⟨hw, ht⟩ := h2
  subst hs; subst ht
  rcases q with ⟨i, rfl, rfl⟩ | ⟨x, s, f, bt, sz, nm, rfl, rfl, hs, so, sr⟩
  · exact ⟨hv.trans hw.symm, h.found⟩
  · refine ⟨hv.trans hw.symm, ?_⟩
    obtain ⟨⟨n, ok, g⟩, h3, h4, ⟨m, h5, h6⟩, ⟨t, h7, h8, h9, h10⟩, h11, h12, h13⟩ := h
    have off : ∀ r, r ≠ 14 + s → r ≠ 30 → r ≠ 31 → r ≠ 32 → (setR (setR (setR (setR σ (14 + s) f) 30 bt) 31 sz) 32 nm).1 r = σ.1 r := fun r q0 q1 q2 q3 => by
      rw [setR_ne _ _ q3, setR_ne _ _ q2, setR_ne _ _ q1, setR_ne _ _ q0]
    show Rel (setR (setR (setR (setR σ (14 + s) f) 30 bt) 31 sz) 32 nm)
    have e0 := off 0 (by omega) (by omega) (by omega) (by omega)
    have e1 := off 1 (by omega) (by omega) (by omega) (by omega)
    have e3 := off 3 (by omega) (by omega) (by omega) (by omega)
    have e4 := off 4 (by omega) (by omega) (by omega) (by omega)
    have e11 := off 11 (by omega) (by omega) (by omega) (by omega)
    have e12 := off 12 (by omega) (by omega) (by omega) (by omega)
    have e13 := off 13 (by omega) (by omega) (by omega) (by omega)
    have e20 := off 20 (by omega) (by omega) (by omega) (by omega)
    have e21 := off 21 (by omega) (by omega) (by omega) (by omega)
    have e23 := off 23 (by omega) (by omega) (by omega) (by omega)
    have e24 := off 24 (by omega) (by omega) (by omega) (by omega)
    have e29 := off 29 (by omega) (by omega) (by omega) (by omega)
    unfold Rel
    rw [e0, e1, e3, e4, e11, e12, e13, e20, e21, e23, e24, e29]
    refine ⟨⟨n, ok, g⟩, h3, h4, ⟨m, h5, h6⟩, ⟨t, h7, h8, h9, h10⟩, h11, so, sr.of (fun q hq => ?_)⟩
    show (setR (setR (setR (setR σ (14 + s) f) 30 bt) 31 sz) 32 nm).1 (14 + q) = if q = s then f else σ.1 (14 + q)
    rw [setR_ne _ _ (by omega), setR_ne _ _ (by omega), setR_ne _ _ (by omega)]
    by_cases e : q = s
    · subst e; rw [setR_at, if_pos rfl]
    · rw [setR_ne _ _ (by omega), if_neg e]
theorem pcs_off {σ σ1 : St} {an : CSAn} {v : Option Value} {r : Nat} (q : ∀ x s f, an = .inr (x, s, f) → s < 4) (h1 : PCS σ an v σ1) (hr : 18 ≤ r) : σ1.1 r = σ.1 r := by
  obtain ⟨-, hs⟩ := h1
  subst hs
  cases an with
  | inl i => exact setR_ne _ _ (by omega)
  | inr y =>
    obtain ⟨x, s, f⟩ := y
    have := q x s f rfl
    exact setR_ne _ _ (by show r ≠ 14 + s; omega)
theorem KR.lt {Φ : Nat → Fl} {an : CSAn} {an' : SAn} (q : KR Φ an an') : ∀ x s f, an = .inr (x, s, f) → s < 4 := fun x s f e => by
  rcases q with ⟨i, rfl, rfl⟩ | ⟨x', s', f', bt, sz, nm, rfl, rfl, hs, so, sr⟩
  · cases e
  · cases e; exact hs
theorem p_sheet {σ : St} (h : Rel σ) (a0 a1 a2 : Int32) : Pair Y_X8_sheet Y_X9_sheet [.int a0, .int a1, .int a2] σ := by
  obtain ⟨-, -, -, -, -, -, h12, h13⟩ := id h
  have q := k_sheet (s := a0) (b := a1) (n := a2) h13 h12
  refine ⟨_, c_X8_sheet σ a0 a1 a2, fun v σ1 h1 => ⟨⟨_, h1.1⟩, ?_⟩⟩
  have e30 : σ1.1 30 = σ.1 30 := pcs_off q.lt h1 (by omega)
  have e31 : σ1.1 31 = σ.1 31 := pcs_off q.lt h1 (by omega)
  have e32 : σ1.1 32 = σ.1 32 := pcs_off q.lt h1 (by omega)
  refine ⟨_, c_X9_sheet σ1 a0 a1 a2, fun w σ2 h2 => ?_⟩
  rw [e30, e31, e32] at h2
  exact rel_sh h q h1 h2
theorem p_write {σ : St} (h : Rel σ) (a0 a1 a2 : Int32) : Pair Y_X8_write Y_X9_write [.int a0, .int a1, .int a2] σ := by
  obtain ⟨-, -, -, -, -, -, h12, h13⟩ := id h
  have q := k_write (s := a0) (i := a1) (v := a2) h13 h12
  refine ⟨_, c_X8_write σ (h13.ok h12) a0 a1 a2, fun v σ1 h1 => ⟨⟨_, h1.1⟩, ?_⟩⟩
  have e30 : σ1.1 30 = σ.1 30 := pcs_off q.lt h1 (by omega)
  have e31 : σ1.1 31 = σ.1 31 := pcs_off q.lt h1 (by omega)
  have e32 : σ1.1 32 = σ.1 32 := pcs_off q.lt h1 (by omega)
  refine ⟨_, c_X9_write σ1 (by rw [e30, e31]; exact h12) a0 a1 a2, fun w σ2 h2 => ?_⟩
  rw [e30, e31, e32] at h2
  exact rel_sh h q h1 h2
theorem p_copy {σ : St} (h : Rel σ) (a0 a1 a2 a3 a4 : Int32) : Pair Y_X8_copy Y_X9_copy [.int a0, .int a1, .int a2, .int a3, .int a4] σ := by
  obtain ⟨-, -, -, -, -, -, h12, h13⟩ := id h
  have q := k_copy (s := a0) (f := a1) (t := a2) (o := a3) (n := a4) h13 h12
  refine ⟨_, c_X8_copy σ (h13.ok h12) a0 a1 a2 a3 a4, fun v σ1 h1 => ⟨⟨_, h1.1⟩, ?_⟩⟩
  have e30 : σ1.1 30 = σ.1 30 := pcs_off q.lt h1 (by omega)
  have e31 : σ1.1 31 = σ.1 31 := pcs_off q.lt h1 (by omega)
  have e32 : σ1.1 32 = σ.1 32 := pcs_off q.lt h1 (by omega)
  refine ⟨_, c_X9_copy σ1 (by rw [e30, e31]; exact h12) a0 a1 a2 a3 a4, fun w σ2 h2 => ?_⟩
  rw [e30, e31, e32] at h2
  exact rel_sh h q h1 h2
