/-! ITEMS: what they promise; rows that can stand -/
def gfK (μ : Fl) (a k : Nat) (g : Int32) : Fl := fun i => if 3 + a ≤ i ∧ i < 3 + a + k then g else μ i
theorem gfK_0 {μ : Fl} {a : Nat} {g : Int32} : gfK μ a 0 g = μ := funext fun i => if_neg (by omega)
theorem gfK_s {μ : Fl} {a k : Nat} {g : Int32} : upd (gfK μ a k g) (3 + (a + k)) g = gfK μ a (k + 1) g := by
  funext i
  simp only [upd, gfK]
  repeat' split
  all_goals first | rfl | (exfalso; omega)
theorem gfK_e {μ : Fl} {a l : Nat} {g : Int32} (h : a ≤ l) : gfK μ a (l + 1 - a) g = gfill μ a l g := by
  funext i
  simp only [gfK, gfill]
  repeat' split
  all_goals first | rfl | (exfalso; omega)
def ItO (σ : St) (t : Nat) (R : Nat ⊕ (Fl × Nat)) : RZ := fun w s => (∃ φ f ν, w = none ∧ φ 0 = σ.1 23 0 ∧ R = .inl f ∧ TK φ (σ.1 29) t f 1 ∧ s = setR (setR σ 23 φ) 20 ν) ∨ (∃ φ ν p', w = none ∧ φ 0 = σ.1 23 0 ∧ R = .inr (ν, p') ∧ TK φ (σ.1 29) t p' 0 ∧ s = setR (setR σ 23 φ) 20 ν)
theorem wd_end {b : Fl} {t w : Nat} : ¬ wdB b t t w = true := by
  intro h
  have h1 := (wdB_iff.mp h).1
  have h2 : fr b t t = t := by
    have a := fr_le (b := b) (Nat.le_refl t)
    have c := fr_ge (b := b) (t := t) (p := t)
    omega
  rw [srt0.mpr h2] at h1
  exact absurd h1 (by decide)
theorem itemR_end {b : Fl} {t : Nat} {μ : Fl} : itemR b t μ t = .inl t := by
  have g : gTold b t t = -1 := by
    rw [gTold, if_neg wd_end, if_neg wd_end, if_neg wd_end, if_neg wd_end, if_neg wd_end]
  have k : kTold b t t = -1 := by
    rw [kTold, if_neg wd_end, if_neg wd_end, if_neg wd_end, if_neg wd_end, if_neg wd_end, if_neg wd_end, if_neg wd_end]
  rw [itemR, g, if_pos (by decide), if_neg wd_end, k, runR, if_neg (fun z => z.1 (by decide))]
theorem gTold_rg {b : Fl} {t p : Nat} (h : ¬ gTold b t p < 0) : ∃ g, g < 5 ∧ gTold b t p = nI g := by
  unfold gTold at h ⊢
  split
  · exact ⟨0, by omega, rfl⟩
  · split
    · exact ⟨1, by omega, rfl⟩
    · split
      · exact ⟨2, by omega, rfl⟩
      · split
        · exact ⟨3, by omega, rfl⟩
        · split
          · exact ⟨4, by omega, rfl⟩
          · rename_i a1 a2 a3 a4 a5
            rw [if_neg a1, if_neg a2, if_neg a3, if_neg a4, if_neg a5] at h
            exact absurd (by decide) h
theorem kTold_rg {b : Fl} {t p : Nat} (h : ¬ kTold b t p < 0) : ∃ g, g < 7 ∧ kTold b t p = nI g := by
  unfold kTold at h ⊢
  split
  · exact ⟨0, by omega, rfl⟩
  · split
    · exact ⟨1, by omega, rfl⟩
    · split
      · exact ⟨2, by omega, rfl⟩
      · split
        · exact ⟨3, by omega, rfl⟩
        · split
          · exact ⟨4, by omega, rfl⟩
          · split
            · exact ⟨5, by omega, rfl⟩
            · split
              · exact ⟨6, by omega, rfl⟩
              · rename_i a1 a2 a3 a4 a5 a6 a7
                rw [if_neg a1, if_neg a2, if_neg a3, if_neg a4, if_neg a5, if_neg a6, if_neg a7] at h
                exact absurd (by decide) h
theorem numR_rg {b : Fl} {t p p' : Nat} {lo hi v : Int32} (h : numR b t p lo hi = .inr (v, p')) : (lo ≤ v ∧ v ≤ hi) ∧ p' = too b t p := by
  unfold numR at h
  split at h
  · rename_i q
    cases h
    exact ⟨q.2, rfl⟩
  · cases h
theorem optR_rg {b : Fl} {t p p' w : Nat} {d lo hi v : Int32} (h : optR b t p w d lo hi = .inr (v, p')) (hd : lo ≤ d ∧ d ≤ hi) : lo ≤ v ∧ v ≤ hi := by
  unfold optR at h
  split at h
  · exact (numR_rg h).1
  · cases h; exact hd
/-- a row that differs from one that can stand only in GROUND or PICK -/
theorem Ok.field {n : Nat} {μ ν : Fl} (h : Ok n μ) (h0 : ∃ p, p < 100 ∧ ν 0 = nI p) (h2 : ν 2 = μ 2) (hg : ∀ y, y < 30 → ∃ g, g < 5 ∧ ν (3 + y) = nI g) (ho : ∀ i, 33 ≤ i → ν i = μ i) : Ok n ν := by
  obtain ⟨a1, a2, a3, a4, a5, a6⟩ := h
  refine ⟨a1, by rw [h2]; exact a2, h0, hg, fun r hr => ?_, fun k hk => by rw [ho _ (by omega)]; exact a6 k hk⟩
  obtain ⟨b1, b2, b3, b4, b5, b6⟩ := a5 r hr
  unfold RunOk fl
  rw [ho _ (by omega), ho _ (by omega), ho _ (by omega), ho _ (by omega), ho _ (by omega)]
  exact ⟨b1, b2, b3, b4, b5, fun y hy => by rw [ho _ (by omega)]; exact b6 y hy⟩
theorem Ok.withG {n a l : Nat} {μ : Fl} (h : Ok n μ) {g : Nat} (hg : g < 5) (hl : l < 30) : Ok n (gfill μ a l (nI g)) := by
  refine h.field ?_ ?_ (fun y hy => ?_) (fun i hi => ?_)
  · show ∃ p, p < 100 ∧ (if 3 + a ≤ 0 ∧ 0 ≤ 3 + l then nI g else μ 0) = nI p
    rw [if_neg (by omega)]; exact h.2.2.1
  · show (if 3 + a ≤ 2 ∧ 2 ≤ 3 + l then nI g else μ 2) = μ 2
    exact if_neg (by omega)
  · show ∃ q, q < 5 ∧ (if 3 + a ≤ 3 + y ∧ 3 + y ≤ 3 + l then nI g else μ (3 + y)) = nI q
    split
    · exact ⟨g, hg, rfl⟩
    · exact h.2.2.2.1 y hy
  · show (if 3 + a ≤ i ∧ i ≤ 3 + l then nI g else μ i) = μ i
    exact if_neg (by omega)
theorem Ok.withP {n q : Nat} {μ : Fl} (h : Ok n μ) (hq : q < 100) : Ok n (upd μ 0 (nI q)) := by
  refine h.field ⟨q, hq, pk_us⟩ (pk_un (by omega)) (fun y hy => ?_) (fun i hi => pk_un (by omega))
  rw [pk_un (by omega)]; exact h.2.2.2.1 y hy
theorem newR_off {n : Nat} {μ : Fl} {k a s p : Int32} {i : Nat} (h2 : i ≠ 2) (h3 : i < 33 + 37 * n ∨ 70 + 37 * n ≤ i) : newR μ n k a s p i = μ i := by
  unfold newR
  rw [if_neg h2, if_neg (by omega)]
theorem newR_in {n : Nat} {μ : Fl} {k a s p : Int32} {w : Nat} (hw : w < 37) : newR μ n k a s p (33 + 37 * n + w) = if w = 0 then k else if w = 1 then a else if w = 2 then s else if w < 7 then 0 else p := by
  unfold newR
  rw [if_neg (by omega), if_pos (by omega)]
  repeat' split
  all_goals first | rfl | (exfalso; omega)
theorem Ok.withR {n k a s p : Nat} {μ : Fl} (h : Ok n μ) (hn : n < 6) (hk : k < 7) (ha : a < 10) (hs : s < 6) (h1 : 1 ≤ p) (h9 : p ≤ 9) : Ok (n + 1) (newR μ n (nI k) (nI a) (nI s) (nI p)) := by
  obtain ⟨a1, a2, a3, a4, a5, a6⟩ := h
  refine ⟨by omega, ?_, ?_, fun y hy => ?_, fun r hr => ?_, fun q hq => ?_⟩
  · show (if 2 = 2 then nI (n + 1) else _) = _
    exact if_pos rfl
  · rw [newR_off (by omega) (by omega)]; exact a3
  · rw [newR_off (by omega) (by omega)]; exact a4 y hy
  · rcases Nat.lt_or_ge r n with q | q
    · obtain ⟨b1, b2, b3, b4, b5, b6⟩ := a5 r q
      unfold RunOk fl
      rw [newR_off (by omega) (by omega), newR_off (by omega) (by omega), newR_off (by omega) (by omega), newR_off (by omega) (by omega), newR_off (by omega) (by omega)]
      exact ⟨b1, b2, b3, b4, b5, fun y hy => by rw [newR_off (by omega) (by omega)]; exact b6 y hy⟩
    · obtain rfl : r = n := by omega
      unfold RunOk fl
      rw [newR_in (by omega), newR_in (by omega), newR_in (by omega), newR_in (by omega), newR_in (by omega)]
      refine ⟨⟨k, hk, rfl⟩, ⟨a, ha, rfl⟩, ⟨s, hs, rfl⟩, ⟨0, by omega, rfl⟩, ⟨0, by omega, rfl⟩, fun y hy => ⟨p, h1, h9, ?_⟩⟩
      rw [newR_in (by omega), if_neg (by omega), if_neg (by omega), if_neg (by omega), if_neg (by omega)]
  · rw [newR_off (by omega) (by omega)]
    rcases a6 q hq with z | ⟨r, hr, z⟩
    · exact Or.inl z
    · exact Or.inr ⟨r, by omega, z⟩
theorem nI6 {n : Nat} (hn : n ≤ 6) : nI n = 6 ↔ n = 6 := nI_eq (b := 6) (by omega) (by omega)
theorem itemR_ok {n : Nat} {b : Fl} {t p p' : Nat} {μ ν : Fl} (h : Ok n μ) (hr : itemR b t μ p = .inr (ν, p')) : ∃ m, Ok m ν := by
  unfold itemR at hr
  split at hr
  · split at hr
    · unfold pkR at hr
      split at hr
      · cases hr
      · rename_i v q e
        cases hr
        obtain ⟨x, rfl, _, hx⟩ := rg 0 99 (numR_rg e).1 (by omega) (by omega)
        exact ⟨n, h.withP (by omega)⟩
    · unfold runR at hr
      split at hr
      · rename_i hc
        split at hr
        · cases hr
        · rename_i x q e
          cases hr
          obtain ⟨k, hk, ek⟩ := kTold_rg hc.1
          unfold rnR at e
          split at e
          · cases e
          · rename_i av p1 e1
            split at e
            · cases e
            · rename_i sv p2 e2
              split at e
              · cases e
              · rename_i pv p3 e3
                cases e
                obtain ⟨a, rfl, _, ha⟩ := rg 0 9 (optR_rg e1 (by decide)) (by omega) (by omega)
                obtain ⟨s, rfl, _, hs⟩ := rg 0 5 (optR_rg e2 (by decide)) (by omega) (by omega)
                obtain ⟨z, rfl, hz1, hz⟩ := rg 1 9 (optR_rg e3 (by decide)) (by omega) (by omega)
                have hn := h.1
                have h2 := h.2.1
                have h6 : n < 6 := by
                  have : ¬ n = 6 := fun z => hc.2 (by rw [h2]; exact (nI6 hn).mpr z)
                  omega
                rw [ek, h2, cl_nI (by omega)]
                exact ⟨n + 1, h.withR h6 hk (by omega) (by omega) hz1 hz⟩
      · cases hr
  · rename_i hg
    unfold gR at hr
    split at hr
    · cases hr
    · rename_i al q e
      cases hr
      obtain ⟨g, hg5, eg⟩ := gTold_rg hg
      rw [eg]
      refine ⟨n, h.withG hg5 ?_⟩
      have hl : al.2 ≤ 29 ∧ 0 ≤ al.2 := by
        unfold gndR at e
        split at e
        · cases e
        · rename_i a p2 e1
          have ha := (numR_rg e1).1
          split at e
          · split at e
            · cases e
            · rename_i l p4 e2
              cases e
              exact ⟨(numR_rg e2).1.2, Int32.le_trans ha.1 (numR_rg e2).1.1⟩
          · cases e
            exact ⟨ha.2, ha.1⟩
      obtain ⟨l, el, _, hl2⟩ := rg 0 29 ⟨hl.2, hl.1⟩ (by omega) (by omega)
      rw [el, cl_nI (by omega)]
      omega
/-- an ITEM takes a TOKEN at least -/
theorem numR_gt {b : Fl} {t p p' : Nat} {lo hi v : Int32} (h : numR b t p lo hi = .inr (v, p')) (hp : p ≤ t) : p < p' ∧ p' ≤ t := by
  unfold numR at h
  split at h
  · rename_i q
    cases h
    exact ⟨too_gt hp (by rw [q.1]; decide), too_le hp⟩
  · cases h
theorem optR_gt {b : Fl} {t p p' w : Nat} {d lo hi v : Int32} (h : optR b t p w d lo hi = .inr (v, p')) (hp : p ≤ t) : p ≤ p' ∧ p' ≤ t := by
  unfold optR at h
  split at h
  · have h1 := numR_gt h (too_le hp)
    have h2 := too_ge (b := b) (t := t) (p := p)
    have h3 := fr_ge (b := b) (t := t) (p := p)
    omega
  · cases h; exact ⟨Nat.le_refl _, hp⟩
theorem itemR_gt {b : Fl} {t p p' : Nat} {μ ν : Fl} (hp : p ≤ t) (hr : itemR b t μ p = .inr (ν, p')) : p < p' ∧ p' ≤ t := by
  have hlt : p < t := by
    rcases Nat.lt_or_ge p t with z | z
    · exact z
    · obtain rfl : p = t := by omega
      rw [itemR_end] at hr
      cases hr
  have h2 := too_ge (b := b) (t := t) (p := p)
  have h3 := fr_ge (b := b) (t := t) (p := p)
  have h4 := too_le (b := b) hp
  unfold itemR at hr
  split at hr
  · split at hr
    · unfold pkR at hr
      split at hr
      · cases hr
      · rename_i v q e
        cases hr
        have := numR_gt e h4
        omega
    · unfold runR at hr
      split at hr
      · rename_i hc
        have hw : p < too b t p := too_gt hp (fun z => by
          have : kTold b t p = -1 := by
            have nw : ∀ w, ¬ wdB b t p w = true := fun w q => by
              have := (wdB_iff.mp q).1
              rw [z] at this
              exact absurd this (by decide)
            rw [kTold, if_neg (nw _), if_neg (nw _), if_neg (nw _), if_neg (nw _), if_neg (nw _), if_neg (nw _), if_neg (nw _)]
          rw [this] at hc
          exact hc.1 (by decide))
        split at hr
        · cases hr
        · rename_i x q e
          cases hr
          unfold rnR at e
          split at e
          · cases e
          · rename_i av p1 e1
            have g1 := optR_gt e1 h4
            split at e
            · cases e
            · rename_i sv p2 e2
              have g2 := optR_gt e2 g1.2
              split at e
              · cases e
              · rename_i pv p3 e3
                have g3 := optR_gt e3 g2.2
                cases e
                omega
      · cases hr
  · unfold gR at hr
    split at hr
    · cases hr
    · rename_i al q e
      cases hr
      unfold gndR at e
      split at e
      · cases e
      · rename_i a p2 e1
        have g1 := numR_gt e1 h4
        split at e
        · split at e
          · cases e
          · rename_i l p4 e2
            have g2 := numR_gt e2 (too_le g1.2)
            have g3 := too_ge (b := b) (t := t) (p := p2)
            have g4 := fr_ge (b := b) (t := t) (p := p2)
            cases e
            omega
        · cases e
          omega
def TxtO (σ : St) (t : Nat) : RZ := fun w s => ∃ φ : Fl, φ 0 = σ.1 23 0 ∧ φ 1 = 0 ∧ (∀ r, r ≠ 22 → r ≠ 23 → r ≠ 20 → s.1 r = σ.1 r) ∧ s.1 23 = φ ∧ s.2 = σ.2 ∧ ((∃ f, textR (σ.1 29) t 121 0 (σ.1 20) 0 = .inl f ∧ w = some (.int (-1 - nI (fr (σ.1 29) t f))) ∧ s.1 20 = σ.1 20) ∨ ∃ k ν, textR (σ.1 29) t 121 0 (σ.1 20) 0 = .inr (k, ν) ∧ w = some (.int (nI k)) ∧ s.1 20 = ν)
