/-! gum, THE TAPE fed, a TEXT: what the class needs -/
theorem strC1 {n : Nat} {r y k : Int32} : ((isR n r ∧ (0 ≤ y ∧ y ≤ 29) ∧ (0 ≤ k ∧ k ≤ 30 - y)) ∧ (1 ≤ k ∧ k ≤ 8)) ↔ (strP n r y k 8 ∧ ¬ k = 0) := by
  have t0 : (0 : Int32).toInt = 0 := rfl
  have t1 : (1 : Int32).toInt = 1 := rfl
  refine ⟨fun h => ⟨(strC (B := 8) (by omega)).mp ⟨h.1, ⟨h.1.2.2.1, h.2.2⟩⟩, fun z => ?_⟩, fun h => ?_⟩
  · have := Int32.le_iff_toInt_le.mp h.2.1
    rw [z] at this
    omega
  · have q := (strC (B := 8) (by omega)).mpr h.1
    refine ⟨q.1, ?_, q.2.2⟩
    have h1 := Int32.le_iff_toInt_le.mp q.2.1
    rw [Int32.le_iff_toInt_le]
    have : k.toInt ≠ 0 := fun z => h.2 (Int32.toInt_inj.mp (z.trans t0.symm))
    omega
theorem w01 {w : Int32} (h : 0 ≤ w ∧ w ≤ 1) (h1 : ¬ w = 1) : w = 0 := by
  have t0 : (0 : Int32).toInt = 0 := rfl
  have t1 : (1 : Int32).toInt = 1 := rfl
  have a := Int32.le_iff_toInt_le.mp h.1
  have b := Int32.le_iff_toInt_le.mp h.2
  have c : w.toInt ≠ 1 := fun z => h1 (Int32.toInt_inj.mp (z.trans t1.symm))
  exact Int32.toInt_inj.mp (by omega)
theorem shr255 (x : Int32) : ∀ {m : Nat}, m < 4 → (x.toUInt32 >>> ((nI (8 * m)).toUInt32 &&& Int32.toUInt32 31)).toInt32 &&& 255 = x >>> (nI (8 * m) &&& 31) &&& 255 := by
  have key : ∀ k : Nat, k ≤ 24 → (x.toBitVec >>> k) &&& 255#32 = (x.toBitVec.sshiftRight k) &&& 255#32 := by
    intro k hk
    apply BitVec.eq_of_getLsbD_eq
    intro i hi
    rw [BitVec.getLsbD_and, BitVec.getLsbD_and, BitVec.getLsbD_ushiftRight, BitVec.getLsbD_sshiftRight]
    by_cases h8 : i < 8
    · have e1 : decide (32 ≤ i) = false := decide_eq_false (by omega)
      rw [e1, if_pos (by omega)]
      simp
    · have e : (255#32).getLsbD i = false := by
        have : ∀ i : Fin 32, ¬ i.val < 8 → (255#32).getLsbD i.val = false := by decide +kernel
        exact this ⟨i, hi⟩ h8
      rw [e, Bool.and_false, Bool.and_false]
  intro m hm
  apply Int32.toBitVec_inj.mp
  rcases (show m = 0 ∨ m = 1 ∨ m = 2 ∨ m = 3 by omega) with rfl | rfl | rfl | rfl
  · exact key 0 (by omega)
  · exact key 8 (by omega)
  · exact key 16 (by omega)
  · exact key 24 (by omega)
def PTC (σ : St) (an : TAn) : RZ := fun w s => w = some (.int (tanA an)) ∧ match an with
  | .inl i => s = setR σ 3 (upd (σ.1 3) i (σ.1 3 i + 1))
  | .inr q => ∃ κ, TpOk q.2.1 κ q.2.2 ∧ s = setR (setR (setR σ 11 q.2.1) 12 κ) 13 (upd (σ.1 13) 0 (nI q.2.2))
theorem ptc_low {σ s : St} {an : TAn} {i : Nat} {x : Int32} (h : an = .inl i) (hv : x = lowI i) (hs : s = setR σ 3 (upd (σ.1 3) i (σ.1 3 i + 1))) : PTC σ an (some (.int x)) s := by
  subst h; subst hv
  exact ⟨rfl, hs⟩
theorem ptc_of {σ s : St} {an : TAn} {x v : Int32} {b κ : Fl} {t : Nat} (h : an = .inr (v, b, t)) (hv : x = v) (hK : TpOk b κ t) (hs : s = setR (setR (setR σ 11 b) 12 κ) 13 (upd (σ.1 13) 0 (nI t))) : PTC σ an (some (.int x)) s := by
  subst h; subst hv
  exact ⟨rfl, κ, hK, hs⟩
theorem TpOk.put {b κ : Fl} {t : Nat} {v : Int32} (h : TpOk b κ t) : TpOk (upd b t v) (upd κ t (tkb v)) (t + 1) := fun i hi => by
  by_cases e : i = t
  · subst e; rw [pk_us, pk_us]
  · rw [pk_un e, pk_un e]; exact h i (by omega)
/-! rows that agree, read alike -/
theorem new_agr {n : Nat} {μ ν : Fl} {k a s p : Int32} (g : Agr n μ ν) (hn : n < 6) : Agr (n + 1) (newR μ n k a s p) (newR ν n k a s p) := fun z hz => by
  unfold newR
  by_cases h2 : z = 2
  · rw [if_pos h2, if_pos h2]
  · rw [if_neg h2, if_neg h2]
    by_cases h3 : 33 + 37 * n ≤ z ∧ z < 70 + 37 * n
    · rw [if_pos h3, if_pos h3]
    · rw [if_neg h3, if_neg h3]
      exact g z (by omega)
theorem gfill_agr {n a l : Nat} {μ ν : Fl} {x : Int32} (g : Agr n μ ν) : Agr n (gfill μ a l x) (gfill ν a l x) := fun z hz => by
  unfold gfill
  by_cases h : 3 + a ≤ z ∧ z ≤ 3 + l
  · rw [if_pos h, if_pos h]
  · rw [if_neg h, if_neg h]; exact g z hz
theorem item_agr {n : Nat} {b : Fl} {t p : Nat} {μ ν : Fl} (g : Agr n μ ν) (h : Ok n ν) : (∀ f, itemR b t ν p = .inl f → itemR b t μ p = .inl f) ∧ (∀ ν' p', itemR b t ν p = .inr (ν', p') → ∃ m μ', itemR b t μ p = .inr (μ', p') ∧ Agr m μ' ν' ∧ Ok m ν') := by
  have g2 : μ 2 = ν 2 := g 2 (by omega)
  have h2 := h.2.1
  have hn := h.1
  unfold itemR
  by_cases q1 : gTold b t p < 0
  · rw [if_pos q1, if_pos q1]
    by_cases q2 : wdB b t p 6 = true
    · rw [if_pos q2, if_pos q2]
      unfold pkR
      cases e : numR b t (too b t p) 0 99 with
      | inl f => exact ⟨fun _ z => z, fun _ _ z => by cases z⟩
      | inr x =>
        obtain ⟨v, p'⟩ := x
        refine ⟨fun _ z => (by cases z), fun ν' q z => ?_⟩
        cases z
        obtain ⟨x, rfl, _, hx⟩ := rg 0 99 (numR_rg e).1 (by omega) (by omega)
        exact ⟨n, _, rfl, g.put rfl, h.withP (by omega)⟩
    · rw [if_neg q2, if_neg q2]
      unfold runR
      rw [g2]
      by_cases q3 : ¬ kTold b t p < 0 ∧ ¬ ν 2 = 6
      · rw [if_pos q3, if_pos q3]
        cases e : rnR b t p with
        | inl f => exact ⟨fun _ z => z, fun _ _ z => by cases z⟩
        | inr x =>
          obtain ⟨x, p'⟩ := x
          refine ⟨fun _ z => (by cases z), fun ν' q z => ?_⟩
          have hi : itemR b t ν p = .inr (newR ν (cl (ν 2)) (kTold b t p) x.1 x.2.1 x.2.2, p') := by
            unfold itemR runR
            rw [if_pos q1, if_neg q2, if_pos q3, e]
          obtain ⟨m, hm⟩ := itemR_ok h hi
          cases z
          have h6 : n < 6 := by
            have : ¬ n = 6 := fun z => q3.2 (by rw [h2]; exact (nI6 hn).mpr z)
            omega
          have e2 : cl (ν 2) = n := by rw [h2, cl_nI (by omega)]
          rw [e2] at hm ⊢
          have em : m = n + 1 := by
            have a := hm.2.1
            have a' : newR ν n (kTold b t p) x.1 x.2.1 x.2.2 2 = nI (n + 1) := if_pos rfl
            rw [a'] at a
            have := hm.1
            exact ((nI_eq (by omega) (by omega)).mp a).symm
          subst em
          exact ⟨n + 1, _, rfl, new_agr g h6, hm⟩
      · rw [if_neg q3, if_neg q3]
        exact ⟨fun _ z => z, fun _ _ z => by cases z⟩
  · rw [if_neg q1, if_neg q1]
    cases e : gndR b t p with
    | inl f =>
      unfold gR
      rw [e]
      exact ⟨fun _ z => z, fun _ _ z => by cases z⟩
    | inr x =>
      obtain ⟨al, p'⟩ := x
      have hi : itemR b t ν p = .inr (gfill ν (cl al.1) (cl al.2) (gTold b t p), p') := by
        unfold itemR gR
        rw [if_neg q1, e]
      obtain ⟨m, hm⟩ := itemR_ok h hi
      have em : m = n := by
        have a := hm.2.1
        have a' : gfill ν (cl al.1) (cl al.2) (gTold b t p) 2 = nI n := (if_neg (by omega)).trans h2
        rw [a'] at a
        have := hm.1
        exact ((nI_eq (by omega) (by omega)).mp a).symm
      subst em
      unfold gR
      rw [e]
      refine ⟨fun _ z => (by cases z), fun ν' q z => ?_⟩
      cases z
      exact ⟨m, _, rfl, gfill_agr g, hm⟩
theorem text_agr {b : Fl} {t : Nat} : ∀ {d k p n : Nat} {μ ν : Fl}, Agr n μ ν → Ok n ν → (∀ f, textR b t d k ν p = .inl f → textR b t d k μ p = .inl f) ∧ (∀ c ν', textR b t d k ν p = .inr (c, ν') → ∃ m μ', textR b t d k μ p = .inr (c, μ') ∧ Agr m μ' ν' ∧ Ok m ν')
  | 0, k, p, n, μ, ν, g, h => ⟨fun _ z => z, fun _ _ z => by cases z⟩
  | d + 1, k, p, n, μ, ν, g, h => by
    obtain ⟨i1, i2⟩ := item_agr (b := b) (t := t) (p := p) g h
    cases e : itemR b t ν p with
    | inl f =>
      have e' := i1 f e
      simp only [textR, e, e']
      exact ⟨fun _ z => z, fun _ _ z => by cases z⟩
    | inr x =>
      obtain ⟨ν1, p'⟩ := x
      obtain ⟨m, μ1, e', g1, h1⟩ := i2 ν1 p' e
      simp only [textR, e, e']
      by_cases q1 : srt b t p' = 3 ∧ b (fr b t p') = 59
      · rw [if_pos q1, if_pos q1]
        exact text_agr g1 h1
      · rw [if_neg q1, if_neg q1]
        by_cases q2 : srt b t p' = 0
        · rw [if_pos q2, if_pos q2]
          refine ⟨fun _ z => (by cases z), fun c ν' z => ?_⟩
          cases z
          exact ⟨m, μ1, rfl, g1, h1⟩
        · rw [if_neg q2, if_neg q2]
          exact ⟨fun _ z => z, fun _ _ z => by cases z⟩
theorem textR_ok {b : Fl} {t k p c n d : Nat} {μ ν : Fl} (h : Ok n μ) (hr : textR b t d k μ p = .inr (c, ν)) : ∃ m, Ok m ν := by
  obtain ⟨m, μ', e, g, hm⟩ := (text_agr (b := b) (t := t) (d := d) (k := k) (p := p) (fun _ _ => rfl : Agr n μ μ) h).2 c ν hr
  exact ⟨m, hm⟩
theorem textR_le {b : Fl} {t : Nat} : ∀ {d k p c : Nat} {μ ν : Fl}, textR b t d k μ p = .inr (c, ν) → c ≤ k + d
  | 0, k, p, c, μ, ν, h => by cases h
  | d + 1, k, p, c, μ, ν, h => by
    unfold textR at h
    split at h
    · cases h
    · split at h
      · have := textR_le h
        omega
      · split at h
        · cases h; omega
        · cases h
theorem neg_fr {a : Nat} (h : a ≤ 120) : (-1 - nI a : Int32) < 0 := by
  rw [Int32.lt_iff_toInt_lt, Int32.toInt_sub, nI_toInt (by omega)]
  have e : (-1 : Int32).toInt = -1 := rfl
  have e0 : (0 : Int32).toInt = 0 := rfl
  rw [e, e0, Int.bmod_eq_of_le (by omega) (by omega)]
  omega
theorem numR_f {b : Fl} {t p f : Nat} {lo hi : Int32} (hp : p ≤ t) (h : numR b t p lo hi = .inl f) : f ≤ t := by
  unfold numR at h
  split at h
  · cases h
  · cases h; exact hp
theorem optR_f {b : Fl} {t p w f : Nat} {d lo hi : Int32} (hp : p ≤ t) (h : optR b t p w d lo hi = .inl f) : f ≤ t := by
  unfold optR at h
  split at h
  · exact numR_f (too_le hp) h
  · cases h
theorem itemR_f {b : Fl} {t p f : Nat} {μ : Fl} (hp : p ≤ t) (hr : itemR b t μ p = .inl f) : f ≤ t := by
  have h1 := too_le (b := b) hp
  unfold itemR at hr
  split at hr
  · split at hr
    · unfold pkR at hr
      split at hr
      · rename_i e
        cases hr
        exact numR_f h1 e
      · cases hr
    · unfold runR at hr
      split at hr
      · split at hr
        · rename_i e
          cases hr
          unfold rnR at e
          split at e
          · rename_i e1
            cases e
            exact optR_f h1 e1
          · rename_i e1
            have h2 := (optR_gt e1 h1).2
            split at e
            · rename_i e2
              cases e
              exact optR_f h2 e2
            · rename_i e2
              have h3 := (optR_gt e2 h2).2
              split at e
              · rename_i e3
                cases e
                exact optR_f h3 e3
              · cases e
        · cases hr
      · cases hr; exact hp
  · unfold gR at hr
    split at hr
    · rename_i e
      cases hr
      unfold gndR at e
      split at e
      · rename_i e1
        cases e
        exact numR_f h1 e1
      · rename_i e1
        have h2 := (numR_gt e1 h1).2
        split at e
        · split at e
          · rename_i e2
            cases e
            exact numR_f (too_le h2) e2
          · cases e
        · cases e
    · cases hr
theorem textR_f {b : Fl} {t : Nat} : ∀ {d k p f : Nat} {μ : Fl}, p ≤ t → textR b t d k μ p = .inl f → f ≤ t
  | 0, k, p, f, μ, hp, h => by cases h; exact hp
  | d + 1, k, p, f, μ, hp, h => by
    unfold textR at h
    split at h
    · rename_i e
      cases h
      exact itemR_f hp e
    · rename_i e
      have h1 := (itemR_gt hp e).2
      split at h
      · exact textR_f (too_le h1) h
      · split at h
        · cases h
        · cases h; exact h1
def CTx (σ : St) (n t : Nat) : RZ := fun w s => (∀ r, r ≠ 0 → r ≠ 2 → r ≠ 13 → s.1 r = σ.1 r) ∧ s.1 13 0 = 0 ∧ ((∃ f, textR (σ.1 11) t 121 0 (bcm (σ.1 2) (σ.1 0) n) 0 = .inl f ∧ w = some (.int (-1 - nI (fr (σ.1 11) t f))) ∧ s.1 0 = σ.1 0) ∨ ∃ k ν m, textR (σ.1 11) t 121 0 (bcm (σ.1 2) (σ.1 0) n) 0 = .inr (k, ν) ∧ w = some (.int (nI k)) ∧ Ok m ν ∧ s.1 0 = bcm (σ.1 0) ν m)
/-! the class's SHEETS: a finding, or the answer, a SHEET and its row -/
abbrev CSAn : Type := Nat ⊕ (Int32 × Nat × Fl)
def csA : CSAn → Int32
  | .inl i => lowI i
  | .inr q => q.1
def csS (σ : St) : CSAn → St
  | .inl i => setR σ 3 (upd (σ.1 3) i (σ.1 3 i + 1))
  | .inr q => setR σ (14 + q.2.1) q.2.2
def PCS (σ : St) (an : CSAn) : RZ := fz (some (.int (csA an))) (csS σ an)
theorem pcs_of {σ s : St} {an an' : CSAn} {x : Int32} (h : an = an') (hv : x = csA an') (hs : s = csS σ an') : PCS σ an (some (.int x)) s := by
  subst h; subst hv; subst hs
  exact ⟨rfl, rfl⟩
abbrev Ph (σ : St) : Nat → Fl := fun s => σ.1 (14 + s)
def CShOk (Φ : Nat → Fl) : Prop := ∀ s, s < 4 → ∃ z, z ≤ 40 ∧ Φ s 41 = nI z
def ksSheet (Φ : Nat → Fl) (s b n : Int32) : CSAn := if (0 ≤ s ∧ s ≤ 3) ∧ bitP b then (if n < 0 then .inl 6 else if 40 < n then .inl 0 else .inr (szv b n, cl s, filK (upd (upd (Φ (cl s)) 40 b) 41 (szv b n)) 0 0 40)) else .inl 0
def ksWrite (Φ : Nat → Fl) (s i v : Int32) : CSAn := if 0 ≤ s ∧ s ≤ 3 then (if Φ (cl s) 40 = 0 then .inl 5 else if 0 ≤ i ∧ i ≤ Φ (cl s) 41 - 1 then .inr (1, cl s, upd (Φ (cl s)) (cl i) (wv (Φ (cl s) 40) v)) else .inl 0) else .inl 0
def ksCopy (Φ : Nat → Fl) (s f t o n : Int32) : CSAn := if (0 ≤ s ∧ s ≤ 3) ∧ (0 ≤ t ∧ t ≤ 3) then (if Φ (cl s) 40 = 0 ∨ Φ (cl t) 40 = 0 then .inl 5 else if Φ (cl s) 40 = Φ (cl t) 40 then (if hrP (Φ (cl s) 41) f n ∧ hrP (Φ (cl t) 41) o n then .inr (n, cl t, cpyR (Φ (cl s)) (Φ (cl t)) (cl f) (cl o) (cl n)) else .inl 0) else .inl 2) else .inl 0
theorem hr_nat {z : Nat} {x f n : Int32} (hz : z ≤ 40) (e : x = nI z) (h : hrP x f n) : ∃ f' n', f = nI f' ∧ n = nI n' ∧ f' + n' ≤ z := by
  obtain ⟨h1, h2, h3, h4⟩ := h
  obtain ⟨n', hn, rfl⟩ := nI_of h1
  obtain ⟨f', hf, rfl⟩ := nI_of h2
  subst e
  have a : n' ≤ z := by
    rcases Nat.lt_or_ge z n' with q | q
    · exact absurd (nI_lt q hn) h3
    · exact q
  rw [pk_sub a] at h4
  have b : f' ≤ z - n' := by
    rcases Nat.lt_or_ge (z - n') f' with q | q
    · exact absurd (nI_lt q hf) h4
    · exact q
  exact ⟨f', n', rfl, rfl, by omega⟩
def ksLoad (μ : Fl) (n : Nat) (Φ : Nat → Fl) (s r : Int32) : An := if 0 ≤ s ∧ s ≤ 3 then (if Φ (cl s) 40 = 0 then .inl 5 else if isR n r then .inr (nI (ldC (Φ (cl s)) (cl (Φ (cl s) 41)) 40 0), ldM μ (cl r) (Φ (cl s)) (ldC (Φ (cl s)) (cl (Φ (cl s) 41)) 40 0)) else .inl 0) else .inl 0
def ksJudge (μ : Fl) (n : Nat) (Φ : Nat → Fl) (s : Int32) : An := if 0 ≤ s ∧ s ≤ 3 then (if Φ (cl s) 40 = 0 then .inl 5 else .inr (jdA (jdC n μ (Φ (cl s)) (cl (Φ (cl s) 41)) 40 0) (cl (Φ (cl s) 41)), μ)) else .inl 0
theorem mn30 {z : Nat} (hz : z ≤ 40) : mnI (nI z) 30 = nI (if z < 30 then z else 30) := by
  unfold mnI
  have e : (30 : Int32) < nI z ↔ 30 < z := nI_ltI (a := 30) (by omega) (by omega)
  by_cases h : 30 < z
  · rw [if_pos (e.mpr h), if_neg (by omega)]; rfl
  · rw [if_neg (fun q => h (e.mp q))]
    by_cases h2 : z < 30
    · rw [if_pos h2]
    · rw [if_neg h2, show z = 30 by omega]
theorem jd_agr {n : Nat} {μ ν : Fl} {f : Nat → Int32} {z : Nat} (g : Agr n μ ν) (hok : Ok n ν) : ∀ {d k : Nat}, jdC n μ f z d k = jdC n ν f z d k
  | 0, k => rfl
  | d + 1, k => by
    have e := nxt_agr (go_agr g hok k).1 (Nat.le_refl n)
    have q : jdG n μ f z k ↔ jdG n ν f z k := by unfold jdG; rw [e]
    by_cases h : jdG n ν f z k
    · rw [jdC_y h, jdC_y (q.mpr h), jd_agr g hok]
    · rw [jdC_n h, jdC_n (fun x => h (q.mp x))]
