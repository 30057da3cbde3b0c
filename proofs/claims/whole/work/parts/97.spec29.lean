/-! SHEETS of both alike; load, judge -/
def SR (Φ : Nat → Fl) (bt sz nm : Fl) : Prop := ∀ s, s < 4 → Φ s 40 = bt s ∧ Φ s 41 = sz s ∧ ∀ k, k < 40 → Φ s k = nm (40 * s + k)
theorem SR.ok {Φ : Nat → Fl} {bt sz nm : Fl} (h : SR Φ bt sz nm) (o : ShOk bt sz) : CShOk Φ := fun s hs => by
  obtain ⟨z, hz, e⟩ := (o s hs).2
  exact ⟨z, hz, (h s hs).2.1.trans e⟩
theorem ldC_congr {f f' : Nat → Int32} {z : Nat} (e : ∀ k, k < 30 → f k = f' k) : ∀ {d k : Nat}, ldC f z d k = ldC f' z d k
  | 0, k => rfl
  | d + 1, k => by
    have q : ldG f z k ↔ ldG f' z k := by
      unfold ldG
      by_cases h : k < 30
      · rw [e k h]
      · exact ⟨fun z => absurd z.2.1 h, fun z => absurd z.2.1 h⟩
    by_cases h : ldG f' z k
    · rw [ldC_y h, ldC_y (q.mpr h), ldC_congr e]
    · rw [ldC_n h, ldC_n (fun x => h (q.mp x))]
theorem ldC_in {f : Nat → Int32} {z : Nat} : ∀ {d k : Nat}, k ≤ 30 → ldC f z d k ≤ 30 ∧ ∀ i, k ≤ i → i < ldC f z d k → 1 ≤ f i ∧ f i ≤ 9
  | 0, k, h => ⟨h, fun i h1 h2 => by have : i < k := h2; omega⟩
  | d + 1, k, h => by
    by_cases q : ldG f z k
    · rw [ldC_y q]
      obtain ⟨a, b⟩ := ldC_in (f := f) (z := z) (d := d) (k := k + 1) (by have := q.2.1; omega)
      refine ⟨a, fun i h1 h2 => ?_⟩
      rcases Nat.lt_or_ge k i with r | r
      · exact b i r h2
      · obtain rfl : i = k := by omega
        exact q.2.2
    · rw [ldC_n q]
      exact ⟨h, fun i h1 h2 => by omega⟩
theorem jdC_congr {n : Nat} {μ : Fl} {f f' : Nat → Int32} {z : Nat} (hz : z ≤ 40) (e : ∀ k, k < 40 → f k = f' k) : ∀ {d k : Nat}, jdC n μ f z d k = jdC n μ f' z d k
  | 0, k => rfl
  | d + 1, k => by
    have q : jdG n μ f z k ↔ jdG n μ f' z k := by
      unfold jdG
      by_cases h : k < z
      · rw [e k (by omega)]
      · exact ⟨fun z => absurd z.1 h, fun z => absurd z.1 h⟩
    by_cases h : jdG n μ f' z k
    · rw [jdC_y h, jdC_y (q.mpr h), jdC_congr hz e]
    · rw [jdC_n h, jdC_n (fun x => h (q.mp x))]
theorem r_load {n : Nat} {μ ν : Fl} {Φ : Nat → Fl} {bt sz nm : Fl} {s r : Int32} (h : Ok n ν) (g : Agr n μ ν) (q : SR Φ bt sz nm) (o : ShOk bt sz) : AnR (ksLoad μ n Φ s r) (sLoad ν n bt sz nm s r) := by
  unfold ksLoad sLoad
  by_cases c : 0 ≤ s ∧ s ≤ 3
  · rw [if_pos c, if_pos c]
    obtain ⟨s, rfl, -, hs⟩ := rg 0 3 c (by omega) (by omega)
    rw [cl_nI (show s < 2147483648 by omega)]
    obtain ⟨q1, q2, q3⟩ := q s (by omega)
    rw [q1, q2]
    refine AnR.ite (fun _ => AnR.low) (fun _ => AnR.ite (fun c2 => ?_) (fun _ => AnR.low))
    have hn := h.1
    obtain ⟨r, rfl, hr⟩ := rgR c2 h.1
    rw [cl_nI (show r < 2147483648 by omega)]
    have e : ldC (Φ s) (cl (sz s)) 40 0 = ldC (fun k => nm (40 * s + k)) (cl (sz s)) 40 0 := ldC_congr (fun k hk => q3 k (by omega))
    rw [e]
    obtain ⟨l1, l2⟩ := ldC_in (f := fun k => nm (40 * s + k)) (z := cl (sz s)) (d := 40) (k := 0) (by omega)
    refine AnR.row rfl (h.pacesTo hr (fun z hz => if_neg (by omega)) (fun y hy => ?_)) (fun z hz => ?_)
    · unfold ldM
      by_cases w : y < ldC (fun k => nm (40 * s + k)) (cl (sz s)) 40 0
      · rw [if_pos (by omega), show 33 + 37 * r + (7 + y) - (33 + 37 * r + 7) = y by omega]
        obtain ⟨p, e, h1, h9⟩ := rg 1 9 (l2 y (by omega) w) (by omega) (by omega)
        exact ⟨p, h1, h9, e⟩
      · rw [if_neg (by omega)]
        exact (h.2.2.2.2.1 r hr).2.2.2.2.2 y hy
    · unfold ldM
      by_cases w : 33 + 37 * r + 7 ≤ z ∧ z < 33 + 37 * r + 7 + ldC (fun k => nm (40 * s + k)) (cl (sz s)) 40 0
      · rw [if_pos w, if_pos w]
        exact q3 _ (by omega)
      · rw [if_neg w, if_neg w]; exact g z hz
  · rw [if_neg c, if_neg c]; exact AnR.low
theorem r_judge {n : Nat} {μ ν : Fl} {Φ : Nat → Fl} {bt sz nm : Fl} {s : Int32} (h : Ok n ν) (g : Agr n μ ν) (q : SR Φ bt sz nm) (o : ShOk bt sz) : AnR (ksJudge μ n Φ s) (sJudge ν n bt sz nm s) := by
  unfold ksJudge sJudge
  by_cases c : 0 ≤ s ∧ s ≤ 3
  · rw [if_pos c, if_pos c]
    obtain ⟨s, rfl, -, hs⟩ := rg 0 3 c (by omega) (by omega)
    rw [cl_nI (show s < 2147483648 by omega)]
    obtain ⟨q1, q2, q3⟩ := q s (by omega)
    obtain ⟨z, hz, ez⟩ := (o s (by omega)).2
    rw [q1, q2, ez, cl_nI (show z < 2147483648 by omega)]
    refine AnR.ite (fun _ => AnR.low) (fun _ => AnR.row ?_ h g)
    rw [jd_agr g h, jdC_congr hz (fun k hk => q3 k hk)]
  · rw [if_neg c, if_neg c]; exact AnR.low
/-- a SHEET's answers of both -/
def KR (Φ : Nat → Fl) (an : CSAn) (an' : SAn) : Prop := (∃ i, an = .inl i ∧ an' = .inl i) ∨ ∃ x s f bt sz nm, an = .inr (x, s, f) ∧ an' = .inr (x, bt, sz, nm) ∧ s < 4 ∧ ShOk bt sz ∧ SR (fun q => if q = s then f else Φ q) bt sz nm
theorem KR.low {Φ : Nat → Fl} {i : Nat} : KR Φ (.inl i) (.inl i) := Or.inl ⟨i, rfl, rfl⟩
theorem KR.ite {Φ : Nat → Fl} {P : Prop} [Decidable P] {a b : CSAn} {c d : SAn} (h1 : P → KR Φ a c) (h2 : ¬ P → KR Φ b d) : KR Φ (if P then a else b) (if P then c else d) := by
  by_cases h : P
  · rw [if_pos h, if_pos h]; exact h1 h
  · rw [if_neg h, if_neg h]; exact h2 h
theorem k_sheet {Φ : Nat → Fl} {bt sz nm : Fl} {s b n : Int32} (q : SR Φ bt sz nm) (o : ShOk bt sz) : KR Φ (ksSheet Φ s b n) (sSheet bt sz nm s b n) := by
  unfold ksSheet sSheet
  refine KR.ite (fun c => KR.ite (fun _ => KR.low) (fun c1 => KR.ite (fun _ => KR.low) (fun c2 => ?_))) (fun _ => KR.low)
  obtain ⟨s, rfl, -, hs⟩ := rg 0 3 c.1 (by omega) (by omega)
  rw [cl_nI (show s < 2147483648 by omega)]
  have hz : ∃ z, z ≤ 40 ∧ szv b n = nI z := by
    unfold szv
    by_cases hb : b = 0
    · rw [if_pos hb]; exact ⟨0, by omega, rfl⟩
    · rw [if_neg hb]
      obtain ⟨z, e, -, hz⟩ := rg 0 40 ⟨Int32.not_lt.mp c1, Int32.not_lt.mp c2⟩ (by omega) (by omega)
      exact ⟨z, hz, e⟩
  refine Or.inr ⟨_, s, _, _, _, _, rfl, rfl, by omega, fun t ht => ?_, fun t ht => ?_⟩
  · by_cases e : t = s
    · subst e; rw [pk_us, pk_us]; exact ⟨c.2, hz⟩
    · rw [pk_un e, pk_un e]; exact o t ht
  · obtain ⟨q1, q2, q3⟩ := q t ht
    by_cases e : t = s
    · subst e
      simp only [if_true]
      rw [pk_us, pk_us]
      refine ⟨?_, ?_, fun k hk => ?_⟩
      · unfold filK
        rw [if_neg (by omega), pk_un (by omega), pk_us]
      · unfold filK
        rw [if_neg (by omega), pk_us]
      · unfold filK clr
        rw [if_pos (by omega), if_pos (by omega)]
    · simp only [if_neg e]
      rw [pk_un e, pk_un e]
      refine ⟨q1, q2, fun k hk => ?_⟩
      unfold clr
      rw [if_neg (by omega)]
      exact q3 k hk
theorem k_write {Φ : Nat → Fl} {bt sz nm : Fl} {s i v : Int32} (q : SR Φ bt sz nm) (o : ShOk bt sz) : KR Φ (ksWrite Φ s i v) (sWrite bt sz nm s i v) := by
  unfold ksWrite sWrite
  by_cases c : 0 ≤ s ∧ s ≤ 3
  · rw [if_pos c, if_pos c]
    obtain ⟨s, rfl, -, hs⟩ := rg 0 3 c (by omega) (by omega)
    rw [cl_nI (show s < 2147483648 by omega)]
    obtain ⟨q1, q2, q3⟩ := q s (by omega)
    obtain ⟨z, hz, ez⟩ := (o s (by omega)).2
    rw [q1, q2]
    refine KR.ite (fun _ => KR.low) (fun _ => KR.ite (fun c2 => ?_) (fun _ => KR.low))
    obtain ⟨i, rfl, hi⟩ := idx_nat hz ez c2
    rw [cl_nI (show i < 2147483648 by omega)]
    refine Or.inr ⟨_, s, _, _, _, _, rfl, rfl, by omega, o, fun t ht => ?_⟩
    obtain ⟨p1, p2, p3⟩ := q t ht
    by_cases e : t = s
    · subst e
      simp only [if_true]
      refine ⟨by rw [pk_un (by omega)]; exact p1, by rw [pk_un (by omega)]; exact p2, fun k hk => ?_⟩
      by_cases e2 : k = i
      · subst e2; rw [pk_us, pk_us]
      · rw [pk_un e2, pk_un (by omega)]; exact p3 k hk
    · simp only [if_neg e]
      refine ⟨p1, p2, fun k hk => ?_⟩
      rw [pk_un (by omega)]; exact p3 k hk
  · rw [if_neg c, if_neg c]; exact KR.low
theorem hr_iff {z1 z2 : Nat} {x1 x2 f o n : Int32} (h1 : z1 ≤ 40) (e1 : x1 = nI z1) (h2 : z2 ≤ 40) (e2 : x2 = nI z2) : (hrP x1 f n ∧ hrP x2 o n) ↔ (¬ n < 0 ∧ ¬ f < 0 ∧ ¬ o < 0 ∧ cpP x1 f n ∧ cpP x2 o n) := by
  refine ⟨fun h => ?_, fun h => ?_⟩
  · obtain ⟨f', n', rfl, rfl, a⟩ := hr_nat h1 e1 h.1
    obtain ⟨o', m', rfl, em, b⟩ := hr_nat h2 e2 h.2
    have hnm : n' = m' := (nI_eq (by omega) (by omega)).mp em
    subst e1; subst e2
    exact ⟨h.1.1, h.1.2.1, h.2.2.1, (cp_nat h1 (by omega) (by omega)).mpr (by omega), (cp_nat h2 (by omega) (by omega)).mpr (by omega)⟩
  · obtain ⟨a1, a2, a3, a4, a5⟩ := h
    obtain ⟨n', hn, rfl⟩ := nI_of a1
    obtain ⟨f', hf, rfl⟩ := nI_of a2
    obtain ⟨o', ho, rfl⟩ := nI_of a3
    subst e1; subst e2
    have b1 := (cp_nat h1 hf hn).mp a4
    have b2 := (cp_nat h2 ho hn).mp a5
    refine ⟨⟨a1, a2, nI_nlt (by omega) (by omega), ?_⟩, ⟨a1, a3, nI_nlt (by omega) (by omega), ?_⟩⟩
    · rw [pk_sub (by omega)]; exact nI_nlt (by omega) (by omega)
    · rw [pk_sub (by omega)]; exact nI_nlt (by omega) (by omega)
theorem KR.ite2 {Φ : Nat → Fl} {P Q : Prop} [Decidable P] [Decidable Q] {a b : CSAn} {c d : SAn} (i : P ↔ Q) (h1 : P → KR Φ a c) (h2 : ¬ P → KR Φ b d) : KR Φ (if P then a else b) (if Q then c else d) := by
  by_cases h : P
  · rw [if_pos h, if_pos (i.mp h)]; exact h1 h
  · rw [if_neg h, if_neg (fun z => h (i.mpr z))]; exact h2 h
theorem k_copy {Φ : Nat → Fl} {bt sz nm : Fl} {s f t o n : Int32} (q : SR Φ bt sz nm) (k : ShOk bt sz) : KR Φ (ksCopy Φ s f t o n) (sCopy bt sz nm s f t o n) := by
  unfold ksCopy sCopy
  by_cases c : (0 ≤ s ∧ s ≤ 3) ∧ (0 ≤ t ∧ t ≤ 3)
  · rw [if_pos c, if_pos c]
    obtain ⟨s, rfl, -, hs⟩ := rg 0 3 c.1 (by omega) (by omega)
    obtain ⟨t, rfl, -, ht⟩ := rg 0 3 c.2 (by omega) (by omega)
    rw [cl_nI (show s < 2147483648 by omega), cl_nI (show t < 2147483648 by omega)]
    obtain ⟨p1, p2, p3⟩ := q s (by omega)
    obtain ⟨q1, q2, q3⟩ := q t (by omega)
    obtain ⟨z1, hz1, ez1⟩ := (k s (by omega)).2
    obtain ⟨z2, hz2, ez2⟩ := (k t (by omega)).2
    rw [p1, p2, q1, q2]
    refine KR.ite (fun _ => KR.low) (fun _ => KR.ite (fun _ => KR.ite2 (hr_iff hz1 ez1 hz2 ez2) (fun c2 => ?_) (fun _ => KR.low)) (fun _ => KR.low))
    obtain ⟨f, n, rfl, rfl, a⟩ := hr_nat hz1 ez1 c2.1
    obtain ⟨o, m, rfl, em, b⟩ := hr_nat hz2 ez2 c2.2
    have hnm : n = m := (nI_eq (by omega) (by omega)).mp em
    rw [cl_nI (show f < 2147483648 by omega), cl_nI (show o < 2147483648 by omega), cl_nI (show n < 2147483648 by omega)]
    refine Or.inr ⟨_, t, _, _, _, _, rfl, rfl, by omega, k, fun i hi => ?_⟩
    obtain ⟨r1, r2, r3⟩ := q i hi
    by_cases e : i = t
    · subst e
      simp only [if_true]
      unfold cpyR
      refine ⟨by rw [if_neg (by omega)]; exact r1, by rw [if_neg (by omega)]; exact r2, fun j hj => ?_⟩
      unfold cpM
      by_cases w : o ≤ j ∧ j < o + n
      · rw [if_pos w, if_pos (by omega), p3 _ (by omega)]
        exact congrArg nm (by omega)
      · rw [if_neg w, if_neg (by omega)]; exact r3 j hj
    · simp only [if_neg e]
      refine ⟨r1, r2, fun j hj => ?_⟩
      unfold cpM
      rw [if_neg (by omega)]; exact r3 j hj
  · rw [if_neg c, if_neg c]; exact KR.low
/-! THE RELATION of class and reference -/
def Rel (σ : St) : Prop := (∃ n, Ok n (σ.1 20) ∧ Agr n (σ.1 0) (σ.1 20)) ∧ σ.1 3 = σ.1 24 ∧ σ.1 4 0 = σ.1 23 0 ∧ (∃ m, Ok m (σ.1 1) ∧ (¬ σ.1 23 0 = 0 → Agr m (σ.1 1) (σ.1 21))) ∧ (∃ t, t ≤ 120 ∧ σ.1 13 0 = nI t ∧ σ.1 23 1 = nI t ∧ TpOk (σ.1 11) (σ.1 12) t) ∧ σ.1 11 = σ.1 29 ∧ ShOk (σ.1 30) (σ.1 31) ∧ SR (Ph σ) (σ.1 30) (σ.1 31) (σ.1 32)
/-- what the relation speaks of is the same -/
theorem Rel.same {σ τ : St} (h : Rel σ) (e : ∀ r, r ∉ cScr → r ∉ mScr → τ.1 r = σ.1 r) : Rel τ := by
  obtain ⟨⟨n, h1, h2⟩, h3, h4, ⟨m, h5, h6⟩, ⟨t, h7, h8, h9, h10⟩, h11, h12, h13⟩ := h
  have e0 := e 0 (by decide) (by decide)
  have e1 := e 1 (by decide) (by decide)
  have e3 := e 3 (by decide) (by decide)
  have e4 := e 4 (by decide) (by decide)
  have e11 := e 11 (by decide) (by decide)
  have e12 := e 12 (by decide) (by decide)
  have e13 := e 13 (by decide) (by decide)
  have e20 := e 20 (by decide) (by decide)
  have e21 := e 21 (by decide) (by decide)
  have e23 := e 23 (by decide) (by decide)
  have e24 := e 24 (by decide) (by decide)
  have e29 := e 29 (by decide) (by decide)
  have e30 := e 30 (by decide) (by decide)
  have e31 := e 31 (by decide) (by decide)
  have e32 := e 32 (by decide) (by decide)
  have es : ∀ s, s < 4 → Ph τ s = Ph σ s := fun s hs => by
    rcases (show s = 0 ∨ s = 1 ∨ s = 2 ∨ s = 3 by omega) with rfl | rfl | rfl | rfl
    · exact e 14 (by decide) (by decide)
    · exact e 15 (by decide) (by decide)
    · exact e 16 (by decide) (by decide)
    · exact e 17 (by decide) (by decide)
  unfold Rel
  rw [e0, e1, e3, e4, e11, e12, e13, e20, e21, e23, e24, e29, e30, e31, e32]
  exact ⟨⟨n, h1, h2⟩, h3, h4, ⟨m, h5, h6⟩, ⟨t, h7, h8, h9, h10⟩, h11, h12, fun s hs => by rw [es s hs]; exact h13 s hs⟩
theorem Rel.found {σ : St} {i : Nat} (h : Rel σ) : Rel (setR (setR σ 3 (upd (σ.1 3) i (σ.1 3 i + 1))) 24 (upd (σ.1 24) i (σ.1 24 i + 1))) := by
  obtain ⟨h1, h3, h4, h5, h7, h11, h12, h13⟩ := h
  refine ⟨h1, ?_, h4, h5, h7, h11, h12, fun s hs => ?_⟩
  · show upd (σ.1 3) i (σ.1 3 i + 1) = upd (σ.1 24) i (σ.1 24 i + 1)
    rw [h3]
  · have e : Ph (setR (setR σ 3 (upd (σ.1 3) i (σ.1 3 i + 1))) 24 (upd (σ.1 24) i (σ.1 24 i + 1))) s = Ph σ s := by
      show (setR (setR σ 3 (upd (σ.1 3) i (σ.1 3 i + 1))) 24 (upd (σ.1 24) i (σ.1 24 i + 1))).1 (14 + s) = σ.1 (14 + s)
      rw [setR_ne _ _ (by omega), setR_ne _ _ (by omega)]
    rw [e]
    exact h13 s hs
theorem Rel.row {σ : St} {n : Nat} {μ ν : Fl} (h : Rel σ) (ok : Ok n ν) (g : Agr n μ ν) : Rel (setR (setR σ 0 μ) 20 ν) := by
  obtain ⟨h1, h3, h4, h5, h7, h11, h12, h13⟩ := h
  refine ⟨⟨n, ok, g⟩, h3, h4, h5, h7, h11, h12, fun s hs => ?_⟩
  have e : Ph (setR (setR σ 0 μ) 20 ν) s = Ph σ s := by
    show (setR (setR σ 0 μ) 20 ν).1 (14 + s) = σ.1 (14 + s)
    rw [setR_ne _ _ (by omega), setR_ne _ _ (by omega)]
  rw [e]
  exact h13 s hs
/-- both calls of the field -/
theorem rel_an {σ σ1 σ2 : St} {an an' : An} {v w : Option Value} (h : Rel σ) (q : AnR an an') (h1 : PC σ an v σ1) (h2 : PM σ1 an' w σ2) : v = w ∧ Rel σ2 := by
  obtain ⟨hv, hs⟩ := h1
  obtain ⟨hw, ht, -⟩ := h2
  rcases q with ⟨i, rfl, rfl⟩ | ⟨x, μ, ν, n, rfl, rfl, ok, g⟩
  · refine ⟨hv.trans hw.symm, (h.found (i := i)).same fun r hc hm => ?_⟩
    rw [ht r hm]
    show (setR σ1 24 _).1 r = _
    by_cases e : r = 24
    · subst e
      rw [setR_at, setR_at, hs 24 (by decide)]
      rfl
    · rw [setR_ne _ _ e, setR_ne _ _ e, hs r hc]
      rfl
  · refine ⟨hv.trans hw.symm, (h.row ok g).same fun r hc hm => ?_⟩
    rw [ht r hm]
    show (setR σ1 20 ν).1 r = _
    by_cases e : r = 20
    · subst e
      rw [setR_at, setR_at]
    · rw [setR_ne _ _ e, setR_ne _ _ e, hs r hc]
      rfl
theorem rel_lan {σ σ1 σ2 : St} {an : LAn} {v w : Option Value} (h : Rel σ) (h1 : PCL σ an v σ1) (h2 : PML σ1 an w σ2) : v = w ∧ Rel σ2 := by
  obtain ⟨hv, hs⟩ := h1
  obtain ⟨hw, ht, -⟩ := h2
  cases an with
  | inl i =>
    refine ⟨hv.trans hw.symm, (h.found (i := i)).same fun r hc hm => ?_⟩
    rw [ht r hm]
    show (setR σ1 24 _).1 r = _
    by_cases e : r = 24
    · subst e
      rw [setR_at, setR_at, hs 24 (by decide)]
      rfl
    · rw [setR_ne _ _ e, setR_ne _ _ e, hs r hc]
  | inr x =>
    refine ⟨hv.trans hw.symm, h.same fun r hc hm => ?_⟩
    rw [ht r hm]
    exact hs r hc
/-- what the reference's call needs of the state behind the class's -/
theorem pc_off {σ σ1 : St} {an : An} {v : Option Value} {r : Nat} (h1 : PC σ an v σ1) (hr : r ∉ cScr) (h0 : r ≠ 0) (h3 : r ≠ 3) : σ1.1 r = σ.1 r := by
  rw [h1.2 r hr]
  cases an with
  | inl i => exact setR_ne _ _ h3
  | inr q => exact setR_ne _ _ h0
theorem pcl_off {σ σ1 : St} {an : LAn} {v : Option Value} {r : Nat} (h1 : PCL σ an v σ1) (hr : r ∉ cScr) (h3 : r ≠ 3) : σ1.1 r = σ.1 r := by
  obtain ⟨hv, hs⟩ := h1
  rw [hs r hr]
  cases an with
  | inl i => exact setR_ne _ _ h3
  | inr x => rfl
