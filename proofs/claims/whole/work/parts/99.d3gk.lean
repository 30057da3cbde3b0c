/-! the start: classes, rows, texts -/
theorem L_of {w : Cond} (h : w ∈ WTb) : w ∈ lw_tbl := (List.mem_filter.mp h).1
theorem ka_cls {s : State} {b : Nat} (hts : ∀ w ∈ lw_tbl, w.before #[Value.ref b] s = true) (c : Nat) : ∃ p : ClassId × (Nat → Nat), ∀ q, vwCl[c]? = some q → u_Kn s q.1 q.2.1 q.2.2 p.1 p.2 := by
  match c with
  | 0 =>
    obtain ⟨x, y, h⟩ := u_known (C := RX0) (T := TX0) (N := 2) (n := 2) hts (fun w hw => L_of (ciX0 w hw)) (hts _ (t1_in (List.mem_of_getElem? (i := 132) rfl)))
    exact ⟨(x, y), fun q hq => by cases hq; exact h⟩
  | 1 =>
    obtain ⟨x, y, h⟩ := u_known (C := RX1) (T := TX1) (N := 3) (n := 3) hts (fun w hw => L_of (ciX1 w hw)) (hts _ (t1_in (List.mem_of_getElem? (i := 116) rfl)))
    exact ⟨(x, y), fun q hq => by cases hq; exact h⟩
  | 2 =>
    obtain ⟨x, y, h⟩ := u_known (C := RX2) (T := TX2) (N := 6) (n := 6) hts (fun w hw => L_of (ciX2 w hw)) (hts _ (t1_in (List.mem_of_getElem? (i := 28) rfl)))
    exact ⟨(x, y), fun q hq => by cases hq; exact h⟩
  | 3 =>
    obtain ⟨x, y, h⟩ := u_known (C := RX3) (T := TX3) (N := 1) (n := 1) hts (fun w hw => L_of (ciX3 w hw)) (hts _ (t1_in (List.mem_of_getElem? (i := 163) rfl)))
    exact ⟨(x, y), fun q hq => by cases hq; exact h⟩
  | 4 =>
    obtain ⟨x, y, h⟩ := u_known (C := RX4) (T := TX4) (N := 8) (n := 8) hts (fun w hw => L_of (ciX4 w hw)) (hts _ (t1_in (List.mem_of_getElem? (i := 35) rfl)))
    exact ⟨(x, y), fun q hq => by cases hq; exact h⟩
  | 5 =>
    obtain ⟨x, y, h⟩ := u_known (C := RX5) (T := TX5) (N := 3) (n := 3) hts (fun w hw => L_of (ciX5 w hw)) (hts _ (t1_in (List.mem_of_getElem? (i := 203) rfl)))
    exact ⟨(x, y), fun q hq => by cases hq; exact h⟩
  | 6 =>
    obtain ⟨x, y, h⟩ := u_known (C := RX6) (T := TX6) (N := 6) (n := 6) hts (fun w hw => L_of (ciX6 w hw)) (hts _ (t1_in (List.mem_of_getElem? (i := 169) rfl)))
    exact ⟨(x, y), fun q hq => by cases hq; exact h⟩
  | 7 =>
    obtain ⟨x, y, h⟩ := u_known (C := RX7) (T := TX7) (N := 3) (n := 3) hts (fun w hw => L_of (ciX7 w hw)) (hts _ (t1_in (List.mem_of_getElem? (i := 146) rfl)))
    exact ⟨(x, y), fun q hq => by cases hq; exact h⟩
  | 8 =>
    obtain ⟨x, y, h⟩ := u_known (C := RX8) (T := TX8) (N := 11) (n := 11) hts (fun w hw => L_of (ciX8 w hw)) (hts _ (t1_in (List.mem_of_getElem? (i := 20) rfl)))
    exact ⟨(x, y), fun q hq => by cases hq; exact h⟩
  | 9 =>
    obtain ⟨x, y, h⟩ := u_known (C := RX9) (T := TX9) (N := 19) (n := 19) hts (fun w hw => L_of (ciX9 w hw)) (hts _ (t4_in (List.mem_of_getElem? (i := 156) rfl)))
    exact ⟨(x, y), fun q hq => by cases hq; exact h⟩
  | c + 10 => exact ⟨(0, fun _ => 0), fun q hq => by simp [vwCl] at hq⟩
theorem ka_start {s : State} {b : Nat} (hts : ∀ w ∈ lw_tbl, w.before #[Value.ref b] s = true) : ∃ g : GC, KA g s := by
  obtain ⟨f, hf⟩ := Classical.axiomOfChoice (ka_cls hts)
  obtain ⟨c0, k0, m0, p1, p2, p3⟩ := Cond.arrayClass_spec (args := #[Value.ref b]) (first := s) (o := none) (s := s) (idx := []) (type := .int) (hts _ (L_of ac_int))
  obtain ⟨c1, k1, m1, q1, q2, q3⟩ := Cond.arrayClass_spec (args := #[Value.ref b]) (first := s) (o := none) (s := s) (idx := []) (type := .long) (hts _ (L_of ac_long))
  have o2 : (Cond.arrayOver (.object "SpoonRace$Runner")).before #[Value.ref b] s = true := (hts _ (t1_in (List.mem_of_getElem? (i := 34) rfl)))
  have o3 : (Cond.arrayOver (.object "SpoonRace$Sheet")).before #[Value.ref b] s = true := (hts _ (t1_in (List.mem_of_getElem? (i := 202) rfl)))
  obtain ⟨m2, c2, k2, r0, r1, r2, r3, r4⟩ := Cond.arrayOver_spec (args := #[Value.ref b]) (first := s) (o := none) (s := s) (idx := []) (n := "SpoonRace$Runner") o2
  obtain ⟨m3, c3, k3, s0, s1, s2, s3, s4⟩ := Cond.arrayOver_spec (args := #[Value.ref b]) (first := s) (o := none) (s := s) (idx := []) (n := "SpoonRace$Sheet") o3
  refine ⟨((fun c => (f c).1, fun c => (f c).2), fun t => if t = 0 then c0 else if t = 1 then c1 else if t = 2 then c2 else c3), ⟨fun c q hq => hf c q hq, fun k q hk => ?_⟩, va_AO.of o2, va_AO.of o3⟩
  match k, hk with
  | 0, hk => cases hk; exact ⟨fun n z => ⟨fun k h => (by cases h), k0, p2, m0, p3⟩, p1⟩
  | 1, hk => cases hk; exact ⟨fun n z => ⟨fun k h => (by cases h), k1, q2, m1, q3⟩, q1⟩
  | 2, hk => cases hk; exact ⟨fun n z => ⟨fun k h => (by cases h), k2, r2, m2, r3⟩, k2, m2, r2, r3, r0, r4⟩
  | 3, hk => cases hk; exact ⟨fun n z => ⟨fun k h => (by cases h), k3, s2, m3, s3⟩, k3, m3, s2, s3, s0, s4⟩
  | k + 4, hk => simp [tysC] at hk
/-- the rows and texts, by one map of addresses -/
def GS (A : Nat → Prop) (ad : Nat → Nat) (s : State) : Prop := (∀ i q, STA[i]? = some q → va_Z "SpoonRace" q.1 "[I" (.ref (ad (100 + i))) A s s.heap ∧ va_T .int (ad (100 + i)) q.2.length (fun j => .int (q.2.getD j 0)) A s s.heap) ∧ va_Z "java/lang/String" "COMPACT_STRINGS" "Z" (.int 1) A s s.heap ∧ (∀ i q, STR[i]? = some q → vk_R q.1 q.2.1 (wordT q.2.2) (ad (200 + i)) s ∧ va_O "java/lang/String" (ad (200 + i)) A s s.heap ∧ va_OF "java/lang/String" "coder" "B" (.int 0) (ad (200 + i)) A s s.heap ∧ va_OF "java/lang/String" "value" "[B" (.ref (ad (300 + i))) (ad (200 + i)) A s s.heap ∧ va_T .byte (ad (300 + i)) (wordB q.2.2).length (fun j => .int ((wordB q.2.2).getD j 0)) A s s.heap) ∧ (∀ q ∈ NSF, va_Nw (wNSF q) s) ∧ (∀ q ∈ NSM, va_Nw (wNSM q) s) ∧ (va_Z "jdk/internal/util/Preconditions" "SIOOBE_FORMATTER" "Ljava/util/function/BiFunction;" .null A s s.heap ∨ va_Z "jdk/internal/util/Preconditions" "SIOOBE_FORMATTER" "Ljava/util/function/BiFunction;" (.ref (ad 400)) A s s.heap)
theorem gs_tab {s : State} {b : Nat} {A : Nat → Prop} (hts : ∀ w ∈ lw_tbl, w.before #[Value.ref b] s = true) (hg : (Jvm.Cond.and given_1 narrow_1).before #[.ref b] s = true) (hA : ∀ a : Nat, a < s.heap.size → ¬ A a) (i : Nat) : ∃ t, i < 7 → GKt0 A t i s := by
  match i with
  | 0 => obtain ⟨t, h⟩ := gs_0 hts hg hA; exact ⟨t, fun _ => h⟩
  | 1 => obtain ⟨t, h⟩ := gs_1 hts hg hA; exact ⟨t, fun _ => h⟩
  | 2 => obtain ⟨t, h⟩ := gs_2 hts hg hA; exact ⟨t, fun _ => h⟩
  | 3 => obtain ⟨t, h⟩ := gs_3 hts hg hA; exact ⟨t, fun _ => h⟩
  | 4 => obtain ⟨t, h⟩ := gs_4 hts hg hA; exact ⟨t, fun _ => h⟩
  | 5 => obtain ⟨t, h⟩ := gs_5 hts hg hA; exact ⟨t, fun _ => h⟩
  | 6 => obtain ⟨t, h⟩ := gs_6 hts hg hA; exact ⟨t, fun _ => h⟩
  | i + 7 => exact ⟨0, fun h => absurd h (by omega)⟩
theorem gs_txt {s : State} {b : Nat} {A : Nat → Prop} (hts : ∀ w ∈ lw_tbl, w.before #[Value.ref b] s = true) (hg : (Jvm.Cond.and given_1 narrow_1).before #[.ref b] s = true) (hA : ∀ a : Nat, a < s.heap.size → ¬ A a) (i : Nat) : ∃ t : Nat × Nat, i < 34 → GKs0 A t.1 t.2 i s := by
  match i with
  | 0 => obtain ⟨t, u, h⟩ := gt_0 hts hg hA; exact ⟨(t, u), fun _ => h⟩
  | 1 => obtain ⟨t, u, h⟩ := gt_1 hts hg hA; exact ⟨(t, u), fun _ => h⟩
  | 2 => obtain ⟨t, u, h⟩ := gt_2 hts hg hA; exact ⟨(t, u), fun _ => h⟩
  | 3 => obtain ⟨t, u, h⟩ := gt_3 hts hg hA; exact ⟨(t, u), fun _ => h⟩
  | 4 => obtain ⟨t, u, h⟩ := gt_4 hts hg hA; exact ⟨(t, u), fun _ => h⟩
  | 5 => obtain ⟨t, u, h⟩ := gt_5 hts hg hA; exact ⟨(t, u), fun _ => h⟩
  | 6 => obtain ⟨t, u, h⟩ := gt_6 hts hg hA; exact ⟨(t, u), fun _ => h⟩
  | 7 => obtain ⟨t, u, h⟩ := gt_7 hts hg hA; exact ⟨(t, u), fun _ => h⟩
  | 8 => obtain ⟨t, u, h⟩ := gt_8 hts hg hA; exact ⟨(t, u), fun _ => h⟩
  | 9 => obtain ⟨t, u, h⟩ := gt_9 hts hg hA; exact ⟨(t, u), fun _ => h⟩
  | 10 => obtain ⟨t, u, h⟩ := gt_10 hts hg hA; exact ⟨(t, u), fun _ => h⟩
  | 11 => obtain ⟨t, u, h⟩ := gt_11 hts hg hA; exact ⟨(t, u), fun _ => h⟩
  | 12 => obtain ⟨t, u, h⟩ := gt_12 hts hg hA; exact ⟨(t, u), fun _ => h⟩
  | 13 => obtain ⟨t, u, h⟩ := gt_13 hts hg hA; exact ⟨(t, u), fun _ => h⟩
  | 14 => obtain ⟨t, u, h⟩ := gt_14 hts hg hA; exact ⟨(t, u), fun _ => h⟩
  | 15 => obtain ⟨t, u, h⟩ := gt_15 hts hg hA; exact ⟨(t, u), fun _ => h⟩
  | 16 => obtain ⟨t, u, h⟩ := gt_16 hts hg hA; exact ⟨(t, u), fun _ => h⟩
  | 17 => obtain ⟨t, u, h⟩ := gt_17 hts hg hA; exact ⟨(t, u), fun _ => h⟩
  | 18 => obtain ⟨t, u, h⟩ := gt_18 hts hg hA; exact ⟨(t, u), fun _ => h⟩
  | 19 => obtain ⟨t, u, h⟩ := gt_19 hts hg hA; exact ⟨(t, u), fun _ => h⟩
  | 20 => obtain ⟨t, u, h⟩ := gt_20 hts hg hA; exact ⟨(t, u), fun _ => h⟩
  | 21 => obtain ⟨t, u, h⟩ := gt_21 hts hg hA; exact ⟨(t, u), fun _ => h⟩
  | 22 => obtain ⟨t, u, h⟩ := gt_22 hts hg hA; exact ⟨(t, u), fun _ => h⟩
  | 23 => obtain ⟨t, u, h⟩ := gt_23 hts hg hA; exact ⟨(t, u), fun _ => h⟩
  | 24 => obtain ⟨t, u, h⟩ := gt_24 hts hg hA; exact ⟨(t, u), fun _ => h⟩
  | 25 => obtain ⟨t, u, h⟩ := gt_25 hts hg hA; exact ⟨(t, u), fun _ => h⟩
  | 26 => obtain ⟨t, u, h⟩ := gt_26 hts hg hA; exact ⟨(t, u), fun _ => h⟩
  | 27 => obtain ⟨t, u, h⟩ := gt_27 hts hg hA; exact ⟨(t, u), fun _ => h⟩
  | 28 => obtain ⟨t, u, h⟩ := gt_28 hts hg hA; exact ⟨(t, u), fun _ => h⟩
  | 29 => obtain ⟨t, u, h⟩ := gt_29 hts hg hA; exact ⟨(t, u), fun _ => h⟩
  | 30 => obtain ⟨t, u, h⟩ := gt_30 hts hg hA; exact ⟨(t, u), fun _ => h⟩
  | 31 => obtain ⟨t, u, h⟩ := gt_31 hts hg hA; exact ⟨(t, u), fun _ => h⟩
  | 32 => obtain ⟨t, u, h⟩ := gt_32 hts hg hA; exact ⟨(t, u), fun _ => h⟩
  | 33 => obtain ⟨t, u, h⟩ := gt_33 hts hg hA; exact ⟨(t, u), fun _ => h⟩
  | i + 34 => exact ⟨(0, 0), fun h => absurd h (by omega)⟩
set_option maxRecDepth 100000 in
theorem gs_start {s : State} {b : Nat} {A : Nat → Prop} (hts : ∀ w ∈ lw_tbl, w.before #[Value.ref b] s = true) (hg : (Jvm.Cond.and given_1 narrow_1).before #[.ref b] s = true) (hA : ∀ a : Nat, a < s.heap.size → ¬ A a) : ∃ ad : Nat → Nat, GS A ad s := by
  obtain ⟨f, hf⟩ := Classical.axiomOfChoice (gs_tab hts hg hA)
  obtain ⟨g, hgt⟩ := Classical.axiomOfChoice (gs_txt hts hg hA)
  have hz : ∃ t, va_Z "jdk/internal/util/Preconditions" "SIOOBE_FORMATTER" "Ljava/util/function/BiFunction;" .null A s s.heap ∨ va_Z "jdk/internal/util/Preconditions" "SIOOBE_FORMATTER" "Ljava/util/function/BiFunction;" (.ref t) A s s.heap := by
    rcases va_Zqof (C := "jdk/internal/util/Preconditions") (n := "SIOOBE_FORMATTER") (d := "Ljava/util/function/BiFunction;") (hts _ (t3_in (List.mem_of_getElem? (i := 235) rfl))) (hts _ (t1_in (List.mem_of_getElem? (i := 17) rfl))) (fl1 hg 66 rfl) hA with h | ⟨t, h⟩
    · exact ⟨0, Or.inl h⟩
    · exact ⟨t, Or.inr h⟩
  obtain ⟨t0, ht0⟩ := hz
  have len7 : ∀ i q, STA[i]? = some q → i < 7 := fun i q h => (List.getElem?_eq_some_iff.mp h).1
  have len34 : ∀ i q, STR[i]? = some q → i < 34 := fun i q h => (List.getElem?_eq_some_iff.mp h).1
  refine ⟨fun c => if c < 200 then f (c - 100) else if c < 300 then (g (c - 200)).1 else if c < 400 then (g (c - 300)).2 else t0, fun i q hq => ?_, va_Zof (hts _ (t3_in (List.mem_of_getElem? (i := 219) rfl))) (hts _ (t1_in (List.mem_of_getElem? (i := 15) rfl))) (va_eqi (fl1 hg 65 rfl)) hA, fun i q hq => ?_, List.forall_mem_cons.mpr ⟨va_Nw.of rfl (hts _ (t2_in (List.mem_of_getElem? (i := 67) rfl))), List.forall_mem_cons.mpr ⟨va_Nw.of rfl (hts _ (t2_in (List.mem_of_getElem? (i := 99) rfl))), List.forall_mem_cons.mpr ⟨va_Nw.of rfl (hts _ (t2_in (List.mem_of_getElem? (i := 105) rfl))), List.forall_mem_cons.mpr ⟨va_Nw.of rfl (hts _ (t2_in (List.mem_of_getElem? (i := 107) rfl))), List.forall_mem_cons.mpr ⟨va_Nw.of rfl (hts _ (t2_in (List.mem_of_getElem? (i := 122) rfl))), List.forall_mem_cons.mpr ⟨va_Nw.of rfl (hts _ (t2_in (List.mem_of_getElem? (i := 124) rfl))), List.forall_mem_cons.mpr ⟨va_Nw.of rfl (hts _ (t4_in (List.mem_of_getElem? (i := 82) rfl))), fun _ h => absurd h List.not_mem_nil⟩⟩⟩⟩⟩⟩⟩, List.forall_mem_cons.mpr ⟨va_Nw.of rfl (hts _ (t3_in (List.mem_of_getElem? (i := 175) rfl))), List.forall_mem_cons.mpr ⟨va_Nw.of rfl (hts _ (t4_in (List.mem_of_getElem? (i := 35) rfl))), fun _ h => absurd h List.not_mem_nil⟩⟩, ?_⟩
  · have hi := len7 i q hq
    obtain ⟨q', h1, h2, h3⟩ := hf i hi
    cases hq.symm.trans h1
    dsimp only
    rw [if_pos (by omega), show 100 + i - 100 = i by omega]
    exact ⟨h2, h3⟩
  · have hi := len34 i q hq
    obtain ⟨q', h1, h2, h3, h4, h5, h6⟩ := hgt i hi
    cases hq.symm.trans h1
    dsimp only
    rw [if_neg (show ¬ 200 + i < 200 by omega), if_pos (show 200 + i < 300 by omega), if_neg (show ¬ 300 + i < 200 by omega), if_neg (show ¬ 300 + i < 300 by omega), if_pos (show 300 + i < 400 by omega), show 200 + i - 200 = i by omega, show 300 + i - 300 = i by omega]
    exact ⟨h2, h3, h4, h5, h6⟩
  · exact ht0
theorem GS.gk {s : State} {A : Nat → Prop} {ad : Nat → Nat} {g : Geo} (h : GS A ad s) (hK : va_K g.1 vwCl (tysOf g) s) (inj : ∀ i j, i < 86 → j < 86 → g.2.1 i = g.2.1 j → i = j) (had : ∀ c, 86 ≤ c → g.2.1 c = ad c) (hA : ∀ q, Aof g q → A q) : GK g s := by
  obtain ⟨h1, h2, h3, h4, h5, h6⟩ := h
  refine ⟨hK, inj, fun i q hq => ?_, h2.narrow hA, fun i q hq => ?_, h4, h5, ?_⟩
  · obtain ⟨a1, a2⟩ := h1 i q hq
    unfold GKt
    rw [had (100 + i) (by omega)]
    exact ⟨a1.narrow hA, a2.narrow hA⟩
  · obtain ⟨a1, a2, a3, a4, a5⟩ := h3 i q hq
    unfold GKs
    rw [had (200 + i) (by omega), had (300 + i) (by omega)]
    exact ⟨a1, a2.narrow hA, a3.narrow hA, a4.narrow hA, a5.narrow hA⟩
  · unfold zFmt
    rw [had 400 (by omega)]
    exact h6.elim (fun z => Or.inl (z.narrow hA)) (fun z => Or.inr (z.narrow hA))
