/-! what the Statement gives of the start -/
/-- the static rows and texts at the start, by address -/
def GKt0 (A : Nat → Prop) (t i : Nat) (s : State) : Prop := ∃ q, STA[i]? = some q ∧ va_Z "SpoonRace" q.1 "[I" (.ref t) A s s.heap ∧ va_T .int t q.2.length (fun j => .int (q.2.getD j 0)) A s s.heap
def GKs0 (A : Nat → Prop) (t u i : Nat) (s : State) : Prop := ∃ q, STR[i]? = some q ∧ vk_R q.1 q.2.1 (wordT q.2.2) t s ∧ va_O "java/lang/String" t A s s.heap ∧ va_OF "java/lang/String" "coder" "B" (.int 0) t A s s.heap ∧ va_OF "java/lang/String" "value" "[B" (.ref u) t A s s.heap ∧ va_T .byte u (wordB q.2.2).length (fun j => .int ((wordB q.2.2).getD j 0)) A s s.heap
def FL1 : List Cond := flatC (Jvm.Cond.and given_1 narrow_1)
theorem fl1 {b : Nat} {s : State} (h : (Jvm.Cond.and given_1 narrow_1).before #[.ref b] s = true) {c : Cond} (k : Nat) (e : FL1[k]? = some c) : c.before #[.ref b] s = true := flat_of_before _ h c (List.mem_of_getElem? e)
set_option maxRecDepth 100000 in
theorem gs_0 {s : State} {b : Nat} {A : Nat → Prop} (hts : ∀ w ∈ lw_tbl, w.before #[Value.ref b] s = true) (hg : (Jvm.Cond.and given_1 narrow_1).before #[.ref b] s = true) (hA : ∀ a : Nat, a < s.heap.size → ¬ A a) : ∃ t, GKt0 A t (0) s := by
  have hV := fun hel => va_Tof (tm := .static "SpoonRace" "ROCKS_BY_PACE" "[I") (ty := .int) (N := 10) (f := fun j => .int (([0, 1, 1, 2, 2, 3, 6, 5, 3, 3] : List Int32).getD j 0)) (A := A) (by decide) (fl1 hg 25 rfl) (va_eqt (fl1 hg 26 rfl)) hel hA
  obtain ⟨t, h1, h2⟩ := hV (by
    intro j hj
    match j, hj with
    | 0, _ => exact va_eqt (fl1 hg 27 rfl)
    | 1, _ => exact va_eqt (fl1 hg 28 rfl)
    | 2, _ => exact va_eqt (fl1 hg 29 rfl)
    | 3, _ => exact va_eqt (fl1 hg 30 rfl)
    | 4, _ => exact va_eqt (fl1 hg 31 rfl)
    | 5, _ => exact va_eqt (fl1 hg 32 rfl)
    | 6, _ => exact va_eqt (fl1 hg 33 rfl)
    | 7, _ => exact va_eqt (fl1 hg 34 rfl)
    | 8, _ => exact va_eqt (fl1 hg 35 rfl)
    | 9, _ => exact va_eqt (fl1 hg 36 rfl)
    | j + 10, h => omega)
  exact ⟨t, _, rfl, va_Zref (hts _ (t2_in (List.mem_of_getElem? (i := 106) rfl))) (hts _ (t1_in (List.mem_of_getElem? (i := 1) rfl))) h1 hA, h2⟩
set_option maxRecDepth 100000 in
theorem gs_1 {s : State} {b : Nat} {A : Nat → Prop} (hts : ∀ w ∈ lw_tbl, w.before #[Value.ref b] s = true) (hg : (Jvm.Cond.and given_1 narrow_1).before #[.ref b] s = true) (hA : ∀ a : Nat, a < s.heap.size → ¬ A a) : ∃ t, GKt0 A t (1) s := by
  have hV := fun hel => va_Tof (tm := .static "SpoonRace" "HURTS_BY_GROUND" "[I") (ty := .int) (N := 5) (f := fun j => .int (([0, 3, 4, 2, 3] : List Int32).getD j 0)) (A := A) (by decide) (fl1 hg 48 rfl) (va_eqt (fl1 hg 49 rfl)) hel hA
  obtain ⟨t, h1, h2⟩ := hV (by
    intro j hj
    match j, hj with
    | 0, _ => exact va_eqt (fl1 hg 50 rfl)
    | 1, _ => exact va_eqt (fl1 hg 51 rfl)
    | 2, _ => exact va_eqt (fl1 hg 52 rfl)
    | 3, _ => exact va_eqt (fl1 hg 53 rfl)
    | 4, _ => exact va_eqt (fl1 hg 54 rfl)
    | j + 5, h => omega)
  exact ⟨t, _, rfl, va_Zref (hts _ (t2_in (List.mem_of_getElem? (i := 123) rfl))) (hts _ (t1_in (List.mem_of_getElem? (i := 1) rfl))) h1 hA, h2⟩
set_option maxRecDepth 100000 in
theorem gs_2 {s : State} {b : Nat} {A : Nat → Prop} (hts : ∀ w ∈ lw_tbl, w.before #[Value.ref b] s = true) (hg : (Jvm.Cond.and given_1 narrow_1).before #[.ref b] s = true) (hA : ∀ a : Nat, a < s.heap.size → ¬ A a) : ∃ t, GKt0 A t (2) s := by
  have hV := fun hel => va_Tof (tm := .static "SpoonRace" "KIND_ABOVE" "[I") (ty := .int) (N := 7) (f := fun j => .int (([-1, 0, 0, 0, 1, 1, 2] : List Int32).getD j 0)) (A := A) (by decide) (fl1 hg 71 rfl) (va_eqt (fl1 hg 72 rfl)) hel hA
  obtain ⟨t, h1, h2⟩ := hV (by
    intro j hj
    match j, hj with
    | 0, _ => exact va_eqt (fl1 hg 73 rfl)
    | 1, _ => exact va_eqt (fl1 hg 74 rfl)
    | 2, _ => exact va_eqt (fl1 hg 75 rfl)
    | 3, _ => exact va_eqt (fl1 hg 76 rfl)
    | 4, _ => exact va_eqt (fl1 hg 77 rfl)
    | 5, _ => exact va_eqt (fl1 hg 78 rfl)
    | 6, _ => exact va_eqt (fl1 hg 79 rfl)
    | j + 7, h => omega)
  exact ⟨t, _, rfl, va_Zref (hts _ (t4_in (List.mem_of_getElem? (i := 83) rfl))) (hts _ (t1_in (List.mem_of_getElem? (i := 1) rfl))) h1 hA, h2⟩
set_option maxRecDepth 100000 in
theorem gs_3 {s : State} {b : Nat} {A : Nat → Prop} (hts : ∀ w ∈ lw_tbl, w.before #[Value.ref b] s = true) (hg : (Jvm.Cond.and given_1 narrow_1).before #[.ref b] s = true) (hA : ∀ a : Nat, a < s.heap.size → ¬ A a) : ∃ t, GKt0 A t (3) s := by
  have hV := fun hel => va_Tof (tm := .static "SpoonRace" "TAKES_MORE" "[I") (ty := .int) (N := 7) (f := fun j => .int (([0, 0, 0, -1, 0, 0, 3] : List Int32).getD j 0)) (A := A) (by decide) (fl1 hg 15 rfl) (va_eqt (fl1 hg 16 rfl)) hel hA
  obtain ⟨t, h1, h2⟩ := hV (by
    intro j hj
    match j, hj with
    | 0, _ => exact va_eqt (fl1 hg 17 rfl)
    | 1, _ => exact va_eqt (fl1 hg 18 rfl)
    | 2, _ => exact va_eqt (fl1 hg 19 rfl)
    | 3, _ => exact va_eqt (fl1 hg 20 rfl)
    | 4, _ => exact va_eqt (fl1 hg 21 rfl)
    | 5, _ => exact va_eqt (fl1 hg 22 rfl)
    | 6, _ => exact va_eqt (fl1 hg 23 rfl)
    | j + 7, h => omega)
  exact ⟨t, _, rfl, va_Zref (hts _ (t2_in (List.mem_of_getElem? (i := 100) rfl))) (hts _ (t1_in (List.mem_of_getElem? (i := 1) rfl))) h1 hA, h2⟩
set_option maxRecDepth 100000 in
theorem gs_4 {s : State} {b : Nat} {A : Nat → Prop} (hts : ∀ w ∈ lw_tbl, w.before #[Value.ref b] s = true) (hg : (Jvm.Cond.and given_1 narrow_1).before #[.ref b] s = true) (hA : ∀ a : Nat, a < s.heap.size → ¬ A a) : ∃ t, GKt0 A t (4) s := by
  have hV := fun hel => va_Tof (tm := .static "SpoonRace" "ROCKS_MORE" "[I") (ty := .int) (N := 7) (f := fun j => .int (([0, 0, 0, 1, 0, 0, 0] : List Int32).getD j 0)) (A := A) (by decide) (fl1 hg 38 rfl) (va_eqt (fl1 hg 39 rfl)) hel hA
  obtain ⟨t, h1, h2⟩ := hV (by
    intro j hj
    match j, hj with
    | 0, _ => exact va_eqt (fl1 hg 40 rfl)
    | 1, _ => exact va_eqt (fl1 hg 41 rfl)
    | 2, _ => exact va_eqt (fl1 hg 42 rfl)
    | 3, _ => exact va_eqt (fl1 hg 43 rfl)
    | 4, _ => exact va_eqt (fl1 hg 44 rfl)
    | 5, _ => exact va_eqt (fl1 hg 45 rfl)
    | 6, _ => exact va_eqt (fl1 hg 46 rfl)
    | j + 7, h => omega)
  exact ⟨t, _, rfl, va_Zref (hts _ (t2_in (List.mem_of_getElem? (i := 108) rfl))) (hts _ (t1_in (List.mem_of_getElem? (i := 1) rfl))) h1 hA, h2⟩
set_option maxRecDepth 100000 in
theorem gs_5 {s : State} {b : Nat} {A : Nat → Prop} (hts : ∀ w ∈ lw_tbl, w.before #[Value.ref b] s = true) (hg : (Jvm.Cond.and given_1 narrow_1).before #[.ref b] s = true) (hA : ∀ a : Nat, a < s.heap.size → ¬ A a) : ∃ t, GKt0 A t (5) s := by
  have hV := fun hel => va_Tof (tm := .static "SpoonRace" "HURTS_TIMES" "[I") (ty := .int) (N := 7) (f := fun j => .int (([1, 1, 2, 1, 1, 1, 2] : List Int32).getD j 0)) (A := A) (by decide) (fl1 hg 56 rfl) (va_eqt (fl1 hg 57 rfl)) hel hA
  obtain ⟨t, h1, h2⟩ := hV (by
    intro j hj
    match j, hj with
    | 0, _ => exact va_eqt (fl1 hg 58 rfl)
    | 1, _ => exact va_eqt (fl1 hg 59 rfl)
    | 2, _ => exact va_eqt (fl1 hg 60 rfl)
    | 3, _ => exact va_eqt (fl1 hg 61 rfl)
    | 4, _ => exact va_eqt (fl1 hg 62 rfl)
    | 5, _ => exact va_eqt (fl1 hg 63 rfl)
    | 6, _ => exact va_eqt (fl1 hg 64 rfl)
    | j + 7, h => omega)
  exact ⟨t, _, rfl, va_Zref (hts _ (t2_in (List.mem_of_getElem? (i := 125) rfl))) (hts _ (t1_in (List.mem_of_getElem? (i := 1) rfl))) h1 hA, h2⟩
set_option maxRecDepth 100000 in
theorem gs_6 {s : State} {b : Nat} {A : Nat → Prop} (hts : ∀ w ∈ lw_tbl, w.before #[Value.ref b] s = true) (hg : (Jvm.Cond.and given_1 narrow_1).before #[.ref b] s = true) (hA : ∀ a : Nat, a < s.heap.size → ¬ A a) : ∃ t, GKt0 A t (6) s := by
  have hV := fun hel => va_Tof (tm := .static "SpoonRace" "HOLDS_MORE" "[I") (ty := .int) (N := 7) (f := fun j => .int (([0, 2, 3, 0, 2, 11, 3] : List Int32).getD j 0)) (A := A) (by decide) (fl1 hg 5 rfl) (va_eqt (fl1 hg 6 rfl)) hel hA
  obtain ⟨t, h1, h2⟩ := hV (by
    intro j hj
    match j, hj with
    | 0, _ => exact va_eqt (fl1 hg 7 rfl)
    | 1, _ => exact va_eqt (fl1 hg 8 rfl)
    | 2, _ => exact va_eqt (fl1 hg 9 rfl)
    | 3, _ => exact va_eqt (fl1 hg 10 rfl)
    | 4, _ => exact va_eqt (fl1 hg 11 rfl)
    | 5, _ => exact va_eqt (fl1 hg 12 rfl)
    | 6, _ => exact va_eqt (fl1 hg 13 rfl)
    | j + 7, h => omega)
  exact ⟨t, _, rfl, va_Zref (hts _ (t2_in (List.mem_of_getElem? (i := 68) rfl))) (hts _ (t1_in (List.mem_of_getElem? (i := 1) rfl))) h1 hA, h2⟩
set_option maxRecDepth 100000 in
theorem gt_0 {s : State} {b : Nat} {A : Nat → Prop} (hts : ∀ w ∈ lw_tbl, w.before #[Value.ref b] s = true) (hg : (Jvm.Cond.and given_1 narrow_1).before #[.ref b] s = true) (hA : ∀ a : Nat, a < s.heap.size → ¬ A a) : ∃ t u, GKs0 A t u 0 s := by
  obtain ⟨a, c, cA, kA, q1, q2, q3, q4, q5, q6, -⟩ := Cond.exactly_spec (args := #[.ref b]) (first := s) (o := none) (s := s) (idx := []) (t := .string "SpoonRace$Reader" 112) (cls := "java/lang/String") (fl1 hg 100 rfl)
  have hV := fun hel => va_Tof (tm := .field (.string "SpoonRace$Reader" 112) "java/lang/String" "value" "[B") (ty := .byte) (N := 5) (f := fun j => .int ((wordB 0).getD j 0)) (A := A) (by decide) (fl1 hg 102 rfl) (va_eqt (fl1 hg 103 rfl)) hel hA
  obtain ⟨u, h1, h2⟩ := hV (by
    intro j hj
    match j, hj with
    | 0, _ => exact va_eqt (fl1 hg 104 rfl)
    | 1, _ => exact va_eqt (fl1 hg 105 rfl)
    | 2, _ => exact va_eqt (fl1 hg 106 rfl)
    | 3, _ => exact va_eqt (fl1 hg 107 rfl)
    | 4, _ => exact va_eqt (fl1 hg 108 rfl)
    | j + 5, h => omega)
  exact ⟨a, u, _, rfl, vk_R.of (hts _ (t3_in (List.mem_of_getElem? (i := 205) rfl))) q1, va_Oof (fl1 hg 100 rfl) q1 hA, vk_OFof q1 (va_eqt (fl1 hg 101 rfl)) hA, vk_OFof q1 h1 hA, h2⟩
set_option maxRecDepth 100000 in
theorem gt_1 {s : State} {b : Nat} {A : Nat → Prop} (hts : ∀ w ∈ lw_tbl, w.before #[Value.ref b] s = true) (hg : (Jvm.Cond.and given_1 narrow_1).before #[.ref b] s = true) (hA : ∀ a : Nat, a < s.heap.size → ¬ A a) : ∃ t u, GKs0 A t u 1 s := by
  obtain ⟨a, c, cA, kA, q1, q2, q3, q4, q5, q6, -⟩ := Cond.exactly_spec (args := #[.ref b]) (first := s) (o := none) (s := s) (idx := []) (t := .string "SpoonRace$Reader" 114) (cls := "java/lang/String") (fl1 hg 109 rfl)
  have hV := fun hel => va_Tof (tm := .field (.string "SpoonRace$Reader" 114) "java/lang/String" "value" "[B") (ty := .byte) (N := 4) (f := fun j => .int ((wordB 1).getD j 0)) (A := A) (by decide) (fl1 hg 111 rfl) (va_eqt (fl1 hg 112 rfl)) hel hA
  obtain ⟨u, h1, h2⟩ := hV (by
    intro j hj
    match j, hj with
    | 0, _ => exact va_eqt (fl1 hg 113 rfl)
    | 1, _ => exact va_eqt (fl1 hg 114 rfl)
    | 2, _ => exact va_eqt (fl1 hg 115 rfl)
    | 3, _ => exact va_eqt (fl1 hg 116 rfl)
    | j + 4, h => omega)
  exact ⟨a, u, _, rfl, vk_R.of (hts _ (t4_in (List.mem_of_getElem? (i := 18) rfl))) q1, va_Oof (fl1 hg 109 rfl) q1 hA, vk_OFof q1 (va_eqt (fl1 hg 110 rfl)) hA, vk_OFof q1 h1 hA, h2⟩
set_option maxRecDepth 100000 in
theorem gt_2 {s : State} {b : Nat} {A : Nat → Prop} (hts : ∀ w ∈ lw_tbl, w.before #[Value.ref b] s = true) (hg : (Jvm.Cond.and given_1 narrow_1).before #[.ref b] s = true) (hA : ∀ a : Nat, a < s.heap.size → ¬ A a) : ∃ t u, GKs0 A t u 2 s := by
  obtain ⟨a, c, cA, kA, q1, q2, q3, q4, q5, q6, -⟩ := Cond.exactly_spec (args := #[.ref b]) (first := s) (o := none) (s := s) (idx := []) (t := .string "SpoonRace$Reader" 116) (cls := "java/lang/String") (fl1 hg 117 rfl)
  have hV := fun hel => va_Tof (tm := .field (.string "SpoonRace$Reader" 116) "java/lang/String" "value" "[B") (ty := .byte) (N := 7) (f := fun j => .int ((wordB 2).getD j 0)) (A := A) (by decide) (fl1 hg 119 rfl) (va_eqt (fl1 hg 120 rfl)) hel hA
  obtain ⟨u, h1, h2⟩ := hV (by
    intro j hj
    match j, hj with
    | 0, _ => exact va_eqt (fl1 hg 121 rfl)
    | 1, _ => exact va_eqt (fl1 hg 122 rfl)
    | 2, _ => exact va_eqt (fl1 hg 123 rfl)
    | 3, _ => exact va_eqt (fl1 hg 124 rfl)
    | 4, _ => exact va_eqt (fl1 hg 125 rfl)
    | 5, _ => exact va_eqt (fl1 hg 126 rfl)
    | 6, _ => exact va_eqt (fl1 hg 127 rfl)
    | j + 7, h => omega)
  exact ⟨a, u, _, rfl, vk_R.of (hts _ (t4_in (List.mem_of_getElem? (i := 19) rfl))) q1, va_Oof (fl1 hg 117 rfl) q1 hA, vk_OFof q1 (va_eqt (fl1 hg 118 rfl)) hA, vk_OFof q1 h1 hA, h2⟩
set_option maxRecDepth 100000 in
theorem gt_3 {s : State} {b : Nat} {A : Nat → Prop} (hts : ∀ w ∈ lw_tbl, w.before #[Value.ref b] s = true) (hg : (Jvm.Cond.and given_1 narrow_1).before #[.ref b] s = true) (hA : ∀ a : Nat, a < s.heap.size → ¬ A a) : ∃ t u, GKs0 A t u 3 s := by
  obtain ⟨a, c, cA, kA, q1, q2, q3, q4, q5, q6, -⟩ := Cond.exactly_spec (args := #[.ref b]) (first := s) (o := none) (s := s) (idx := []) (t := .string "SpoonRace$Reader" 118) (cls := "java/lang/String") (fl1 hg 128 rfl)
  have hV := fun hel => va_Tof (tm := .field (.string "SpoonRace$Reader" 118) "java/lang/String" "value" "[B") (ty := .byte) (N := 4) (f := fun j => .int ((wordB 3).getD j 0)) (A := A) (by decide) (fl1 hg 130 rfl) (va_eqt (fl1 hg 131 rfl)) hel hA
  obtain ⟨u, h1, h2⟩ := hV (by
    intro j hj
    match j, hj with
    | 0, _ => exact va_eqt (fl1 hg 132 rfl)
    | 1, _ => exact va_eqt (fl1 hg 133 rfl)
    | 2, _ => exact va_eqt (fl1 hg 134 rfl)
    | 3, _ => exact va_eqt (fl1 hg 135 rfl)
    | j + 4, h => omega)
  exact ⟨a, u, _, rfl, vk_R.of (hts _ (t4_in (List.mem_of_getElem? (i := 20) rfl))) q1, va_Oof (fl1 hg 128 rfl) q1 hA, vk_OFof q1 (va_eqt (fl1 hg 129 rfl)) hA, vk_OFof q1 h1 hA, h2⟩
set_option maxRecDepth 100000 in
theorem gt_4 {s : State} {b : Nat} {A : Nat → Prop} (hts : ∀ w ∈ lw_tbl, w.before #[Value.ref b] s = true) (hg : (Jvm.Cond.and given_1 narrow_1).before #[.ref b] s = true) (hA : ∀ a : Nat, a < s.heap.size → ¬ A a) : ∃ t u, GKs0 A t u 4 s := by
  obtain ⟨a, c, cA, kA, q1, q2, q3, q4, q5, q6, -⟩ := Cond.exactly_spec (args := #[.ref b]) (first := s) (o := none) (s := s) (idx := []) (t := .string "SpoonRace$Reader" 120) (cls := "java/lang/String") (fl1 hg 136 rfl)
  have hV := fun hel => va_Tof (tm := .field (.string "SpoonRace$Reader" 120) "java/lang/String" "value" "[B") (ty := .byte) (N := 5) (f := fun j => .int ((wordB 4).getD j 0)) (A := A) (by decide) (fl1 hg 138 rfl) (va_eqt (fl1 hg 139 rfl)) hel hA
  obtain ⟨u, h1, h2⟩ := hV (by
    intro j hj
    match j, hj with
    | 0, _ => exact va_eqt (fl1 hg 140 rfl)
    | 1, _ => exact va_eqt (fl1 hg 141 rfl)
    | 2, _ => exact va_eqt (fl1 hg 142 rfl)
    | 3, _ => exact va_eqt (fl1 hg 143 rfl)
    | 4, _ => exact va_eqt (fl1 hg 144 rfl)
    | j + 5, h => omega)
  exact ⟨a, u, _, rfl, vk_R.of (hts _ (t4_in (List.mem_of_getElem? (i := 21) rfl))) q1, va_Oof (fl1 hg 136 rfl) q1 hA, vk_OFof q1 (va_eqt (fl1 hg 137 rfl)) hA, vk_OFof q1 h1 hA, h2⟩
set_option maxRecDepth 100000 in
theorem gt_5 {s : State} {b : Nat} {A : Nat → Prop} (hts : ∀ w ∈ lw_tbl, w.before #[Value.ref b] s = true) (hg : (Jvm.Cond.and given_1 narrow_1).before #[.ref b] s = true) (hA : ∀ a : Nat, a < s.heap.size → ¬ A a) : ∃ t u, GKs0 A t u 5 s := by
  obtain ⟨a, c, cA, kA, q1, q2, q3, q4, q5, q6, -⟩ := Cond.exactly_spec (args := #[.ref b]) (first := s) (o := none) (s := s) (idx := []) (t := .string "SpoonRace$Reader" 67) (cls := "java/lang/String") (fl1 hg 145 rfl)
  have hV := fun hel => va_Tof (tm := .field (.string "SpoonRace$Reader" 67) "java/lang/String" "value" "[B") (ty := .byte) (N := 2) (f := fun j => .int ((wordB 5).getD j 0)) (A := A) (by decide) (fl1 hg 147 rfl) (va_eqt (fl1 hg 148 rfl)) hel hA
  obtain ⟨u, h1, h2⟩ := hV (by
    intro j hj
    match j, hj with
    | 0, _ => exact va_eqt (fl1 hg 149 rfl)
    | 1, _ => exact va_eqt (fl1 hg 150 rfl)
    | j + 2, h => omega)
  exact ⟨a, u, _, rfl, vk_R.of (hts _ (t4_in (List.mem_of_getElem? (i := 36) rfl))) q1, va_Oof (fl1 hg 145 rfl) q1 hA, vk_OFof q1 (va_eqt (fl1 hg 146 rfl)) hA, vk_OFof q1 h1 hA, h2⟩
set_option maxRecDepth 100000 in
theorem gt_6 {s : State} {b : Nat} {A : Nat → Prop} (hts : ∀ w ∈ lw_tbl, w.before #[Value.ref b] s = true) (hg : (Jvm.Cond.and given_1 narrow_1).before #[.ref b] s = true) (hA : ∀ a : Nat, a < s.heap.size → ¬ A a) : ∃ t u, GKs0 A t u 6 s := by
  obtain ⟨a, c, cA, kA, q1, q2, q3, q4, q5, q6, -⟩ := Cond.exactly_spec (args := #[.ref b]) (first := s) (o := none) (s := s) (idx := []) (t := .string "SpoonRace$Reader" 43) (cls := "java/lang/String") (fl1 hg 151 rfl)
  have hV := fun hel => va_Tof (tm := .field (.string "SpoonRace$Reader" 43) "java/lang/String" "value" "[B") (ty := .byte) (N := 4) (f := fun j => .int ((wordB 6).getD j 0)) (A := A) (by decide) (fl1 hg 153 rfl) (va_eqt (fl1 hg 154 rfl)) hel hA
  obtain ⟨u, h1, h2⟩ := hV (by
    intro j hj
    match j, hj with
    | 0, _ => exact va_eqt (fl1 hg 155 rfl)
    | 1, _ => exact va_eqt (fl1 hg 156 rfl)
    | 2, _ => exact va_eqt (fl1 hg 157 rfl)
    | 3, _ => exact va_eqt (fl1 hg 158 rfl)
    | j + 4, h => omega)
  exact ⟨a, u, _, rfl, vk_R.of (hts _ (t4_in (List.mem_of_getElem? (i := 41) rfl))) q1, va_Oof (fl1 hg 151 rfl) q1 hA, vk_OFof q1 (va_eqt (fl1 hg 152 rfl)) hA, vk_OFof q1 h1 hA, h2⟩
set_option maxRecDepth 100000 in
theorem gt_7 {s : State} {b : Nat} {A : Nat → Prop} (hts : ∀ w ∈ lw_tbl, w.before #[Value.ref b] s = true) (hg : (Jvm.Cond.and given_1 narrow_1).before #[.ref b] s = true) (hA : ∀ a : Nat, a < s.heap.size → ¬ A a) : ∃ t u, GKs0 A t u 7 s := by
  obtain ⟨a, c, cA, kA, q1, q2, q3, q4, q5, q6, -⟩ := Cond.exactly_spec (args := #[.ref b]) (first := s) (o := none) (s := s) (idx := []) (t := .string "SpoonRace$Reader" 122) (cls := "java/lang/String") (fl1 hg 159 rfl)
  have hV := fun hel => va_Tof (tm := .field (.string "SpoonRace$Reader" 122) "java/lang/String" "value" "[B") (ty := .byte) (N := 6) (f := fun j => .int ((wordB 7).getD j 0)) (A := A) (by decide) (fl1 hg 161 rfl) (va_eqt (fl1 hg 162 rfl)) hel hA
  obtain ⟨u, h1, h2⟩ := hV (by
    intro j hj
    match j, hj with
    | 0, _ => exact va_eqt (fl1 hg 163 rfl)
    | 1, _ => exact va_eqt (fl1 hg 164 rfl)
    | 2, _ => exact va_eqt (fl1 hg 165 rfl)
    | 3, _ => exact va_eqt (fl1 hg 166 rfl)
    | 4, _ => exact va_eqt (fl1 hg 167 rfl)
    | 5, _ => exact va_eqt (fl1 hg 168 rfl)
    | j + 6, h => omega)
  exact ⟨a, u, _, rfl, vk_R.of (hts _ (t4_in (List.mem_of_getElem? (i := 50) rfl))) q1, va_Oof (fl1 hg 159 rfl) q1 hA, vk_OFof q1 (va_eqt (fl1 hg 160 rfl)) hA, vk_OFof q1 h1 hA, h2⟩
set_option maxRecDepth 100000 in
theorem gt_8 {s : State} {b : Nat} {A : Nat → Prop} (hts : ∀ w ∈ lw_tbl, w.before #[Value.ref b] s = true) (hg : (Jvm.Cond.and given_1 narrow_1).before #[.ref b] s = true) (hA : ∀ a : Nat, a < s.heap.size → ¬ A a) : ∃ t u, GKs0 A t u 8 s := by
  obtain ⟨a, c, cA, kA, q1, q2, q3, q4, q5, q6, -⟩ := Cond.exactly_spec (args := #[.ref b]) (first := s) (o := none) (s := s) (idx := []) (t := .string "SpoonRace$Reader" 124) (cls := "java/lang/String") (fl1 hg 169 rfl)
  have hV := fun hel => va_Tof (tm := .field (.string "SpoonRace$Reader" 124) "java/lang/String" "value" "[B") (ty := .byte) (N := 6) (f := fun j => .int ((wordB 8).getD j 0)) (A := A) (by decide) (fl1 hg 171 rfl) (va_eqt (fl1 hg 172 rfl)) hel hA
  obtain ⟨u, h1, h2⟩ := hV (by
    intro j hj
    match j, hj with
    | 0, _ => exact va_eqt (fl1 hg 173 rfl)
    | 1, _ => exact va_eqt (fl1 hg 174 rfl)
    | 2, _ => exact va_eqt (fl1 hg 175 rfl)
    | 3, _ => exact va_eqt (fl1 hg 176 rfl)
    | 4, _ => exact va_eqt (fl1 hg 177 rfl)
    | 5, _ => exact va_eqt (fl1 hg 178 rfl)
    | j + 6, h => omega)
  exact ⟨a, u, _, rfl, vk_R.of (hts _ (t4_in (List.mem_of_getElem? (i := 51) rfl))) q1, va_Oof (fl1 hg 169 rfl) q1 hA, vk_OFof q1 (va_eqt (fl1 hg 170 rfl)) hA, vk_OFof q1 h1 hA, h2⟩
set_option maxRecDepth 100000 in
theorem gt_9 {s : State} {b : Nat} {A : Nat → Prop} (hts : ∀ w ∈ lw_tbl, w.before #[Value.ref b] s = true) (hg : (Jvm.Cond.and given_1 narrow_1).before #[.ref b] s = true) (hA : ∀ a : Nat, a < s.heap.size → ¬ A a) : ∃ t u, GKs0 A t u 9 s := by
  obtain ⟨a, c, cA, kA, q1, q2, q3, q4, q5, q6, -⟩ := Cond.exactly_spec (args := #[.ref b]) (first := s) (o := none) (s := s) (idx := []) (t := .string "SpoonRace$Reader" 126) (cls := "java/lang/String") (fl1 hg 179 rfl)
  have hV := fun hel => va_Tof (tm := .field (.string "SpoonRace$Reader" 126) "java/lang/String" "value" "[B") (ty := .byte) (N := 6) (f := fun j => .int ((wordB 9).getD j 0)) (A := A) (by decide) (fl1 hg 181 rfl) (va_eqt (fl1 hg 182 rfl)) hel hA
  obtain ⟨u, h1, h2⟩ := hV (by
    intro j hj
    match j, hj with
    | 0, _ => exact va_eqt (fl1 hg 183 rfl)
    | 1, _ => exact va_eqt (fl1 hg 184 rfl)
    | 2, _ => exact va_eqt (fl1 hg 185 rfl)
    | 3, _ => exact va_eqt (fl1 hg 186 rfl)
    | 4, _ => exact va_eqt (fl1 hg 187 rfl)
    | 5, _ => exact va_eqt (fl1 hg 188 rfl)
    | j + 6, h => omega)
  exact ⟨a, u, _, rfl, vk_R.of (hts _ (t4_in (List.mem_of_getElem? (i := 52) rfl))) q1, va_Oof (fl1 hg 179 rfl) q1 hA, vk_OFof q1 (va_eqt (fl1 hg 180 rfl)) hA, vk_OFof q1 h1 hA, h2⟩
set_option maxRecDepth 100000 in
theorem gt_10 {s : State} {b : Nat} {A : Nat → Prop} (hts : ∀ w ∈ lw_tbl, w.before #[Value.ref b] s = true) (hg : (Jvm.Cond.and given_1 narrow_1).before #[.ref b] s = true) (hA : ∀ a : Nat, a < s.heap.size → ¬ A a) : ∃ t u, GKs0 A t u 10 s := by
  obtain ⟨a, c, cA, kA, q1, q2, q3, q4, q5, q6, -⟩ := Cond.exactly_spec (args := #[.ref b]) (first := s) (o := none) (s := s) (idx := []) (t := .string "SpoonRace$Reader" 128) (cls := "java/lang/String") (fl1 hg 189 rfl)
  have hV := fun hel => va_Tof (tm := .field (.string "SpoonRace$Reader" 128) "java/lang/String" "value" "[B") (ty := .byte) (N := 6) (f := fun j => .int ((wordB 10).getD j 0)) (A := A) (by decide) (fl1 hg 191 rfl) (va_eqt (fl1 hg 192 rfl)) hel hA
  obtain ⟨u, h1, h2⟩ := hV (by
    intro j hj
    match j, hj with
    | 0, _ => exact va_eqt (fl1 hg 193 rfl)
    | 1, _ => exact va_eqt (fl1 hg 194 rfl)
    | 2, _ => exact va_eqt (fl1 hg 195 rfl)
    | 3, _ => exact va_eqt (fl1 hg 196 rfl)
    | 4, _ => exact va_eqt (fl1 hg 197 rfl)
    | 5, _ => exact va_eqt (fl1 hg 198 rfl)
    | j + 6, h => omega)
  exact ⟨a, u, _, rfl, vk_R.of (hts _ (t4_in (List.mem_of_getElem? (i := 53) rfl))) q1, va_Oof (fl1 hg 189 rfl) q1 hA, vk_OFof q1 (va_eqt (fl1 hg 190 rfl)) hA, vk_OFof q1 h1 hA, h2⟩
set_option maxRecDepth 100000 in
theorem gt_11 {s : State} {b : Nat} {A : Nat → Prop} (hts : ∀ w ∈ lw_tbl, w.before #[Value.ref b] s = true) (hg : (Jvm.Cond.and given_1 narrow_1).before #[.ref b] s = true) (hA : ∀ a : Nat, a < s.heap.size → ¬ A a) : ∃ t u, GKs0 A t u 11 s := by
  obtain ⟨a, c, cA, kA, q1, q2, q3, q4, q5, q6, -⟩ := Cond.exactly_spec (args := #[.ref b]) (first := s) (o := none) (s := s) (idx := []) (t := .string "SpoonRace$Reader" 130) (cls := "java/lang/String") (fl1 hg 199 rfl)
  have hV := fun hel => va_Tof (tm := .field (.string "SpoonRace$Reader" 130) "java/lang/String" "value" "[B") (ty := .byte) (N := 6) (f := fun j => .int ((wordB 11).getD j 0)) (A := A) (by decide) (fl1 hg 201 rfl) (va_eqt (fl1 hg 202 rfl)) hel hA
  obtain ⟨u, h1, h2⟩ := hV (by
    intro j hj
    match j, hj with
    | 0, _ => exact va_eqt (fl1 hg 203 rfl)
    | 1, _ => exact va_eqt (fl1 hg 204 rfl)
    | 2, _ => exact va_eqt (fl1 hg 205 rfl)
    | 3, _ => exact va_eqt (fl1 hg 206 rfl)
    | 4, _ => exact va_eqt (fl1 hg 207 rfl)
    | 5, _ => exact va_eqt (fl1 hg 208 rfl)
    | j + 6, h => omega)
  exact ⟨a, u, _, rfl, vk_R.of (hts _ (t4_in (List.mem_of_getElem? (i := 54) rfl))) q1, va_Oof (fl1 hg 199 rfl) q1 hA, vk_OFof q1 (va_eqt (fl1 hg 200 rfl)) hA, vk_OFof q1 h1 hA, h2⟩
set_option maxRecDepth 100000 in
theorem gt_12 {s : State} {b : Nat} {A : Nat → Prop} (hts : ∀ w ∈ lw_tbl, w.before #[Value.ref b] s = true) (hg : (Jvm.Cond.and given_1 narrow_1).before #[.ref b] s = true) (hA : ∀ a : Nat, a < s.heap.size → ¬ A a) : ∃ t u, GKs0 A t u 12 s := by
  obtain ⟨a, c, cA, kA, q1, q2, q3, q4, q5, q6, -⟩ := Cond.exactly_spec (args := #[.ref b]) (first := s) (o := none) (s := s) (idx := []) (t := .string "SpoonRace$Reader" 132) (cls := "java/lang/String") (fl1 hg 209 rfl)
  have hV := fun hel => va_Tof (tm := .field (.string "SpoonRace$Reader" 132) "java/lang/String" "value" "[B") (ty := .byte) (N := 3) (f := fun j => .int ((wordB 12).getD j 0)) (A := A) (by decide) (fl1 hg 211 rfl) (va_eqt (fl1 hg 212 rfl)) hel hA
  obtain ⟨u, h1, h2⟩ := hV (by
    intro j hj
    match j, hj with
    | 0, _ => exact va_eqt (fl1 hg 213 rfl)
    | 1, _ => exact va_eqt (fl1 hg 214 rfl)
    | 2, _ => exact va_eqt (fl1 hg 215 rfl)
    | j + 3, h => omega)
  exact ⟨a, u, _, rfl, vk_R.of (hts _ (t4_in (List.mem_of_getElem? (i := 55) rfl))) q1, va_Oof (fl1 hg 209 rfl) q1 hA, vk_OFof q1 (va_eqt (fl1 hg 210 rfl)) hA, vk_OFof q1 h1 hA, h2⟩
set_option maxRecDepth 100000 in
theorem gt_13 {s : State} {b : Nat} {A : Nat → Prop} (hts : ∀ w ∈ lw_tbl, w.before #[Value.ref b] s = true) (hg : (Jvm.Cond.and given_1 narrow_1).before #[.ref b] s = true) (hA : ∀ a : Nat, a < s.heap.size → ¬ A a) : ∃ t u, GKs0 A t u 13 s := by
  obtain ⟨a, c, cA, kA, q1, q2, q3, q4, q5, q6, -⟩ := Cond.exactly_spec (args := #[.ref b]) (first := s) (o := none) (s := s) (idx := []) (t := .string "SpoonRace$Reader" 134) (cls := "java/lang/String") (fl1 hg 216 rfl)
  have hV := fun hel => va_Tof (tm := .field (.string "SpoonRace$Reader" 134) "java/lang/String" "value" "[B") (ty := .byte) (N := 5) (f := fun j => .int ((wordB 13).getD j 0)) (A := A) (by decide) (fl1 hg 218 rfl) (va_eqt (fl1 hg 219 rfl)) hel hA
  obtain ⟨u, h1, h2⟩ := hV (by
    intro j hj
    match j, hj with
    | 0, _ => exact va_eqt (fl1 hg 220 rfl)
    | 1, _ => exact va_eqt (fl1 hg 221 rfl)
    | 2, _ => exact va_eqt (fl1 hg 222 rfl)
    | 3, _ => exact va_eqt (fl1 hg 223 rfl)
    | 4, _ => exact va_eqt (fl1 hg 224 rfl)
    | j + 5, h => omega)
  exact ⟨a, u, _, rfl, vk_R.of (hts _ (t4_in (List.mem_of_getElem? (i := 56) rfl))) q1, va_Oof (fl1 hg 216 rfl) q1 hA, vk_OFof q1 (va_eqt (fl1 hg 217 rfl)) hA, vk_OFof q1 h1 hA, h2⟩
set_option maxRecDepth 100000 in
theorem gt_14 {s : State} {b : Nat} {A : Nat → Prop} (hts : ∀ w ∈ lw_tbl, w.before #[Value.ref b] s = true) (hg : (Jvm.Cond.and given_1 narrow_1).before #[.ref b] s = true) (hA : ∀ a : Nat, a < s.heap.size → ¬ A a) : ∃ t u, GKs0 A t u 14 s := by
  obtain ⟨a, c, cA, kA, q1, q2, q3, q4, q5, q6, -⟩ := Cond.exactly_spec (args := #[.ref b]) (first := s) (o := none) (s := s) (idx := []) (t := .string "SpoonRace$Reader" 80) (cls := "java/lang/String") (fl1 hg 225 rfl)
  have hV := fun hel => va_Tof (tm := .field (.string "SpoonRace$Reader" 80) "java/lang/String" "value" "[B") (ty := .byte) (N := 3) (f := fun j => .int ((wordB 14).getD j 0)) (A := A) (by decide) (fl1 hg 227 rfl) (va_eqt (fl1 hg 228 rfl)) hel hA
  obtain ⟨u, h1, h2⟩ := hV (by
    intro j hj
    match j, hj with
    | 0, _ => exact va_eqt (fl1 hg 229 rfl)
    | 1, _ => exact va_eqt (fl1 hg 230 rfl)
    | 2, _ => exact va_eqt (fl1 hg 231 rfl)
    | j + 3, h => omega)
  exact ⟨a, u, _, rfl, vk_R.of (hts _ (t4_in (List.mem_of_getElem? (i := 61) rfl))) q1, va_Oof (fl1 hg 225 rfl) q1 hA, vk_OFof q1 (va_eqt (fl1 hg 226 rfl)) hA, vk_OFof q1 h1 hA, h2⟩
set_option maxRecDepth 100000 in
theorem gt_15 {s : State} {b : Nat} {A : Nat → Prop} (hts : ∀ w ∈ lw_tbl, w.before #[Value.ref b] s = true) (hg : (Jvm.Cond.and given_1 narrow_1).before #[.ref b] s = true) (hA : ∀ a : Nat, a < s.heap.size → ¬ A a) : ∃ t u, GKs0 A t u 15 s := by
  obtain ⟨a, c, cA, kA, q1, q2, q3, q4, q5, q6, -⟩ := Cond.exactly_spec (args := #[.ref b]) (first := s) (o := none) (s := s) (idx := []) (t := .string "SpoonRace$Reader" 82) (cls := "java/lang/String") (fl1 hg 232 rfl)
  have hV := fun hel => va_Tof (tm := .field (.string "SpoonRace$Reader" 82) "java/lang/String" "value" "[B") (ty := .byte) (N := 5) (f := fun j => .int ((wordB 15).getD j 0)) (A := A) (by decide) (fl1 hg 234 rfl) (va_eqt (fl1 hg 235 rfl)) hel hA
  obtain ⟨u, h1, h2⟩ := hV (by
    intro j hj
    match j, hj with
    | 0, _ => exact va_eqt (fl1 hg 236 rfl)
    | 1, _ => exact va_eqt (fl1 hg 237 rfl)
    | 2, _ => exact va_eqt (fl1 hg 238 rfl)
    | 3, _ => exact va_eqt (fl1 hg 239 rfl)
    | 4, _ => exact va_eqt (fl1 hg 240 rfl)
    | j + 5, h => omega)
  exact ⟨a, u, _, rfl, vk_R.of (hts _ (t4_in (List.mem_of_getElem? (i := 62) rfl))) q1, va_Oof (fl1 hg 232 rfl) q1 hA, vk_OFof q1 (va_eqt (fl1 hg 233 rfl)) hA, vk_OFof q1 h1 hA, h2⟩
set_option maxRecDepth 100000 in
theorem gt_16 {s : State} {b : Nat} {A : Nat → Prop} (hts : ∀ w ∈ lw_tbl, w.before #[Value.ref b] s = true) (hg : (Jvm.Cond.and given_1 narrow_1).before #[.ref b] s = true) (hA : ∀ a : Nat, a < s.heap.size → ¬ A a) : ∃ t u, GKs0 A t u 16 s := by
  obtain ⟨a, c, cA, kA, q1, q2, q3, q4, q5, q6, -⟩ := Cond.exactly_spec (args := #[.ref b]) (first := s) (o := none) (s := s) (idx := []) (t := .string "SpoonRace$Reader" 84) (cls := "java/lang/String") (fl1 hg 241 rfl)
  have hV := fun hel => va_Tof (tm := .field (.string "SpoonRace$Reader" 84) "java/lang/String" "value" "[B") (ty := .byte) (N := 4) (f := fun j => .int ((wordB 16).getD j 0)) (A := A) (by decide) (fl1 hg 243 rfl) (va_eqt (fl1 hg 244 rfl)) hel hA
  obtain ⟨u, h1, h2⟩ := hV (by
    intro j hj
    match j, hj with
    | 0, _ => exact va_eqt (fl1 hg 245 rfl)
    | 1, _ => exact va_eqt (fl1 hg 246 rfl)
    | 2, _ => exact va_eqt (fl1 hg 247 rfl)
    | 3, _ => exact va_eqt (fl1 hg 248 rfl)
    | j + 4, h => omega)
  exact ⟨a, u, _, rfl, vk_R.of (hts _ (t4_in (List.mem_of_getElem? (i := 63) rfl))) q1, va_Oof (fl1 hg 241 rfl) q1 hA, vk_OFof q1 (va_eqt (fl1 hg 242 rfl)) hA, vk_OFof q1 h1 hA, h2⟩
set_option maxRecDepth 100000 in
theorem gt_17 {s : State} {b : Nat} {A : Nat → Prop} (hts : ∀ w ∈ lw_tbl, w.before #[Value.ref b] s = true) (hg : (Jvm.Cond.and given_1 narrow_1).before #[.ref b] s = true) (hA : ∀ a : Nat, a < s.heap.size → ¬ A a) : ∃ t u, GKs0 A t u 17 s := by
  obtain ⟨a, c, cA, kA, q1, q2, q3, q4, q5, q6, -⟩ := Cond.exactly_spec (args := #[.ref b]) (first := s) (o := none) (s := s) (idx := []) (t := .string "SpoonRaceModel" 264) (cls := "java/lang/String") (fl1 hg 249 rfl)
  have hV := fun hel => va_Tof (tm := .field (.string "SpoonRaceModel" 264) "java/lang/String" "value" "[B") (ty := .byte) (N := 5) (f := fun j => .int ((wordB 0).getD j 0)) (A := A) (by decide) (fl1 hg 251 rfl) (va_eqt (fl1 hg 252 rfl)) hel hA
  obtain ⟨u, h1, h2⟩ := hV (by
    intro j hj
    match j, hj with
    | 0, _ => exact va_eqt (fl1 hg 253 rfl)
    | 1, _ => exact va_eqt (fl1 hg 254 rfl)
    | 2, _ => exact va_eqt (fl1 hg 255 rfl)
    | 3, _ => exact va_eqt (fl1 hg 256 rfl)
    | 4, _ => exact va_eqt (fl1 hg 257 rfl)
    | j + 5, h => omega)
  exact ⟨a, u, _, rfl, vk_R.of (hts _ (t6_in (List.mem_of_getElem? (i := 96) rfl))) q1, va_Oof (fl1 hg 249 rfl) q1 hA, vk_OFof q1 (va_eqt (fl1 hg 250 rfl)) hA, vk_OFof q1 h1 hA, h2⟩
set_option maxRecDepth 100000 in
theorem gt_18 {s : State} {b : Nat} {A : Nat → Prop} (hts : ∀ w ∈ lw_tbl, w.before #[Value.ref b] s = true) (hg : (Jvm.Cond.and given_1 narrow_1).before #[.ref b] s = true) (hA : ∀ a : Nat, a < s.heap.size → ¬ A a) : ∃ t u, GKs0 A t u 18 s := by
  obtain ⟨a, c, cA, kA, q1, q2, q3, q4, q5, q6, -⟩ := Cond.exactly_spec (args := #[.ref b]) (first := s) (o := none) (s := s) (idx := []) (t := .string "SpoonRaceModel" 265) (cls := "java/lang/String") (fl1 hg 259 rfl)
  have hV := fun hel => va_Tof (tm := .field (.string "SpoonRaceModel" 265) "java/lang/String" "value" "[B") (ty := .byte) (N := 4) (f := fun j => .int ((wordB 1).getD j 0)) (A := A) (by decide) (fl1 hg 261 rfl) (va_eqt (fl1 hg 262 rfl)) hel hA
  obtain ⟨u, h1, h2⟩ := hV (by
    intro j hj
    match j, hj with
    | 0, _ => exact va_eqt (fl1 hg 263 rfl)
    | 1, _ => exact va_eqt (fl1 hg 264 rfl)
    | 2, _ => exact va_eqt (fl1 hg 265 rfl)
    | 3, _ => exact va_eqt (fl1 hg 266 rfl)
    | j + 4, h => omega)
  exact ⟨a, u, _, rfl, vk_R.of (hts _ (t6_in (List.mem_of_getElem? (i := 103) rfl))) q1, va_Oof (fl1 hg 259 rfl) q1 hA, vk_OFof q1 (va_eqt (fl1 hg 260 rfl)) hA, vk_OFof q1 h1 hA, h2⟩
set_option maxRecDepth 100000 in
theorem gt_19 {s : State} {b : Nat} {A : Nat → Prop} (hts : ∀ w ∈ lw_tbl, w.before #[Value.ref b] s = true) (hg : (Jvm.Cond.and given_1 narrow_1).before #[.ref b] s = true) (hA : ∀ a : Nat, a < s.heap.size → ¬ A a) : ∃ t u, GKs0 A t u 19 s := by
  obtain ⟨a, c, cA, kA, q1, q2, q3, q4, q5, q6, -⟩ := Cond.exactly_spec (args := #[.ref b]) (first := s) (o := none) (s := s) (idx := []) (t := .string "SpoonRaceModel" 267) (cls := "java/lang/String") (fl1 hg 268 rfl)
  have hV := fun hel => va_Tof (tm := .field (.string "SpoonRaceModel" 267) "java/lang/String" "value" "[B") (ty := .byte) (N := 7) (f := fun j => .int ((wordB 2).getD j 0)) (A := A) (by decide) (fl1 hg 270 rfl) (va_eqt (fl1 hg 271 rfl)) hel hA
  obtain ⟨u, h1, h2⟩ := hV (by
    intro j hj
    match j, hj with
    | 0, _ => exact va_eqt (fl1 hg 272 rfl)
    | 1, _ => exact va_eqt (fl1 hg 273 rfl)
    | 2, _ => exact va_eqt (fl1 hg 274 rfl)
    | 3, _ => exact va_eqt (fl1 hg 275 rfl)
    | 4, _ => exact va_eqt (fl1 hg 276 rfl)
    | 5, _ => exact va_eqt (fl1 hg 277 rfl)
    | 6, _ => exact va_eqt (fl1 hg 278 rfl)
    | j + 7, h => omega)
  exact ⟨a, u, _, rfl, vk_R.of (hts _ (t6_in (List.mem_of_getElem? (i := 104) rfl))) q1, va_Oof (fl1 hg 268 rfl) q1 hA, vk_OFof q1 (va_eqt (fl1 hg 269 rfl)) hA, vk_OFof q1 h1 hA, h2⟩
set_option maxRecDepth 100000 in
theorem gt_20 {s : State} {b : Nat} {A : Nat → Prop} (hts : ∀ w ∈ lw_tbl, w.before #[Value.ref b] s = true) (hg : (Jvm.Cond.and given_1 narrow_1).before #[.ref b] s = true) (hA : ∀ a : Nat, a < s.heap.size → ¬ A a) : ∃ t u, GKs0 A t u 20 s := by
  obtain ⟨a, c, cA, kA, q1, q2, q3, q4, q5, q6, -⟩ := Cond.exactly_spec (args := #[.ref b]) (first := s) (o := none) (s := s) (idx := []) (t := .string "SpoonRaceModel" 269) (cls := "java/lang/String") (fl1 hg 280 rfl)
  have hV := fun hel => va_Tof (tm := .field (.string "SpoonRaceModel" 269) "java/lang/String" "value" "[B") (ty := .byte) (N := 4) (f := fun j => .int ((wordB 3).getD j 0)) (A := A) (by decide) (fl1 hg 282 rfl) (va_eqt (fl1 hg 283 rfl)) hel hA
  obtain ⟨u, h1, h2⟩ := hV (by
    intro j hj
    match j, hj with
    | 0, _ => exact va_eqt (fl1 hg 284 rfl)
    | 1, _ => exact va_eqt (fl1 hg 285 rfl)
    | 2, _ => exact va_eqt (fl1 hg 286 rfl)
    | 3, _ => exact va_eqt (fl1 hg 287 rfl)
    | j + 4, h => omega)
  exact ⟨a, u, _, rfl, vk_R.of (hts _ (t6_in (List.mem_of_getElem? (i := 105) rfl))) q1, va_Oof (fl1 hg 280 rfl) q1 hA, vk_OFof q1 (va_eqt (fl1 hg 281 rfl)) hA, vk_OFof q1 h1 hA, h2⟩
set_option maxRecDepth 100000 in
theorem gt_21 {s : State} {b : Nat} {A : Nat → Prop} (hts : ∀ w ∈ lw_tbl, w.before #[Value.ref b] s = true) (hg : (Jvm.Cond.and given_1 narrow_1).before #[.ref b] s = true) (hA : ∀ a : Nat, a < s.heap.size → ¬ A a) : ∃ t u, GKs0 A t u 21 s := by
  obtain ⟨a, c, cA, kA, q1, q2, q3, q4, q5, q6, -⟩ := Cond.exactly_spec (args := #[.ref b]) (first := s) (o := none) (s := s) (idx := []) (t := .string "SpoonRaceModel" 271) (cls := "java/lang/String") (fl1 hg 289 rfl)
  have hV := fun hel => va_Tof (tm := .field (.string "SpoonRaceModel" 271) "java/lang/String" "value" "[B") (ty := .byte) (N := 5) (f := fun j => .int ((wordB 4).getD j 0)) (A := A) (by decide) (fl1 hg 291 rfl) (va_eqt (fl1 hg 292 rfl)) hel hA
  obtain ⟨u, h1, h2⟩ := hV (by
    intro j hj
    match j, hj with
    | 0, _ => exact va_eqt (fl1 hg 293 rfl)
    | 1, _ => exact va_eqt (fl1 hg 294 rfl)
    | 2, _ => exact va_eqt (fl1 hg 295 rfl)
    | 3, _ => exact va_eqt (fl1 hg 296 rfl)
    | 4, _ => exact va_eqt (fl1 hg 297 rfl)
    | j + 5, h => omega)
  exact ⟨a, u, _, rfl, vk_R.of (hts _ (t6_in (List.mem_of_getElem? (i := 106) rfl))) q1, va_Oof (fl1 hg 289 rfl) q1 hA, vk_OFof q1 (va_eqt (fl1 hg 290 rfl)) hA, vk_OFof q1 h1 hA, h2⟩
set_option maxRecDepth 100000 in
theorem gt_22 {s : State} {b : Nat} {A : Nat → Prop} (hts : ∀ w ∈ lw_tbl, w.before #[Value.ref b] s = true) (hg : (Jvm.Cond.and given_1 narrow_1).before #[.ref b] s = true) (hA : ∀ a : Nat, a < s.heap.size → ¬ A a) : ∃ t u, GKs0 A t u 22 s := by
  obtain ⟨a, c, cA, kA, q1, q2, q3, q4, q5, q6, -⟩ := Cond.exactly_spec (args := #[.ref b]) (first := s) (o := none) (s := s) (idx := []) (t := .string "SpoonRaceModel" 289) (cls := "java/lang/String") (fl1 hg 299 rfl)
  have hV := fun hel => va_Tof (tm := .field (.string "SpoonRaceModel" 289) "java/lang/String" "value" "[B") (ty := .byte) (N := 2) (f := fun j => .int ((wordB 5).getD j 0)) (A := A) (by decide) (fl1 hg 301 rfl) (va_eqt (fl1 hg 302 rfl)) hel hA
  obtain ⟨u, h1, h2⟩ := hV (by
    intro j hj
    match j, hj with
    | 0, _ => exact va_eqt (fl1 hg 303 rfl)
    | 1, _ => exact va_eqt (fl1 hg 304 rfl)
    | j + 2, h => omega)
  exact ⟨a, u, _, rfl, vk_R.of (hts _ (t6_in (List.mem_of_getElem? (i := 115) rfl))) q1, va_Oof (fl1 hg 299 rfl) q1 hA, vk_OFof q1 (va_eqt (fl1 hg 300 rfl)) hA, vk_OFof q1 h1 hA, h2⟩
set_option maxRecDepth 100000 in
theorem gt_23 {s : State} {b : Nat} {A : Nat → Prop} (hts : ∀ w ∈ lw_tbl, w.before #[Value.ref b] s = true) (hg : (Jvm.Cond.and given_1 narrow_1).before #[.ref b] s = true) (hA : ∀ a : Nat, a < s.heap.size → ¬ A a) : ∃ t u, GKs0 A t u 23 s := by
  obtain ⟨a, c, cA, kA, q1, q2, q3, q4, q5, q6, -⟩ := Cond.exactly_spec (args := #[.ref b]) (first := s) (o := none) (s := s) (idx := []) (t := .string "SpoonRaceModel" 305) (cls := "java/lang/String") (fl1 hg 306 rfl)
  have hV := fun hel => va_Tof (tm := .field (.string "SpoonRaceModel" 305) "java/lang/String" "value" "[B") (ty := .byte) (N := 4) (f := fun j => .int ((wordB 6).getD j 0)) (A := A) (by decide) (fl1 hg 308 rfl) (va_eqt (fl1 hg 309 rfl)) hel hA
  obtain ⟨u, h1, h2⟩ := hV (by
    intro j hj
    match j, hj with
    | 0, _ => exact va_eqt (fl1 hg 310 rfl)
    | 1, _ => exact va_eqt (fl1 hg 311 rfl)
    | 2, _ => exact va_eqt (fl1 hg 312 rfl)
    | 3, _ => exact va_eqt (fl1 hg 313 rfl)
    | j + 4, h => omega)
  exact ⟨a, u, _, rfl, vk_R.of (hts _ (t6_in (List.mem_of_getElem? (i := 120) rfl))) q1, va_Oof (fl1 hg 306 rfl) q1 hA, vk_OFof q1 (va_eqt (fl1 hg 307 rfl)) hA, vk_OFof q1 h1 hA, h2⟩
set_option maxRecDepth 100000 in
theorem gt_24 {s : State} {b : Nat} {A : Nat → Prop} (hts : ∀ w ∈ lw_tbl, w.before #[Value.ref b] s = true) (hg : (Jvm.Cond.and given_1 narrow_1).before #[.ref b] s = true) (hA : ∀ a : Nat, a < s.heap.size → ¬ A a) : ∃ t u, GKs0 A t u 24 s := by
  obtain ⟨a, c, cA, kA, q1, q2, q3, q4, q5, q6, -⟩ := Cond.exactly_spec (args := #[.ref b]) (first := s) (o := none) (s := s) (idx := []) (t := .string "SpoonRaceModel" 273) (cls := "java/lang/String") (fl1 hg 315 rfl)
  have hV := fun hel => va_Tof (tm := .field (.string "SpoonRaceModel" 273) "java/lang/String" "value" "[B") (ty := .byte) (N := 6) (f := fun j => .int ((wordB 7).getD j 0)) (A := A) (by decide) (fl1 hg 317 rfl) (va_eqt (fl1 hg 318 rfl)) hel hA
  obtain ⟨u, h1, h2⟩ := hV (by
    intro j hj
    match j, hj with
    | 0, _ => exact va_eqt (fl1 hg 319 rfl)
    | 1, _ => exact va_eqt (fl1 hg 320 rfl)
    | 2, _ => exact va_eqt (fl1 hg 321 rfl)
    | 3, _ => exact va_eqt (fl1 hg 322 rfl)
    | 4, _ => exact va_eqt (fl1 hg 323 rfl)
    | 5, _ => exact va_eqt (fl1 hg 324 rfl)
    | j + 6, h => omega)
  exact ⟨a, u, _, rfl, vk_R.of (hts _ (t6_in (List.mem_of_getElem? (i := 125) rfl))) q1, va_Oof (fl1 hg 315 rfl) q1 hA, vk_OFof q1 (va_eqt (fl1 hg 316 rfl)) hA, vk_OFof q1 h1 hA, h2⟩
set_option maxRecDepth 100000 in
theorem gt_25 {s : State} {b : Nat} {A : Nat → Prop} (hts : ∀ w ∈ lw_tbl, w.before #[Value.ref b] s = true) (hg : (Jvm.Cond.and given_1 narrow_1).before #[.ref b] s = true) (hA : ∀ a : Nat, a < s.heap.size → ¬ A a) : ∃ t u, GKs0 A t u 25 s := by
  obtain ⟨a, c, cA, kA, q1, q2, q3, q4, q5, q6, -⟩ := Cond.exactly_spec (args := #[.ref b]) (first := s) (o := none) (s := s) (idx := []) (t := .string "SpoonRaceModel" 275) (cls := "java/lang/String") (fl1 hg 326 rfl)
  have hV := fun hel => va_Tof (tm := .field (.string "SpoonRaceModel" 275) "java/lang/String" "value" "[B") (ty := .byte) (N := 6) (f := fun j => .int ((wordB 8).getD j 0)) (A := A) (by decide) (fl1 hg 328 rfl) (va_eqt (fl1 hg 329 rfl)) hel hA
  obtain ⟨u, h1, h2⟩ := hV (by
    intro j hj
    match j, hj with
    | 0, _ => exact va_eqt (fl1 hg 330 rfl)
    | 1, _ => exact va_eqt (fl1 hg 331 rfl)
    | 2, _ => exact va_eqt (fl1 hg 332 rfl)
    | 3, _ => exact va_eqt (fl1 hg 333 rfl)
    | 4, _ => exact va_eqt (fl1 hg 334 rfl)
    | 5, _ => exact va_eqt (fl1 hg 335 rfl)
    | j + 6, h => omega)
  exact ⟨a, u, _, rfl, vk_R.of (hts _ (t6_in (List.mem_of_getElem? (i := 126) rfl))) q1, va_Oof (fl1 hg 326 rfl) q1 hA, vk_OFof q1 (va_eqt (fl1 hg 327 rfl)) hA, vk_OFof q1 h1 hA, h2⟩
set_option maxRecDepth 100000 in
theorem gt_26 {s : State} {b : Nat} {A : Nat → Prop} (hts : ∀ w ∈ lw_tbl, w.before #[Value.ref b] s = true) (hg : (Jvm.Cond.and given_1 narrow_1).before #[.ref b] s = true) (hA : ∀ a : Nat, a < s.heap.size → ¬ A a) : ∃ t u, GKs0 A t u 26 s := by
  obtain ⟨a, c, cA, kA, q1, q2, q3, q4, q5, q6, -⟩ := Cond.exactly_spec (args := #[.ref b]) (first := s) (o := none) (s := s) (idx := []) (t := .string "SpoonRaceModel" 277) (cls := "java/lang/String") (fl1 hg 337 rfl)
  have hV := fun hel => va_Tof (tm := .field (.string "SpoonRaceModel" 277) "java/lang/String" "value" "[B") (ty := .byte) (N := 6) (f := fun j => .int ((wordB 9).getD j 0)) (A := A) (by decide) (fl1 hg 339 rfl) (va_eqt (fl1 hg 340 rfl)) hel hA
  obtain ⟨u, h1, h2⟩ := hV (by
    intro j hj
    match j, hj with
    | 0, _ => exact va_eqt (fl1 hg 341 rfl)
    | 1, _ => exact va_eqt (fl1 hg 342 rfl)
    | 2, _ => exact va_eqt (fl1 hg 343 rfl)
    | 3, _ => exact va_eqt (fl1 hg 344 rfl)
    | 4, _ => exact va_eqt (fl1 hg 345 rfl)
    | 5, _ => exact va_eqt (fl1 hg 346 rfl)
    | j + 6, h => omega)
  exact ⟨a, u, _, rfl, vk_R.of (hts _ (t6_in (List.mem_of_getElem? (i := 127) rfl))) q1, va_Oof (fl1 hg 337 rfl) q1 hA, vk_OFof q1 (va_eqt (fl1 hg 338 rfl)) hA, vk_OFof q1 h1 hA, h2⟩
set_option maxRecDepth 100000 in
theorem gt_27 {s : State} {b : Nat} {A : Nat → Prop} (hts : ∀ w ∈ lw_tbl, w.before #[Value.ref b] s = true) (hg : (Jvm.Cond.and given_1 narrow_1).before #[.ref b] s = true) (hA : ∀ a : Nat, a < s.heap.size → ¬ A a) : ∃ t u, GKs0 A t u 27 s := by
  obtain ⟨a, c, cA, kA, q1, q2, q3, q4, q5, q6, -⟩ := Cond.exactly_spec (args := #[.ref b]) (first := s) (o := none) (s := s) (idx := []) (t := .string "SpoonRaceModel" 279) (cls := "java/lang/String") (fl1 hg 348 rfl)
  have hV := fun hel => va_Tof (tm := .field (.string "SpoonRaceModel" 279) "java/lang/String" "value" "[B") (ty := .byte) (N := 6) (f := fun j => .int ((wordB 10).getD j 0)) (A := A) (by decide) (fl1 hg 350 rfl) (va_eqt (fl1 hg 351 rfl)) hel hA
  obtain ⟨u, h1, h2⟩ := hV (by
    intro j hj
    match j, hj with
    | 0, _ => exact va_eqt (fl1 hg 352 rfl)
    | 1, _ => exact va_eqt (fl1 hg 353 rfl)
    | 2, _ => exact va_eqt (fl1 hg 354 rfl)
    | 3, _ => exact va_eqt (fl1 hg 355 rfl)
    | 4, _ => exact va_eqt (fl1 hg 356 rfl)
    | 5, _ => exact va_eqt (fl1 hg 357 rfl)
    | j + 6, h => omega)
  exact ⟨a, u, _, rfl, vk_R.of (hts _ (t6_in (List.mem_of_getElem? (i := 128) rfl))) q1, va_Oof (fl1 hg 348 rfl) q1 hA, vk_OFof q1 (va_eqt (fl1 hg 349 rfl)) hA, vk_OFof q1 h1 hA, h2⟩
set_option maxRecDepth 100000 in
theorem gt_28 {s : State} {b : Nat} {A : Nat → Prop} (hts : ∀ w ∈ lw_tbl, w.before #[Value.ref b] s = true) (hg : (Jvm.Cond.and given_1 narrow_1).before #[.ref b] s = true) (hA : ∀ a : Nat, a < s.heap.size → ¬ A a) : ∃ t u, GKs0 A t u 28 s := by
  obtain ⟨a, c, cA, kA, q1, q2, q3, q4, q5, q6, -⟩ := Cond.exactly_spec (args := #[.ref b]) (first := s) (o := none) (s := s) (idx := []) (t := .string "SpoonRaceModel" 281) (cls := "java/lang/String") (fl1 hg 359 rfl)
  have hV := fun hel => va_Tof (tm := .field (.string "SpoonRaceModel" 281) "java/lang/String" "value" "[B") (ty := .byte) (N := 6) (f := fun j => .int ((wordB 11).getD j 0)) (A := A) (by decide) (fl1 hg 361 rfl) (va_eqt (fl1 hg 362 rfl)) hel hA
  obtain ⟨u, h1, h2⟩ := hV (by
    intro j hj
    match j, hj with
    | 0, _ => exact va_eqt (fl1 hg 363 rfl)
    | 1, _ => exact va_eqt (fl1 hg 364 rfl)
    | 2, _ => exact va_eqt (fl1 hg 365 rfl)
    | 3, _ => exact va_eqt (fl1 hg 366 rfl)
    | 4, _ => exact va_eqt (fl1 hg 367 rfl)
    | 5, _ => exact va_eqt (fl1 hg 368 rfl)
    | j + 6, h => omega)
  exact ⟨a, u, _, rfl, vk_R.of (hts _ (t6_in (List.mem_of_getElem? (i := 129) rfl))) q1, va_Oof (fl1 hg 359 rfl) q1 hA, vk_OFof q1 (va_eqt (fl1 hg 360 rfl)) hA, vk_OFof q1 h1 hA, h2⟩
set_option maxRecDepth 100000 in
theorem gt_29 {s : State} {b : Nat} {A : Nat → Prop} (hts : ∀ w ∈ lw_tbl, w.before #[Value.ref b] s = true) (hg : (Jvm.Cond.and given_1 narrow_1).before #[.ref b] s = true) (hA : ∀ a : Nat, a < s.heap.size → ¬ A a) : ∃ t u, GKs0 A t u 29 s := by
  obtain ⟨a, c, cA, kA, q1, q2, q3, q4, q5, q6, -⟩ := Cond.exactly_spec (args := #[.ref b]) (first := s) (o := none) (s := s) (idx := []) (t := .string "SpoonRaceModel" 283) (cls := "java/lang/String") (fl1 hg 370 rfl)
  have hV := fun hel => va_Tof (tm := .field (.string "SpoonRaceModel" 283) "java/lang/String" "value" "[B") (ty := .byte) (N := 3) (f := fun j => .int ((wordB 12).getD j 0)) (A := A) (by decide) (fl1 hg 372 rfl) (va_eqt (fl1 hg 373 rfl)) hel hA
  obtain ⟨u, h1, h2⟩ := hV (by
    intro j hj
    match j, hj with
    | 0, _ => exact va_eqt (fl1 hg 374 rfl)
    | 1, _ => exact va_eqt (fl1 hg 375 rfl)
    | 2, _ => exact va_eqt (fl1 hg 376 rfl)
    | j + 3, h => omega)
  exact ⟨a, u, _, rfl, vk_R.of (hts _ (t6_in (List.mem_of_getElem? (i := 130) rfl))) q1, va_Oof (fl1 hg 370 rfl) q1 hA, vk_OFof q1 (va_eqt (fl1 hg 371 rfl)) hA, vk_OFof q1 h1 hA, h2⟩
set_option maxRecDepth 100000 in
theorem gt_30 {s : State} {b : Nat} {A : Nat → Prop} (hts : ∀ w ∈ lw_tbl, w.before #[Value.ref b] s = true) (hg : (Jvm.Cond.and given_1 narrow_1).before #[.ref b] s = true) (hA : ∀ a : Nat, a < s.heap.size → ¬ A a) : ∃ t u, GKs0 A t u 30 s := by
  obtain ⟨a, c, cA, kA, q1, q2, q3, q4, q5, q6, -⟩ := Cond.exactly_spec (args := #[.ref b]) (first := s) (o := none) (s := s) (idx := []) (t := .string "SpoonRaceModel" 285) (cls := "java/lang/String") (fl1 hg 378 rfl)
  have hV := fun hel => va_Tof (tm := .field (.string "SpoonRaceModel" 285) "java/lang/String" "value" "[B") (ty := .byte) (N := 5) (f := fun j => .int ((wordB 13).getD j 0)) (A := A) (by decide) (fl1 hg 380 rfl) (va_eqt (fl1 hg 381 rfl)) hel hA
  obtain ⟨u, h1, h2⟩ := hV (by
    intro j hj
    match j, hj with
    | 0, _ => exact va_eqt (fl1 hg 382 rfl)
    | 1, _ => exact va_eqt (fl1 hg 383 rfl)
    | 2, _ => exact va_eqt (fl1 hg 384 rfl)
    | 3, _ => exact va_eqt (fl1 hg 385 rfl)
    | 4, _ => exact va_eqt (fl1 hg 386 rfl)
    | j + 5, h => omega)
  exact ⟨a, u, _, rfl, vk_R.of (hts _ (t6_in (List.mem_of_getElem? (i := 131) rfl))) q1, va_Oof (fl1 hg 378 rfl) q1 hA, vk_OFof q1 (va_eqt (fl1 hg 379 rfl)) hA, vk_OFof q1 h1 hA, h2⟩
set_option maxRecDepth 100000 in
theorem gt_31 {s : State} {b : Nat} {A : Nat → Prop} (hts : ∀ w ∈ lw_tbl, w.before #[Value.ref b] s = true) (hg : (Jvm.Cond.and given_1 narrow_1).before #[.ref b] s = true) (hA : ∀ a : Nat, a < s.heap.size → ¬ A a) : ∃ t u, GKs0 A t u 31 s := by
  obtain ⟨a, c, cA, kA, q1, q2, q3, q4, q5, q6, -⟩ := Cond.exactly_spec (args := #[.ref b]) (first := s) (o := none) (s := s) (idx := []) (t := .string "SpoonRaceModel" 292) (cls := "java/lang/String") (fl1 hg 388 rfl)
  have hV := fun hel => va_Tof (tm := .field (.string "SpoonRaceModel" 292) "java/lang/String" "value" "[B") (ty := .byte) (N := 3) (f := fun j => .int ((wordB 14).getD j 0)) (A := A) (by decide) (fl1 hg 390 rfl) (va_eqt (fl1 hg 391 rfl)) hel hA
  obtain ⟨u, h1, h2⟩ := hV (by
    intro j hj
    match j, hj with
    | 0, _ => exact va_eqt (fl1 hg 392 rfl)
    | 1, _ => exact va_eqt (fl1 hg 393 rfl)
    | 2, _ => exact va_eqt (fl1 hg 394 rfl)
    | j + 3, h => omega)
  exact ⟨a, u, _, rfl, vk_R.of (hts _ (t6_in (List.mem_of_getElem? (i := 136) rfl))) q1, va_Oof (fl1 hg 388 rfl) q1 hA, vk_OFof q1 (va_eqt (fl1 hg 389 rfl)) hA, vk_OFof q1 h1 hA, h2⟩
set_option maxRecDepth 100000 in
theorem gt_32 {s : State} {b : Nat} {A : Nat → Prop} (hts : ∀ w ∈ lw_tbl, w.before #[Value.ref b] s = true) (hg : (Jvm.Cond.and given_1 narrow_1).before #[.ref b] s = true) (hA : ∀ a : Nat, a < s.heap.size → ¬ A a) : ∃ t u, GKs0 A t u 32 s := by
  obtain ⟨a, c, cA, kA, q1, q2, q3, q4, q5, q6, -⟩ := Cond.exactly_spec (args := #[.ref b]) (first := s) (o := none) (s := s) (idx := []) (t := .string "SpoonRaceModel" 294) (cls := "java/lang/String") (fl1 hg 396 rfl)
  have hV := fun hel => va_Tof (tm := .field (.string "SpoonRaceModel" 294) "java/lang/String" "value" "[B") (ty := .byte) (N := 5) (f := fun j => .int ((wordB 15).getD j 0)) (A := A) (by decide) (fl1 hg 398 rfl) (va_eqt (fl1 hg 399 rfl)) hel hA
  obtain ⟨u, h1, h2⟩ := hV (by
    intro j hj
    match j, hj with
    | 0, _ => exact va_eqt (fl1 hg 400 rfl)
    | 1, _ => exact va_eqt (fl1 hg 401 rfl)
    | 2, _ => exact va_eqt (fl1 hg 402 rfl)
    | 3, _ => exact va_eqt (fl1 hg 403 rfl)
    | 4, _ => exact va_eqt (fl1 hg 404 rfl)
    | j + 5, h => omega)
  exact ⟨a, u, _, rfl, vk_R.of (hts _ (t6_in (List.mem_of_getElem? (i := 137) rfl))) q1, va_Oof (fl1 hg 396 rfl) q1 hA, vk_OFof q1 (va_eqt (fl1 hg 397 rfl)) hA, vk_OFof q1 h1 hA, h2⟩
set_option maxRecDepth 100000 in
theorem gt_33 {s : State} {b : Nat} {A : Nat → Prop} (hts : ∀ w ∈ lw_tbl, w.before #[Value.ref b] s = true) (hg : (Jvm.Cond.and given_1 narrow_1).before #[.ref b] s = true) (hA : ∀ a : Nat, a < s.heap.size → ¬ A a) : ∃ t u, GKs0 A t u 33 s := by
  obtain ⟨a, c, cA, kA, q1, q2, q3, q4, q5, q6, -⟩ := Cond.exactly_spec (args := #[.ref b]) (first := s) (o := none) (s := s) (idx := []) (t := .string "SpoonRaceModel" 296) (cls := "java/lang/String") (fl1 hg 406 rfl)
  have hV := fun hel => va_Tof (tm := .field (.string "SpoonRaceModel" 296) "java/lang/String" "value" "[B") (ty := .byte) (N := 4) (f := fun j => .int ((wordB 16).getD j 0)) (A := A) (by decide) (fl1 hg 408 rfl) (va_eqt (fl1 hg 409 rfl)) hel hA
  obtain ⟨u, h1, h2⟩ := hV (by
    intro j hj
    match j, hj with
    | 0, _ => exact va_eqt (fl1 hg 410 rfl)
    | 1, _ => exact va_eqt (fl1 hg 411 rfl)
    | 2, _ => exact va_eqt (fl1 hg 412 rfl)
    | 3, _ => exact va_eqt (fl1 hg 413 rfl)
    | j + 4, h => omega)
  exact ⟨a, u, _, rfl, vk_R.of (hts _ (t6_in (List.mem_of_getElem? (i := 138) rfl))) q1, va_Oof (fl1 hg 406 rfl) q1 hA, vk_OFof q1 (va_eqt (fl1 hg 407 rfl)) hA, vk_OFof q1 h1 hA, h2⟩
