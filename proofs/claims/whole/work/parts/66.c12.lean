/-! the class: its reader -/
theorem c_X3_numberBehind (σ : St) (t p : Nat) (hA : CTK (σ.1 13) (σ.1 11) t p) (hK : TpOk (σ.1 11) (σ.1 12) t) (lo hi : Nat) (hlo : lo ≤ 999) (hhi : hi ≤ 999) : AMet Y_X3_numberBehind [.ref 12, .int (nI lo), .int (nI hi)] σ (NbO σ t (too (σ.1 11) t p) lo hi) := by
  refine am_intro (by decide +kernel) (Nat.le_of_ble_eq_true rfl) (fun K C => ?_)
  refine aw_aload_n (pc := 0) C 0 dX3_numberBehind_0 rfl ?_
  refine aw_getR (pc := 1) C fl_X3_12 sh12 rfl dX3_numberBehind_1 ?_
  refine aw_callV (pc := 4) C (c_X6_adv _ t p hA hK ) lk_X3_29 sh13 rfl (by decide) rfl (Nat.le_of_ble_eq_true rfl) dX3_numberBehind_4 rfl (fun w s hq => ?_)
  rcases hq with ⟨φ4, hφ4, rfl, rfl⟩
  have hφ4 : CTK φ4 (σ.1 11) t (too (σ.1 11) t p) := by first | exact hφ4 | (simp (disch := omega) only [setR_at, setR_twice, setL_at, setL_twice, setR_2, setL_1, setR_ne, setL_ne, ne_eq, Nat.reduceEqDiff, not_false_eq_true, pk_us, pk_un] at hφ4; exact hφ4)
  refine aw_conv (σ' := setR σ 13 (φ4)) (st' := []) (by first | with_reducible rfl | (simp (disch := omega) only [setR_at, setR_twice, setL_at, setL_twice, setR_2, setL_1, setR_ne, setL_ne, ne_eq, Nat.reduceEqDiff, not_false_eq_true, pk_us, pk_un]; done) | (simp (disch := omega) only [setR_at, setR_twice, setL_at, setL_twice, setR_2, setL_1, setR_ne, setL_ne, ne_eq, Nat.reduceEqDiff, not_false_eq_true, pk_us, pk_un, Option.toList_some, Option.toList_none, List.cons_append, List.nil_append]; done) | ((try simp (disch := omega) only [setR_at, setR_twice, setL_at, setL_twice, setR_2, setL_1, setR_ne, setL_ne, ne_eq, Nat.reduceEqDiff, not_false_eq_true, pk_us, pk_un]); refine Prod.ext (funext fun z => ?_) rfl; simp only [setR]; (repeat' split) <;> first | with_reducible rfl | (exfalso; omega)) | rfl) rfl (by first | with_reducible rfl | (simp (disch := omega) only [setR_at, setR_twice, setL_at, setL_twice, setR_2, setL_1, setR_ne, setL_ne, ne_eq, Nat.reduceEqDiff, not_false_eq_true, pk_us, pk_un]; done) | (simp (disch := omega) only [setR_at, setR_twice, setL_at, setL_twice, setR_2, setL_1, setR_ne, setL_ne, ne_eq, Nat.reduceEqDiff, not_false_eq_true, pk_us, pk_un, Option.toList_some, Option.toList_none, List.cons_append, List.nil_append]; done) | ((try simp (disch := omega) only [setR_at, setR_twice, setL_at, setL_twice, setR_2, setL_1, setR_ne, setL_ne, ne_eq, Nat.reduceEqDiff, not_false_eq_true, pk_us, pk_un]); refine Prod.ext (funext fun z => ?_) rfl; simp only [setR]; (repeat' split) <;> first | with_reducible rfl | (exfalso; omega)) | rfl) ?_
  refine aw_aload_n (pc := 7) C 0 dX3_numberBehind_7 rfl ?_
  refine aw_getR (pc := 8) C fl_X3_12 sh12 rfl dX3_numberBehind_8 ?_
  refine aw_cVI (pc := 11) C (c_X6_value _ t (too (σ.1 11) t p) (by simp (disch := omega) only [setR_at, setR_twice, setL_at, setL_twice, setR_2, setL_1, setR_ne, setL_ne, ne_eq, Nat.reduceEqDiff, not_false_eq_true, pk_us, pk_un]; exact hφ4) ) lk_X3_105 sh13 rfl dX3_numberBehind_11 (by decide) (Nat.le_of_ble_eq_true rfl) rfl rfl ?_
  refine aw_conv (σ' := setR σ 13 (φ4)) (st' := [.int (valC (σ.1 11) t (too (σ.1 11) t p))]) (by first | with_reducible rfl | (simp (disch := omega) only [setR_at, setR_twice, setL_at, setL_twice, setR_2, setL_1, setR_ne, setL_ne, ne_eq, Nat.reduceEqDiff, not_false_eq_true, pk_us, pk_un]; done) | (simp (disch := omega) only [setR_at, setR_twice, setL_at, setL_twice, setR_2, setL_1, setR_ne, setL_ne, ne_eq, Nat.reduceEqDiff, not_false_eq_true, pk_us, pk_un, Option.toList_some, Option.toList_none, List.cons_append, List.nil_append]; done) | ((try simp (disch := omega) only [setR_at, setR_twice, setL_at, setL_twice, setR_2, setL_1, setR_ne, setL_ne, ne_eq, Nat.reduceEqDiff, not_false_eq_true, pk_us, pk_un]); refine Prod.ext (funext fun z => ?_) rfl; simp only [setR]; (repeat' split) <;> first | with_reducible rfl | (exfalso; omega)) | rfl) rfl (by first | with_reducible rfl | (simp (disch := omega) only [setR_at, setR_twice, setL_at, setL_twice, setR_2, setL_1, setR_ne, setL_ne, ne_eq, Nat.reduceEqDiff, not_false_eq_true, pk_us, pk_un]; done) | (simp (disch := omega) only [setR_at, setR_twice, setL_at, setL_twice, setR_2, setL_1, setR_ne, setL_ne, ne_eq, Nat.reduceEqDiff, not_false_eq_true, pk_us, pk_un, Option.toList_some, Option.toList_none, List.cons_append, List.nil_append]; done) | ((try simp (disch := omega) only [setR_at, setR_twice, setL_at, setL_twice, setR_2, setL_1, setR_ne, setL_ne, ne_eq, Nat.reduceEqDiff, not_false_eq_true, pk_us, pk_un]); refine Prod.ext (funext fun z => ?_) rfl; simp only [setR]; (repeat' split) <;> first | with_reducible rfl | (exfalso; omega)) | rfl) ?_
  refine aw_istore_n (pc := 14) C [(3, .int (valC (σ.1 11) t (too (σ.1 11) t p))), (0, .ref 12), (1, .int (nI lo)), (2, .int (nI hi))] dX3_numberBehind_14 (Nat.le_of_ble_eq_true rfl) rfl ?_
  refine aw_iload_n (pc := 15) C 0 dX3_numberBehind_15 rfl ?_
  refine aw_iload_n (pc := 16) C 2 dX3_numberBehind_16 rfl ?_
  refine aw_iload_n (pc := 17) C 3 dX3_numberBehind_17 rfl ?_
  refine aw_cN (pc := 18) C (c_X8_within _ (valC (σ.1 11) t (too (σ.1 11) t p)) (nI (lo)) (nI (hi)) ) (by decide) dX3_numberBehind_18 (by decide) (Nat.le_of_ble_eq_true rfl) rfl rfl ?_
  refine aw_conv (σ' := setR σ 13 (φ4)) (st' := [.int (b2i ((nI (lo)) ≤ (valC (σ.1 11) t (too (σ.1 11) t p)) ∧ (valC (σ.1 11) t (too (σ.1 11) t p)) ≤ (nI (hi))))]) (by first | with_reducible rfl | (simp (disch := omega) only [setR_at, setR_twice, setL_at, setL_twice, setR_2, setL_1, setR_ne, setL_ne, ne_eq, Nat.reduceEqDiff, not_false_eq_true, pk_us, pk_un]; done) | (simp (disch := omega) only [setR_at, setR_twice, setL_at, setL_twice, setR_2, setL_1, setR_ne, setL_ne, ne_eq, Nat.reduceEqDiff, not_false_eq_true, pk_us, pk_un, Option.toList_some, Option.toList_none, List.cons_append, List.nil_append]; done) | ((try simp (disch := omega) only [setR_at, setR_twice, setL_at, setL_twice, setR_2, setL_1, setR_ne, setL_ne, ne_eq, Nat.reduceEqDiff, not_false_eq_true, pk_us, pk_un]); refine Prod.ext (funext fun z => ?_) rfl; simp only [setR]; (repeat' split) <;> first | with_reducible rfl | (exfalso; omega)) | rfl) rfl (by first | with_reducible rfl | (simp (disch := omega) only [setR_at, setR_twice, setL_at, setL_twice, setR_2, setL_1, setR_ne, setL_ne, ne_eq, Nat.reduceEqDiff, not_false_eq_true, pk_us, pk_un]; done) | (simp (disch := omega) only [setR_at, setR_twice, setL_at, setL_twice, setR_2, setL_1, setR_ne, setL_ne, ne_eq, Nat.reduceEqDiff, not_false_eq_true, pk_us, pk_un, Option.toList_some, Option.toList_none, List.cons_append, List.nil_append]; done) | ((try simp (disch := omega) only [setR_at, setR_twice, setL_at, setL_twice, setR_2, setL_1, setR_ne, setL_ne, ne_eq, Nat.reduceEqDiff, not_false_eq_true, pk_us, pk_un]); refine Prod.ext (funext fun z => ?_) rfl; simp only [setR]; (repeat' split) <;> first | with_reducible rfl | (exfalso; omega)) | rfl) ?_
  refine aw_if_neB (pc := 21) C 26 dX3_numberBehind_21 (by decide) (fun h21 => ?_) (fun h21 => ?_)
  · have hP : numP (σ.1 11) t (too (σ.1 11) t p) (nI lo) (nI hi) := (valC_in hhi hlo).1.mp h21
    have hV : valC (σ.1 11) t (too (σ.1 11) t p) = val (σ.1 11) t (too (σ.1 11) t p) := (valC_in hhi hlo).2 hP
    refine aw_aload_n (pc := 26) C 1 dX3_numberBehind_26 rfl ?_
    refine aw_getR (pc := 27) C fl_X3_12 sh12 rfl dX3_numberBehind_27 ?_
    refine aw_callV (pc := 30) C (c_X6_adv _ t (too (σ.1 11) t p) (by simp (disch := omega) only [setR_at, setR_twice, setL_at, setL_twice, setR_2, setL_1, setR_ne, setL_ne, ne_eq, Nat.reduceEqDiff, not_false_eq_true, pk_us, pk_un]; exact hφ4) (by simp (disch := omega) only [setR_at, setR_twice, setL_at, setL_twice, setR_2, setL_1, setR_ne, setL_ne, ne_eq, Nat.reduceEqDiff, not_false_eq_true, pk_us, pk_un]; exact hK) ) lk_X3_29 sh13 rfl (by decide) rfl (Nat.le_of_ble_eq_true rfl) dX3_numberBehind_30 rfl (fun w s hq => ?_)
    rcases hq with ⟨φ30, hφ30, rfl, rfl⟩
    have hφ30 : CTK φ30 (σ.1 11) t (too (σ.1 11) t (too (σ.1 11) t p)) := by first | exact hφ30 | (simp (disch := omega) only [setR_at, setR_twice, setL_at, setL_twice, setR_2, setL_1, setR_ne, setL_ne, ne_eq, Nat.reduceEqDiff, not_false_eq_true, pk_us, pk_un] at hφ30; exact hφ30)
    refine aw_conv (σ' := setR σ 13 (φ30)) (st' := []) (by first | with_reducible rfl | (simp (disch := omega) only [setR_at, setR_twice, setL_at, setL_twice, setR_2, setL_1, setR_ne, setL_ne, ne_eq, Nat.reduceEqDiff, not_false_eq_true, pk_us, pk_un]; done) | (simp (disch := omega) only [setR_at, setR_twice, setL_at, setL_twice, setR_2, setL_1, setR_ne, setL_ne, ne_eq, Nat.reduceEqDiff, not_false_eq_true, pk_us, pk_un, Option.toList_some, Option.toList_none, List.cons_append, List.nil_append]; done) | ((try simp (disch := omega) only [setR_at, setR_twice, setL_at, setL_twice, setR_2, setL_1, setR_ne, setL_ne, ne_eq, Nat.reduceEqDiff, not_false_eq_true, pk_us, pk_un]); refine Prod.ext (funext fun z => ?_) rfl; simp only [setR]; (repeat' split) <;> first | with_reducible rfl | (exfalso; omega)) | rfl) rfl (by first | with_reducible rfl | (simp (disch := omega) only [setR_at, setR_twice, setL_at, setL_twice, setR_2, setL_1, setR_ne, setL_ne, ne_eq, Nat.reduceEqDiff, not_false_eq_true, pk_us, pk_un]; done) | (simp (disch := omega) only [setR_at, setR_twice, setL_at, setL_twice, setR_2, setL_1, setR_ne, setL_ne, ne_eq, Nat.reduceEqDiff, not_false_eq_true, pk_us, pk_un, Option.toList_some, Option.toList_none, List.cons_append, List.nil_append]; done) | ((try simp (disch := omega) only [setR_at, setR_twice, setL_at, setL_twice, setR_2, setL_1, setR_ne, setL_ne, ne_eq, Nat.reduceEqDiff, not_false_eq_true, pk_us, pk_un]); refine Prod.ext (funext fun z => ?_) rfl; simp only [setR]; (repeat' split) <;> first | with_reducible rfl | (exfalso; omega)) | rfl) ?_
    refine aw_iload_n (pc := 33) C 0 dX3_numberBehind_33 rfl ?_
    refine aw_top C (val (σ.1 11) t (too (σ.1 11) t p)) (hV) ?_
    exact aw_iretP (pc := 34) C rfl dX3_numberBehind_34 (Or.inl ⟨φ30, by rw [numR, if_pos hP], hP.2, rfl, hφ30, rfl⟩)
  · refine aw_iconst (pc := 24) (v := (-1)) C dX3_numberBehind_24 rfl ?_
    exact aw_iretP (pc := 25) C rfl dX3_numberBehind_25 (Or.inr ⟨φ4, by rw [numR, if_neg (fun z => h21 ((valC_in hhi hlo).1.mpr z))], rfl, hφ4, rfl⟩)
theorem c_X3_perhaps (σ : St) (t p : Nat) (hA : CTK (σ.1 13) (σ.1 11) t p) (hK : TpOk (σ.1 11) (σ.1 12) t) (i : Nat) (q : String × Nat × Nat) (hq : STR[i]? = some q) (v : Int32) (lo hi : Nat) (hlo : lo ≤ 999) (hhi : hi ≤ 999) : AMet Y_X3_perhaps [.ref 12, .ref (200 + i), .int v, .int (nI lo), .int (nI hi)] σ (PpO σ (optR (σ.1 11) t p q.2.2 v (nI lo) (nI hi)) t) := by
  refine am_intro (by decide +kernel) (Nat.le_of_ble_eq_true rfl) (fun K C => ?_)
  refine aw_aload_n (pc := 0) C 0 dX3_perhaps_0 rfl ?_
  refine aw_getR (pc := 1) C fl_X3_12 sh12 rfl dX3_perhaps_1 ?_
  refine aw_aload_n (pc := 4) C 1 dX3_perhaps_4 rfl ?_
  refine aw_cVI (pc := 5) C (c_X6_isWord _ t p hA i q hq ) lk_X3_45 sh13 rfl dX3_perhaps_5 (by decide) (Nat.le_of_ble_eq_true rfl) rfl rfl ?_
  refine aw_if_eqB (pc := 8) C 21 dX3_perhaps_8 (by decide) (fun h8 => ?_) (fun h8 => ?_)
  · refine aw_iload_n (pc := 21) C 2 dX3_perhaps_21 rfl ?_
    exact aw_iretP (pc := 22) C rfl dX3_perhaps_22 (Or.inl ⟨σ.1 13, v, p, by rw [optR, if_neg h8], rfl, hA, (setR_same σ 13).symm⟩)
  · refine aw_aload_n (pc := 11) C 0 dX3_perhaps_11 rfl ?_
    refine aw_iload_n (pc := 12) C 3 dX3_perhaps_12 rfl ?_
    refine aw_iload (pc := 13) C 4 dX3_perhaps_13 rfl ?_
    refine aw_callV (pc := 15) C (c_X3_numberBehind _ t p hA hK lo hi (by omega) (by omega)) lk_X3_63 sh12 rfl (by decide) rfl (Nat.le_of_ble_eq_true rfl) dX3_perhaps_15 rfl (fun w s hq => ?_)
    rcases hq with ⟨φ15, hw15, hr15, rfl, hφ15, rfl⟩ | ⟨φ15, hw15, rfl, hφ15, rfl⟩
    · have hw15 : numR (σ.1 11) t (too (σ.1 11) t p) (nI (lo)) (nI (hi)) = .inr (val (σ.1 11) t (too (σ.1 11) t p), too (σ.1 11) t (too (σ.1 11) t p)) := hw15
      have hr15 : nI (lo) ≤ val (σ.1 11) t (too (σ.1 11) t p) ∧ val (σ.1 11) t (too (σ.1 11) t p) ≤ nI (hi) := hr15
      have hφ15 : CTK φ15 (σ.1 11) t (too (σ.1 11) t (too (σ.1 11) t p)) := hφ15
      refine aw_conv (σ' := setR σ 13 (φ15)) (st' := [.int (val (σ.1 11) t (too (σ.1 11) t p))]) (by first | with_reducible rfl | (simp (disch := omega) only [setR_at, setR_twice, setL_at, setL_twice, setR_2, setL_1, setR_ne, setL_ne, ne_eq, Nat.reduceEqDiff, not_false_eq_true, pk_us, pk_un]; done) | (simp (disch := omega) only [setR_at, setR_twice, setL_at, setL_twice, setR_2, setL_1, setR_ne, setL_ne, ne_eq, Nat.reduceEqDiff, not_false_eq_true, pk_us, pk_un, Option.toList_some, Option.toList_none, List.cons_append, List.nil_append]; done) | ((try simp (disch := omega) only [setR_at, setR_twice, setL_at, setL_twice, setR_2, setL_1, setR_ne, setL_ne, ne_eq, Nat.reduceEqDiff, not_false_eq_true, pk_us, pk_un]); refine Prod.ext (funext fun z => ?_) rfl; simp only [setR]; (repeat' split) <;> first | with_reducible rfl | (exfalso; omega)) | rfl) rfl (by first | with_reducible rfl | (simp (disch := omega) only [setR_at, setR_twice, setL_at, setL_twice, setR_2, setL_1, setR_ne, setL_ne, ne_eq, Nat.reduceEqDiff, not_false_eq_true, pk_us, pk_un]; done) | (simp (disch := omega) only [setR_at, setR_twice, setL_at, setL_twice, setR_2, setL_1, setR_ne, setL_ne, ne_eq, Nat.reduceEqDiff, not_false_eq_true, pk_us, pk_un, Option.toList_some, Option.toList_none, List.cons_append, List.nil_append]; done) | ((try simp (disch := omega) only [setR_at, setR_twice, setL_at, setL_twice, setR_2, setL_1, setR_ne, setL_ne, ne_eq, Nat.reduceEqDiff, not_false_eq_true, pk_us, pk_un]); refine Prod.ext (funext fun z => ?_) rfl; simp only [setR]; (repeat' split) <;> first | with_reducible rfl | (exfalso; omega)) | rfl) ?_
      refine aw_goto (pc := 18) C 22 dX3_perhaps_18 (by decide) ?_
      exact aw_iretP (pc := 22) C rfl dX3_perhaps_22 (Or.inl ⟨φ15, _, _, by rw [optR, if_pos h8, hw15], rfl, hφ15, rfl⟩)
    · have hw15 : numR (σ.1 11) t (too (σ.1 11) t p) (nI (lo)) (nI (hi)) = .inl (too (σ.1 11) t p) := hw15
      have hφ15 : CTK φ15 (σ.1 11) t (too (σ.1 11) t p) := hφ15
      refine aw_conv (σ' := setR σ 13 (φ15)) (st' := [.int ((-1))]) (by first | with_reducible rfl | (simp (disch := omega) only [setR_at, setR_twice, setL_at, setL_twice, setR_2, setL_1, setR_ne, setL_ne, ne_eq, Nat.reduceEqDiff, not_false_eq_true, pk_us, pk_un]; done) | (simp (disch := omega) only [setR_at, setR_twice, setL_at, setL_twice, setR_2, setL_1, setR_ne, setL_ne, ne_eq, Nat.reduceEqDiff, not_false_eq_true, pk_us, pk_un, Option.toList_some, Option.toList_none, List.cons_append, List.nil_append]; done) | ((try simp (disch := omega) only [setR_at, setR_twice, setL_at, setL_twice, setR_2, setL_1, setR_ne, setL_ne, ne_eq, Nat.reduceEqDiff, not_false_eq_true, pk_us, pk_un]); refine Prod.ext (funext fun z => ?_) rfl; simp only [setR]; (repeat' split) <;> first | with_reducible rfl | (exfalso; omega)) | rfl) rfl (by first | with_reducible rfl | (simp (disch := omega) only [setR_at, setR_twice, setL_at, setL_twice, setR_2, setL_1, setR_ne, setL_ne, ne_eq, Nat.reduceEqDiff, not_false_eq_true, pk_us, pk_un]; done) | (simp (disch := omega) only [setR_at, setR_twice, setL_at, setL_twice, setR_2, setL_1, setR_ne, setL_ne, ne_eq, Nat.reduceEqDiff, not_false_eq_true, pk_us, pk_un, Option.toList_some, Option.toList_none, List.cons_append, List.nil_append]; done) | ((try simp (disch := omega) only [setR_at, setR_twice, setL_at, setL_twice, setR_2, setL_1, setR_ne, setL_ne, ne_eq, Nat.reduceEqDiff, not_false_eq_true, pk_us, pk_un]); refine Prod.ext (funext fun z => ?_) rfl; simp only [setR]; (repeat' split) <;> first | with_reducible rfl | (exfalso; omega)) | rfl) ?_
      refine aw_goto (pc := 18) C 22 dX3_perhaps_18 (by decide) ?_
      exact aw_iretP (pc := 22) C rfl dX3_perhaps_22 (Or.inr ⟨φ15, _, by rw [optR, if_pos h8, hw15], rfl, hφ15, rfl⟩)
theorem c_X3_groundTold (σ : St) (t p : Nat) (hA : CTK (σ.1 13) (σ.1 11) t p) : AMet Y_X3_groundTold [.ref 12] σ (fz (some (.int (gTold (σ.1 11) t p))) (σ)) := by
  refine am_intro (by decide +kernel) (Nat.le_of_ble_eq_true rfl) (fun K C => ?_)
  refine aw_aload_n (pc := 0) C 0 dX3_groundTold_0 rfl ?_
  refine aw_getR (pc := 1) C fl_X3_12 sh12 rfl dX3_groundTold_1 ?_
  refine aw_ldcS (pc := 4) (i := 0) C dX3_groundTold_4 rfl ?_
  refine aw_cVI (pc := 6) C (c_X6_isWord _ t p hA 0 _ rfl ) lk_X3_45 sh13 rfl dX3_groundTold_6 (by decide) (Nat.le_of_ble_eq_true rfl) rfl rfl ?_
  refine aw_top C (b2i (wdB (σ.1 11) t p 0 = true)) rfl ?_
  refine aw_if_eqB (pc := 9) C 14 dX3_groundTold_9 (by decide) (fun h9 => ?_) (fun h9 => ?_)
  · refine aw_aload_n (pc := 14) C 0 dX3_groundTold_14 rfl ?_
    refine aw_getR (pc := 15) C fl_X3_12 sh12 rfl dX3_groundTold_15 ?_
    refine aw_ldcS (pc := 18) (i := 1) C dX3_groundTold_18 rfl ?_
    refine aw_cVI (pc := 20) C (c_X6_isWord _ t p hA 1 _ rfl ) lk_X3_45 sh13 rfl dX3_groundTold_20 (by decide) (Nat.le_of_ble_eq_true rfl) rfl rfl ?_
    refine aw_top C (b2i (wdB (σ.1 11) t p 1 = true)) rfl ?_
    refine aw_if_eqB (pc := 23) C 28 dX3_groundTold_23 (by decide) (fun h23 => ?_) (fun h23 => ?_)
    · refine aw_aload_n (pc := 28) C 0 dX3_groundTold_28 rfl ?_
      refine aw_getR (pc := 29) C fl_X3_12 sh12 rfl dX3_groundTold_29 ?_
      refine aw_ldcS (pc := 32) (i := 2) C dX3_groundTold_32 rfl ?_
      refine aw_cVI (pc := 34) C (c_X6_isWord _ t p hA 2 _ rfl ) lk_X3_45 sh13 rfl dX3_groundTold_34 (by decide) (Nat.le_of_ble_eq_true rfl) rfl rfl ?_
      refine aw_top C (b2i (wdB (σ.1 11) t p 2 = true)) rfl ?_
      refine aw_if_eqB (pc := 37) C 42 dX3_groundTold_37 (by decide) (fun h37 => ?_) (fun h37 => ?_)
      · refine aw_aload_n (pc := 42) C 0 dX3_groundTold_42 rfl ?_
        refine aw_getR (pc := 43) C fl_X3_12 sh12 rfl dX3_groundTold_43 ?_
        refine aw_ldcS (pc := 46) (i := 3) C dX3_groundTold_46 rfl ?_
        refine aw_cVI (pc := 48) C (c_X6_isWord _ t p hA 3 _ rfl ) lk_X3_45 sh13 rfl dX3_groundTold_48 (by decide) (Nat.le_of_ble_eq_true rfl) rfl rfl ?_
        refine aw_top C (b2i (wdB (σ.1 11) t p 3 = true)) rfl ?_
        refine aw_if_eqB (pc := 51) C 56 dX3_groundTold_51 (by decide) (fun h51 => ?_) (fun h51 => ?_)
        · refine aw_aload_n (pc := 56) C 0 dX3_groundTold_56 rfl ?_
          refine aw_getR (pc := 57) C fl_X3_12 sh12 rfl dX3_groundTold_57 ?_
          refine aw_ldcS (pc := 60) (i := 4) C dX3_groundTold_60 rfl ?_
          refine aw_cVI (pc := 62) C (c_X6_isWord _ t p hA 4 _ rfl ) lk_X3_45 sh13 rfl dX3_groundTold_62 (by decide) (Nat.le_of_ble_eq_true rfl) rfl rfl ?_
          refine aw_top C (b2i (wdB (σ.1 11) t p 4 = true)) rfl ?_
          refine aw_if_eqB (pc := 65) C 72 dX3_groundTold_65 (by decide) (fun h65 => ?_) (fun h65 => ?_)
          · refine aw_iconst (pc := 72) (v := (-1)) C dX3_groundTold_72 rfl ?_
            exact aw_iret (pc := 73) C rfl dX3_groundTold_73 (by rw [gTold, if_neg h9, if_neg h23, if_neg h37, if_neg h51, if_neg h65]) rfl
          · refine aw_iconst (pc := 68) (v := 4) C dX3_groundTold_68 rfl ?_
            refine aw_goto (pc := 69) C 73 dX3_groundTold_69 (by decide) ?_
            exact aw_iret (pc := 73) C rfl dX3_groundTold_73 (by rw [gTold, if_neg h9, if_neg h23, if_neg h37, if_neg h51, if_pos h65]) rfl
        · refine aw_iconst (pc := 54) (v := 3) C dX3_groundTold_54 rfl ?_
          exact aw_iret (pc := 55) C rfl dX3_groundTold_55 (by rw [gTold, if_neg h9, if_neg h23, if_neg h37, if_pos h51]) rfl
      · refine aw_iconst (pc := 40) (v := 2) C dX3_groundTold_40 rfl ?_
        exact aw_iret (pc := 41) C rfl dX3_groundTold_41 (by rw [gTold, if_neg h9, if_neg h23, if_pos h37]) rfl
    · refine aw_iconst (pc := 26) (v := 1) C dX3_groundTold_26 rfl ?_
      exact aw_iret (pc := 27) C rfl dX3_groundTold_27 (by rw [gTold, if_neg h9, if_pos h23]) rfl
  · refine aw_iconst (pc := 12) (v := 0) C dX3_groundTold_12 rfl ?_
    exact aw_iret (pc := 13) C rfl dX3_groundTold_13 (by rw [gTold, if_pos h9]) rfl
theorem c_X3_kindTold (σ : St) (t p : Nat) (hA : CTK (σ.1 13) (σ.1 11) t p) : AMet Y_X3_kindTold [.ref 12] σ (fz (some (.int (kTold (σ.1 11) t p))) (σ)) := by
  refine am_intro (by decide +kernel) (Nat.le_of_ble_eq_true rfl) (fun K C => ?_)
  refine aw_aload_n (pc := 0) C 0 dX3_kindTold_0 rfl ?_
  refine aw_getR (pc := 1) C fl_X3_12 sh12 rfl dX3_kindTold_1 ?_
  refine aw_ldcS (pc := 4) (i := 7) C dX3_kindTold_4 rfl ?_
  refine aw_cVI (pc := 6) C (c_X6_isWord _ t p hA 7 _ rfl ) lk_X3_45 sh13 rfl dX3_kindTold_6 (by decide) (Nat.le_of_ble_eq_true rfl) rfl rfl ?_
  refine aw_top C (b2i (wdB (σ.1 11) t p 7 = true)) rfl ?_
  refine aw_if_eqB (pc := 9) C 14 dX3_kindTold_9 (by decide) (fun h9 => ?_) (fun h9 => ?_)
  · refine aw_aload_n (pc := 14) C 0 dX3_kindTold_14 rfl ?_
    refine aw_getR (pc := 15) C fl_X3_12 sh12 rfl dX3_kindTold_15 ?_
    refine aw_ldcS (pc := 18) (i := 8) C dX3_kindTold_18 rfl ?_
    refine aw_cVI (pc := 20) C (c_X6_isWord _ t p hA 8 _ rfl ) lk_X3_45 sh13 rfl dX3_kindTold_20 (by decide) (Nat.le_of_ble_eq_true rfl) rfl rfl ?_
    refine aw_top C (b2i (wdB (σ.1 11) t p 8 = true)) rfl ?_
    refine aw_if_eqB (pc := 23) C 28 dX3_kindTold_23 (by decide) (fun h23 => ?_) (fun h23 => ?_)
    · refine aw_aload_n (pc := 28) C 0 dX3_kindTold_28 rfl ?_
      refine aw_getR (pc := 29) C fl_X3_12 sh12 rfl dX3_kindTold_29 ?_
      refine aw_ldcS (pc := 32) (i := 9) C dX3_kindTold_32 rfl ?_
      refine aw_cVI (pc := 34) C (c_X6_isWord _ t p hA 9 _ rfl ) lk_X3_45 sh13 rfl dX3_kindTold_34 (by decide) (Nat.le_of_ble_eq_true rfl) rfl rfl ?_
      refine aw_top C (b2i (wdB (σ.1 11) t p 9 = true)) rfl ?_
      refine aw_if_eqB (pc := 37) C 42 dX3_kindTold_37 (by decide) (fun h37 => ?_) (fun h37 => ?_)
      · refine aw_aload_n (pc := 42) C 0 dX3_kindTold_42 rfl ?_
        refine aw_getR (pc := 43) C fl_X3_12 sh12 rfl dX3_kindTold_43 ?_
        refine aw_ldcS (pc := 46) (i := 10) C dX3_kindTold_46 rfl ?_
        refine aw_cVI (pc := 48) C (c_X6_isWord _ t p hA 10 _ rfl ) lk_X3_45 sh13 rfl dX3_kindTold_48 (by decide) (Nat.le_of_ble_eq_true rfl) rfl rfl ?_
        refine aw_top C (b2i (wdB (σ.1 11) t p 10 = true)) rfl ?_
        refine aw_if_eqB (pc := 51) C 56 dX3_kindTold_51 (by decide) (fun h51 => ?_) (fun h51 => ?_)
        · refine aw_aload_n (pc := 56) C 0 dX3_kindTold_56 rfl ?_
          refine aw_getR (pc := 57) C fl_X3_12 sh12 rfl dX3_kindTold_57 ?_
          refine aw_ldcS (pc := 60) (i := 11) C dX3_kindTold_60 rfl ?_
          refine aw_cVI (pc := 62) C (c_X6_isWord _ t p hA 11 _ rfl ) lk_X3_45 sh13 rfl dX3_kindTold_62 (by decide) (Nat.le_of_ble_eq_true rfl) rfl rfl ?_
          refine aw_top C (b2i (wdB (σ.1 11) t p 11 = true)) rfl ?_
          refine aw_if_eqB (pc := 65) C 70 dX3_kindTold_65 (by decide) (fun h65 => ?_) (fun h65 => ?_)
          · refine aw_aload_n (pc := 70) C 0 dX3_kindTold_70 rfl ?_
            refine aw_getR (pc := 71) C fl_X3_12 sh12 rfl dX3_kindTold_71 ?_
            refine aw_ldcS (pc := 74) (i := 12) C dX3_kindTold_74 rfl ?_
            refine aw_cVI (pc := 76) C (c_X6_isWord _ t p hA 12 _ rfl ) lk_X3_45 sh13 rfl dX3_kindTold_76 (by decide) (Nat.le_of_ble_eq_true rfl) rfl rfl ?_
            refine aw_top C (b2i (wdB (σ.1 11) t p 12 = true)) rfl ?_
            refine aw_if_eqB (pc := 79) C 84 dX3_kindTold_79 (by decide) (fun h79 => ?_) (fun h79 => ?_)
            · refine aw_aload_n (pc := 84) C 0 dX3_kindTold_84 rfl ?_
              refine aw_getR (pc := 85) C fl_X3_12 sh12 rfl dX3_kindTold_85 ?_
              refine aw_ldcS (pc := 88) (i := 13) C dX3_kindTold_88 rfl ?_
              refine aw_cVI (pc := 90) C (c_X6_isWord _ t p hA 13 _ rfl ) lk_X3_45 sh13 rfl dX3_kindTold_90 (by decide) (Nat.le_of_ble_eq_true rfl) rfl rfl ?_
              refine aw_top C (b2i (wdB (σ.1 11) t p 13 = true)) rfl ?_
              refine aw_if_eqB (pc := 93) C 101 dX3_kindTold_93 (by decide) (fun h93 => ?_) (fun h93 => ?_)
              · refine aw_iconst (pc := 101) (v := (-1)) C dX3_kindTold_101 rfl ?_
                exact aw_iret (pc := 102) C rfl dX3_kindTold_102 (by rw [kTold, if_neg h9, if_neg h23, if_neg h37, if_neg h51, if_neg h65, if_neg h79, if_neg h93]) rfl
              · refine aw_bipush (pc := 96) (v := 6) C dX3_kindTold_96 rfl ?_
                refine aw_goto (pc := 98) C 102 dX3_kindTold_98 (by decide) ?_
                exact aw_iret (pc := 102) C rfl dX3_kindTold_102 (by rw [kTold, if_neg h9, if_neg h23, if_neg h37, if_neg h51, if_neg h65, if_neg h79, if_pos h93]) rfl
            · refine aw_iconst (pc := 82) (v := 5) C dX3_kindTold_82 rfl ?_
              exact aw_iret (pc := 83) C rfl dX3_kindTold_83 (by rw [kTold, if_neg h9, if_neg h23, if_neg h37, if_neg h51, if_neg h65, if_pos h79]) rfl
          · refine aw_iconst (pc := 68) (v := 4) C dX3_kindTold_68 rfl ?_
            exact aw_iret (pc := 69) C rfl dX3_kindTold_69 (by rw [kTold, if_neg h9, if_neg h23, if_neg h37, if_neg h51, if_pos h65]) rfl
        · refine aw_iconst (pc := 54) (v := 3) C dX3_kindTold_54 rfl ?_
          exact aw_iret (pc := 55) C rfl dX3_kindTold_55 (by rw [kTold, if_neg h9, if_neg h23, if_neg h37, if_pos h51]) rfl
      · refine aw_iconst (pc := 40) (v := 2) C dX3_kindTold_40 rfl ?_
        exact aw_iret (pc := 41) C rfl dX3_kindTold_41 (by rw [kTold, if_neg h9, if_neg h23, if_pos h37]) rfl
    · refine aw_iconst (pc := 26) (v := 1) C dX3_kindTold_26 rfl ?_
      exact aw_iret (pc := 27) C rfl dX3_kindTold_27 (by rw [kTold, if_neg h9, if_pos h23]) rfl
  · refine aw_iconst (pc := 12) (v := 0) C dX3_kindTold_12 rfl ?_
    exact aw_iret (pc := 13) C rfl dX3_kindTold_13 (by rw [kTold, if_pos h9]) rfl
theorem c_X3_readPick (σ : St) (j : Nat) (hj : j < 3) (t p : Nat) (hA : CTK (σ.1 13) (σ.1 11) t p) (hK : TpOk (σ.1 11) (σ.1 12) t) : AMet Y_X3_readPick [.ref 12, .ref (25 + 16 * j)] σ (ItC σ j t (pkR (σ.1 11) t (σ.1 j) p)) := by
  refine am_intro (by decide +kernel) (Nat.le_of_ble_eq_true rfl) (fun K C => ?_)
  refine aw_aload_n (pc := 0) C 0 dX3_readPick_0 rfl ?_
  refine aw_iconst (pc := 1) (v := 0) C dX3_readPick_1 rfl ?_
  refine aw_bipush (pc := 2) (v := 99) C dX3_readPick_2 rfl ?_
  refine aw_callV (pc := 4) C (c_X3_numberBehind _ t p hA hK 0 99 (by omega) (by omega)) lk_X3_63 sh12 rfl (by decide) rfl (Nat.le_of_ble_eq_true rfl) dX3_readPick_4 rfl (fun w s hq => ?_)
  rcases hq with ⟨φ4, hw4, hr4, rfl, hφ4, rfl⟩ | ⟨φ4, hw4, rfl, hφ4, rfl⟩
  · have hw4 : numR (σ.1 11) t (too (σ.1 11) t p) (nI (0)) (nI (99)) = .inr (val (σ.1 11) t (too (σ.1 11) t p), too (σ.1 11) t (too (σ.1 11) t p)) := hw4
    have hr4 : nI (0) ≤ val (σ.1 11) t (too (σ.1 11) t p) ∧ val (σ.1 11) t (too (σ.1 11) t p) ≤ nI (99) := hr4
    have hφ4 : CTK φ4 (σ.1 11) t (too (σ.1 11) t (too (σ.1 11) t p)) := hφ4
    refine aw_conv (σ' := setR σ 13 (φ4)) (st' := [.int (val (σ.1 11) t (too (σ.1 11) t p))]) (by first | with_reducible rfl | (simp (disch := omega) only [setR_at, setR_twice, setL_at, setL_twice, setR_2, setL_1, setR_ne, setL_ne, ne_eq, Nat.reduceEqDiff, not_false_eq_true, pk_us, pk_un]; done) | (simp (disch := omega) only [setR_at, setR_twice, setL_at, setL_twice, setR_2, setL_1, setR_ne, setL_ne, ne_eq, Nat.reduceEqDiff, not_false_eq_true, pk_us, pk_un, Option.toList_some, Option.toList_none, List.cons_append, List.nil_append]; done) | ((try simp (disch := omega) only [setR_at, setR_twice, setL_at, setL_twice, setR_2, setL_1, setR_ne, setL_ne, ne_eq, Nat.reduceEqDiff, not_false_eq_true, pk_us, pk_un]); refine Prod.ext (funext fun z => ?_) rfl; simp only [setR]; (repeat' split) <;> first | with_reducible rfl | (exfalso; omega)) | rfl) rfl (by first | with_reducible rfl | (simp (disch := omega) only [setR_at, setR_twice, setL_at, setL_twice, setR_2, setL_1, setR_ne, setL_ne, ne_eq, Nat.reduceEqDiff, not_false_eq_true, pk_us, pk_un]; done) | (simp (disch := omega) only [setR_at, setR_twice, setL_at, setL_twice, setR_2, setL_1, setR_ne, setL_ne, ne_eq, Nat.reduceEqDiff, not_false_eq_true, pk_us, pk_un, Option.toList_some, Option.toList_none, List.cons_append, List.nil_append]; done) | ((try simp (disch := omega) only [setR_at, setR_twice, setL_at, setL_twice, setR_2, setL_1, setR_ne, setL_ne, ne_eq, Nat.reduceEqDiff, not_false_eq_true, pk_us, pk_un]); refine Prod.ext (funext fun z => ?_) rfl; simp only [setR]; (repeat' split) <;> first | with_reducible rfl | (exfalso; omega)) | rfl) ?_
    obtain ⟨aa, eaa, -, haa⟩ := rg 0 99 hr4 (by omega) (by omega)
    have hne : ¬ val (σ.1 11) t (too (σ.1 11) t p) = -1 := by rw [eaa]; exact nI_nm1 (by omega)
    refine aw_istore_n (pc := 7) C [(2, .int (val (σ.1 11) t (too (σ.1 11) t p))), (0, .ref 12), (1, .ref (25 + 16 * j))] dX3_readPick_7 (Nat.le_of_ble_eq_true rfl) rfl ?_
    refine aw_iload_n (pc := 8) C 0 dX3_readPick_8 rfl ?_
    refine aw_iconst (pc := 9) (v := (-1)) C dX3_readPick_9 rfl ?_
    refine aw_icmp_ne (pc := 10) C 15 dX3_readPick_10 (by decide) (fun h10 => ?_) (fun h10 => absurd h10 hne)
    refine aw_aload_n (pc := 15) C 2 dX3_readPick_15 rfl ?_
    refine aw_iload_n (pc := 16) C 0 dX3_readPick_16 rfl ?_
    refine aw_pst (pc := 17) C (setR (setR σ 13 (φ4)) j (upd (σ.1 j) 0 (val (σ.1 11) t (too (σ.1 11) t p)))) fp_X3_77 (shM hj) rfl dX3_readPick_17 (by first | with_reducible rfl | (simp (disch := omega) only [setR_at, setR_twice, setL_at, setL_twice, setR_2, setL_1, setR_ne, setL_ne, ne_eq, Nat.reduceEqDiff, not_false_eq_true, pk_us, pk_un]; done) | (simp (disch := omega) only [setR_at, setR_twice, setL_at, setL_twice, setR_2, setL_1, setR_ne, setL_ne, ne_eq, Nat.reduceEqDiff, not_false_eq_true, pk_us, pk_un, Option.toList_some, Option.toList_none, List.cons_append, List.nil_append]; done) | ((try simp (disch := omega) only [setR_at, setR_twice, setL_at, setL_twice, setR_2, setL_1, setR_ne, setL_ne, ne_eq, Nat.reduceEqDiff, not_false_eq_true, pk_us, pk_un]); refine Prod.ext (funext fun z => ?_) rfl; simp only [setR]; (repeat' split) <;> first | with_reducible rfl | (exfalso; omega)) | rfl) ?_
    refine aw_iconst (pc := 20) (v := 1) C dX3_readPick_20 rfl ?_
    exact aw_zretP (pc := 21) C rfl rfl dX3_readPick_21 (Or.inr ⟨φ4, _, _, rfl, (by simp only [pkR, show numR (σ.1 11) t (too (σ.1 11) t p) 0 99 = _ from hw4]), hφ4, rfl⟩)
  · have hw4 : numR (σ.1 11) t (too (σ.1 11) t p) (nI (0)) (nI (99)) = .inl (too (σ.1 11) t p) := hw4
    have hφ4 : CTK φ4 (σ.1 11) t (too (σ.1 11) t p) := hφ4
    refine aw_conv (σ' := setR σ 13 (φ4)) (st' := [.int ((-1))]) (by first | with_reducible rfl | (simp (disch := omega) only [setR_at, setR_twice, setL_at, setL_twice, setR_2, setL_1, setR_ne, setL_ne, ne_eq, Nat.reduceEqDiff, not_false_eq_true, pk_us, pk_un]; done) | (simp (disch := omega) only [setR_at, setR_twice, setL_at, setL_twice, setR_2, setL_1, setR_ne, setL_ne, ne_eq, Nat.reduceEqDiff, not_false_eq_true, pk_us, pk_un, Option.toList_some, Option.toList_none, List.cons_append, List.nil_append]; done) | ((try simp (disch := omega) only [setR_at, setR_twice, setL_at, setL_twice, setR_2, setL_1, setR_ne, setL_ne, ne_eq, Nat.reduceEqDiff, not_false_eq_true, pk_us, pk_un]); refine Prod.ext (funext fun z => ?_) rfl; simp only [setR]; (repeat' split) <;> first | with_reducible rfl | (exfalso; omega)) | rfl) rfl (by first | with_reducible rfl | (simp (disch := omega) only [setR_at, setR_twice, setL_at, setL_twice, setR_2, setL_1, setR_ne, setL_ne, ne_eq, Nat.reduceEqDiff, not_false_eq_true, pk_us, pk_un]; done) | (simp (disch := omega) only [setR_at, setR_twice, setL_at, setL_twice, setR_2, setL_1, setR_ne, setL_ne, ne_eq, Nat.reduceEqDiff, not_false_eq_true, pk_us, pk_un, Option.toList_some, Option.toList_none, List.cons_append, List.nil_append]; done) | ((try simp (disch := omega) only [setR_at, setR_twice, setL_at, setL_twice, setR_2, setL_1, setR_ne, setL_ne, ne_eq, Nat.reduceEqDiff, not_false_eq_true, pk_us, pk_un]); refine Prod.ext (funext fun z => ?_) rfl; simp only [setR]; (repeat' split) <;> first | with_reducible rfl | (exfalso; omega)) | rfl) ?_
    refine aw_istore_n (pc := 7) C [(2, .int ((-1))), (0, .ref 12), (1, .ref (25 + 16 * j))] dX3_readPick_7 (Nat.le_of_ble_eq_true rfl) rfl ?_
    refine aw_iload_n (pc := 8) C 0 dX3_readPick_8 rfl ?_
    refine aw_iconst (pc := 9) (v := (-1)) C dX3_readPick_9 rfl ?_
    refine aw_icmp_ne (pc := 10) C 15 dX3_readPick_10 (by decide) (fun h10 => absurd h10 (by decide)) (fun h10 => ?_)
    refine aw_iconst (pc := 13) (v := 0) C dX3_readPick_13 rfl ?_
    exact aw_zretP (pc := 14) C rfl rfl dX3_readPick_14 (Or.inl ⟨φ4, _, _, rfl, (by simp only [pkR, show numR (σ.1 11) t (too (σ.1 11) t p) 0 99 = _ from hw4]), hφ4, (setR_same (setR σ 13 φ4) j).symm⟩)
