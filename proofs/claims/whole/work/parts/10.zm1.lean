/-! the reference: its small methods -/
theorem c_X9_in (σ : St) (x a b : Int32) (X A B : Int64) (hX : X = x.toInt64) (hA : A = a.toInt64) (hB : B = b.toInt64) : AMet Y_X9_in [.long (X), .long (A), .long (B)] σ (fz (some (.int (b2i (a ≤ x ∧ x ≤ b)))) (σ)) := by
  refine am_intro (by decide +kernel) (Nat.le_of_ble_eq_true rfl) (fun K C => ?_)
  refine aw_lload_n (pc := 0) C 0 dX9_in_0 rfl ?_
  refine aw_lload_n (pc := 1) C 1 dX9_in_1 rfl ?_
  refine aw_lcmp (pc := 2) C dX9_in_2 ?_
  refine aw_if_ltC (pc := 3) C 17 dX9_in_3 (by decide) (fun h3 => ?_) (fun h3 => ?_)
  · refine aw_iconst (pc := 17) (v := 0) C dX9_in_17 rfl ?_
    exact aw_zret (pc := 18) C rfl rfl dX9_in_18 (b2i_f (fun z => Int64.not_le.mpr h3 ((w64 x a b hX hA hB).mpr z).1)).symm rfl
  · refine aw_lload_n (pc := 6) C 0 dX9_in_6 rfl ?_
    refine aw_lload (pc := 7) C 2 dX9_in_7 rfl ?_
    refine aw_lcmp (pc := 9) C dX9_in_9 ?_
    refine aw_if_gtC (pc := 10) C 17 dX9_in_10 (by decide) (fun h10 => ?_) (fun h10 => ?_)
    · refine aw_iconst (pc := 17) (v := 0) C dX9_in_17 rfl ?_
      exact aw_zret (pc := 18) C rfl rfl dX9_in_18 (b2i_f (fun z => Int64.not_le.mpr h10 ((w64 x a b hX hA hB).mpr z).2)).symm rfl
    · refine aw_iconst (pc := 13) (v := 1) C dX9_in_13 rfl ?_
      refine aw_goto (pc := 14) C 18 dX9_in_14 (by decide) ?_
      exact aw_zret (pc := 18) C rfl rfl dX9_in_18 (b2i_t ((w64 x a b hX hA hB).mp ⟨Int64.not_lt.mp h3, Int64.not_lt.mp h10⟩)).symm rfl
theorem c_X9_isYard (σ : St) (x : Int32) : AMet Y_X9_isYard [.int x] σ (fz (some (.int (b2i (0 ≤ x ∧ x ≤ 29)))) (σ)) := by
  refine am_intro (by decide +kernel) (Nat.le_of_ble_eq_true rfl) (fun K C => ?_)
  refine aw_iload_n (pc := 0) C 0 dX9_isYard_0 rfl ?_
  refine aw_i2l (pc := 1) C dX9_isYard_1 ?_
  refine aw_lconst (pc := 2) (v := 0) C dX9_isYard_2 rfl ?_
  refine aw_ldc2 (pc := 3) C dX9_isYard_3 kc_X9_52 ?_
  refine aw_cSI (pc := 6) C (c_X9_in _ x 0 29 _ _ _ rfl (by decide) (by decide)) lk_X9_54 dX9_isYard_6 (by decide) (Nat.le_of_ble_eq_true rfl) rfl rfl ?_
  exact aw_zret (pc := 9) C rfl (b2i_nar _) dX9_isYard_9 rfl rfl
theorem c_X9_isPace (σ : St) (x : Int32) : AMet Y_X9_isPace [.int x] σ (fz (some (.int (b2i (1 ≤ x ∧ x ≤ 9)))) (σ)) := by
  refine am_intro (by decide +kernel) (Nat.le_of_ble_eq_true rfl) (fun K C => ?_)
  refine aw_iload_n (pc := 0) C 0 dX9_isPace_0 rfl ?_
  refine aw_i2l (pc := 1) C dX9_isPace_1 ?_
  refine aw_lconst (pc := 2) (v := 1) C dX9_isPace_2 rfl ?_
  refine aw_ldc2 (pc := 3) C dX9_isPace_3 kc_X9_58 ?_
  refine aw_cSI (pc := 6) C (c_X9_in _ x 1 9 _ _ _ rfl (by decide) (by decide)) lk_X9_54 dX9_isPace_6 (by decide) (Nat.le_of_ble_eq_true rfl) rfl rfl ?_
  exact aw_zret (pc := 9) C rfl (b2i_nar _) dX9_isPace_9 rfl rfl
theorem c_X9_isKind (σ : St) (x : Int32) : AMet Y_X9_isKind [.int x] σ (fz (some (.int (b2i (0 ≤ x ∧ x ≤ 6)))) (σ)) := by
  refine am_intro (by decide +kernel) (Nat.le_of_ble_eq_true rfl) (fun K C => ?_)
  refine aw_iload_n (pc := 0) C 0 dX9_isKind_0 rfl ?_
  refine aw_i2l (pc := 1) C dX9_isKind_1 ?_
  refine aw_lconst (pc := 2) (v := 0) C dX9_isKind_2 rfl ?_
  refine aw_ldc2 (pc := 3) C dX9_isKind_3 kc_X9_60 ?_
  refine aw_cSI (pc := 6) C (c_X9_in _ x 0 6 _ _ _ rfl (by decide) (by decide)) lk_X9_54 dX9_isKind_6 (by decide) (Nat.le_of_ble_eq_true rfl) rfl rfl ?_
  exact aw_zret (pc := 9) C rfl (b2i_nar _) dX9_isKind_9 rfl rfl
theorem c_X9_isSheet (σ : St) (x : Int32) : AMet Y_X9_isSheet [.int x] σ (fz (some (.int (b2i (0 ≤ x ∧ x ≤ 3)))) (σ)) := by
  refine am_intro (by decide +kernel) (Nat.le_of_ble_eq_true rfl) (fun K C => ?_)
  refine aw_iload_n (pc := 0) C 0 dX9_isSheet_0 rfl ?_
  refine aw_i2l (pc := 1) C dX9_isSheet_1 ?_
  refine aw_lconst (pc := 2) (v := 0) C dX9_isSheet_2 rfl ?_
  refine aw_ldc2 (pc := 3) C dX9_isSheet_3 kc_X9_101 ?_
  refine aw_cSI (pc := 6) C (c_X9_in _ x 0 3 _ _ _ rfl (by decide) (by decide)) lk_X9_54 dX9_isSheet_6 (by decide) (Nat.le_of_ble_eq_true rfl) rfl rfl ?_
  exact aw_zret (pc := 9) C rfl (b2i_nar _) dX9_isSheet_9 rfl rfl
theorem c_X9_finds (σ : St) (f : Int32) (i : Nat) (hf : -100000001 - f = nI i) (hi : i < 7) : AMet Y_X9_finds [.ref 73, .int f] σ (fz (some (.int f)) (setR σ 24 (upd (σ.1 24) i (σ.1 24 i + 1)))) := by
  refine am_intro (by decide +kernel) (Nat.le_of_ble_eq_true rfl) (fun K C => ?_)
  refine aw_aload_n (pc := 0) C 0 dX9_finds_0 rfl ?_
  refine aw_getR (pc := 1) C fl_X9_19 sh73 rfl dX9_finds_1 ?_
  refine aw_ldc (pc := 4) C dX9_finds_4 kc_X9_46 ?_
  refine aw_iload_n (pc := 6) C 1 dX9_finds_6 rfl ?_
  refine aw_isub (pc := 7) C dX9_finds_7 ?_
  refine aw_top C (nI (i)) hf ?_
  refine aw_dup2 (pc := 8) C dX9_finds_8 rfl rfl ?_
  refine aw_ild (pc := 9) (k := i) C (i) (σ.1 24 i) sh77 dX9_finds_9 rfl (by omega) rfl rfl ?_
  refine aw_iconst (pc := 10) (v := 1) C dX9_finds_10 rfl ?_
  refine aw_iadd (pc := 11) C dX9_finds_11 ?_
  refine aw_ist (pc := 12) (k := i) C (i) (setR σ 24 (upd (σ.1 24) i ((σ.1 24 i) + 1))) sh77 dX9_finds_12 rfl (by omega) rfl rfl ?_
  refine aw_iload_n (pc := 13) C 1 dX9_finds_13 rfl ?_
  exact aw_iret (pc := 14) C rfl dX9_finds_14 rfl rfl
theorem c_X9_orNone (σ : St) (v : Int32) : AMet Y_X9_orNone [.ref 73, .int v] σ (fz (some (.int (if v < 0 then -100000004 else v))) (if v < 0 then setR σ 24 (upd (σ.1 24) 3 (σ.1 24 3 + 1)) else σ)) := by
  refine am_intro (by decide +kernel) (Nat.le_of_ble_eq_true rfl) (fun K C => ?_)
  refine aw_iload_n (pc := 0) C 1 dX9_orNone_0 rfl ?_
  refine aw_if_ge (pc := 1) C 13 dX9_orNone_1 (by decide) (fun h1 => ?_) (fun h1 => ?_)
  · refine aw_iload_n (pc := 13) C 1 dX9_orNone_13 rfl ?_
    exact aw_iret (pc := 14) C rfl dX9_orNone_14 (if_neg (Int32.not_lt.mpr h1)).symm (if_neg (Int32.not_lt.mpr h1)).symm
  · refine aw_aload_n (pc := 4) C 0 dX9_orNone_4 rfl ?_
    refine aw_ldc (pc := 5) C dX9_orNone_5 kc_X9_47 ?_
    refine aw_cVI (pc := 7) C (c_X9_finds _ (-100000004) 3 (by decide) (by decide)) lk_X9_48 sh73 rfl dX9_orNone_7 (by decide) (Nat.le_of_ble_eq_true rfl) rfl rfl ?_
    refine aw_goto (pc := 10) C 14 dX9_orNone_10 (by decide) ?_
    exact aw_iret (pc := 14) C rfl dX9_orNone_14 (if_pos (Int32.not_le.mp h1)).symm (if_pos (Int32.not_le.mp h1)).symm
theorem c_X9_becomes (σ : St) (k : Nat) (v : Int32) (hk : k < 265) : AMet Y_X9_becomes [.ref 73, .int (nI k), .int v] σ (fz (some (.int (σ.1 20 k))) (setR σ 20 (upd (σ.1 20) k v))) := by
  refine am_intro (by decide +kernel) (Nat.le_of_ble_eq_true rfl) (fun K C => ?_)
  refine aw_aload_n (pc := 0) C 0 dX9_becomes_0 rfl ?_
  refine aw_getR (pc := 1) C fl_X9_9 sh73 rfl dX9_becomes_1 ?_
  refine aw_iload_n (pc := 4) C 1 dX9_becomes_4 rfl ?_
  refine aw_ild (pc := 5) (k := k) C (k) (σ.1 20 k) sh74 dX9_becomes_5 rfl (by omega) rfl rfl ?_
  refine aw_istore_n (pc := 6) C [(3, .int (σ.1 20 k)), (0, .ref 73), (1, .int (nI k)), (2, .int v)] dX9_becomes_6 (Nat.le_of_ble_eq_true rfl) rfl ?_
  refine aw_aload_n (pc := 7) C 1 dX9_becomes_7 rfl ?_
  refine aw_getR (pc := 8) C fl_X9_9 sh73 rfl dX9_becomes_8 ?_
  refine aw_iload_n (pc := 11) C 2 dX9_becomes_11 rfl ?_
  refine aw_iload_n (pc := 12) C 3 dX9_becomes_12 rfl ?_
  refine aw_ist (pc := 13) (k := k) C (k) (setR σ 20 (upd (σ.1 20) k (v))) sh74 dX9_becomes_13 rfl (by omega) rfl rfl ?_
  refine aw_iload_n (pc := 14) C 0 dX9_becomes_14 rfl ?_
  exact aw_iret (pc := 15) C rfl dX9_becomes_15 rfl rfl
theorem c_X9_is (σ : St) (r w : Nat) (hk : 33 + 37 * r + w < 265) : AMet Y_X9_is [.ref 73, .int (nI r), .int (nI w)] σ (fz (some (.int (σ.1 20 (33 + 37 * r + w)))) (σ)) := by
  refine am_intro (by decide +kernel) (Nat.le_of_ble_eq_true rfl) (fun K C => ?_)
  refine aw_aload_n (pc := 0) C 0 dX9_is_0 rfl ?_
  refine aw_getR (pc := 1) C fl_X9_9 sh73 rfl dX9_is_1 ?_
  refine aw_bipush (pc := 4) (v := 33) C dX9_is_4 rfl ?_
  refine aw_bipush (pc := 6) (v := 37) C dX9_is_6 rfl ?_
  refine aw_iload_n (pc := 8) C 1 dX9_is_8 rfl ?_
  refine aw_imulN (pc := 9) C 37 r rfl rfl dX9_is_9 ?_
  refine aw_iaddN (pc := 10) C 33 (37 * r) rfl rfl dX9_is_10 ?_
  refine aw_iload_n (pc := 11) C 2 dX9_is_11 rfl ?_
  refine aw_iaddN (pc := 12) C (33 + (37 * r)) w rfl rfl dX9_is_12 ?_
  refine aw_ild (pc := 13) (k := (33 + (37 * r)) + w) C ((33 + (37 * r)) + w) (σ.1 20 ((33 + (37 * r)) + w)) sh74 dX9_is_13 rfl (by omega) rfl rfl ?_
  exact aw_iret (pc := 14) C rfl dX9_is_14 rfl rfl
theorem c_X9_makes (σ : St) (r w : Nat) (v : Int32) (hk : 33 + 37 * r + w < 265) : AMet Y_X9_makes [.ref 73, .int (nI r), .int (nI w), .int v] σ (fz none (setR σ 20 (upd (σ.1 20) (33 + 37 * r + w) v))) := by
  refine am_intro (by decide +kernel) (Nat.le_of_ble_eq_true rfl) (fun K C => ?_)
  refine aw_aload_n (pc := 0) C 0 dX9_makes_0 rfl ?_
  refine aw_getR (pc := 1) C fl_X9_9 sh73 rfl dX9_makes_1 ?_
  refine aw_bipush (pc := 4) (v := 33) C dX9_makes_4 rfl ?_
  refine aw_bipush (pc := 6) (v := 37) C dX9_makes_6 rfl ?_
  refine aw_iload_n (pc := 8) C 1 dX9_makes_8 rfl ?_
  refine aw_imulN (pc := 9) C 37 r rfl rfl dX9_makes_9 ?_
  refine aw_iaddN (pc := 10) C 33 (37 * r) rfl rfl dX9_makes_10 ?_
  refine aw_iload_n (pc := 11) C 2 dX9_makes_11 rfl ?_
  refine aw_iaddN (pc := 12) C (33 + (37 * r)) w rfl rfl dX9_makes_12 ?_
  refine aw_iload_n (pc := 13) C 3 dX9_makes_13 rfl ?_
  refine aw_ist (pc := 14) (k := (33 + (37 * r)) + w) C ((33 + (37 * r)) + w) (setR σ 20 (upd (σ.1 20) ((33 + (37 * r)) + w) (v))) sh74 dX9_makes_14 rfl (by omega) rfl rfl ?_
  exact aw_vret (pc := 15) C rfl dX9_makes_15 rfl
