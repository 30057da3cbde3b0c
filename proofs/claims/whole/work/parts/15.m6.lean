/-! the reference: a row copied; home, start, first home -/
theorem c_X9_row_74_76 (σ : St) : AMet Y_X9_row [.ref 74, .ref 76] σ (fz none (setR σ 22 (σ.1 20))) := by
  refine am_intro (by decide +kernel) (Nat.le_of_ble_eq_true rfl) (fun K C => ?_)
  refine aw_iconst (pc := 0) (v := 0) C dX9_row_0 rfl ?_
  refine aw_istore_n (pc := 1) C [(2, .int 0), (0, .ref 74), (1, .ref 76)] dX9_row_1 (Nat.le_of_ble_eq_true rfl) rfl ?_
  refine aw_lvs C [0, 1, 2] [(2, .int 0), (0, .ref 74), (1, .ref 76)] rfl ?_
  refine aw_conv (σ' := setR σ 22 (fillF (σ.1 20) (σ.1 22) 0)) (lv' := [(2, .int (nI 0)), (0, .ref 74), (1, .ref 76)]) (by rw [fillF_0, setR_same]) rfl rfl ?_
  refine loop_up (P := fun k => AW _ K _ (setR σ 22 (fillF (σ.1 20) (σ.1 22) k)) 2 [(2, .int (nI k)), (0, .ref 74), (1, .ref 76)] []) 265 ?_ ?_ 0 (by omega) 
  · refine aw_iload_n (pc := 2) C 0 dX9_row_2 rfl ?_
    refine aw_sipush (pc := 3) (v := 265) C dX9_row_3 rfl ?_
    refine aw_icmp_geN (pc := 6) C 265 265 21 rfl rfl (by omega) (by omega) dX9_row_6 (by decide) (fun h6 => ?_) (fun h6 => absurd h6 (by omega))
    refine aw_fx 22 (fillF (σ.1 20) (σ.1 22) 265) (σ.1 20) (fun k hk => fillF_in hk) ?_
    exact aw_vret (pc := 21) C rfl dX9_row_21 rfl
  · intro k hk2 ih2 
    refine aw_iload_n (pc := 2) C 0 dX9_row_2 rfl ?_
    refine aw_sipush (pc := 3) (v := 265) C dX9_row_3 rfl ?_
    refine aw_icmp_geN (pc := 6) C k 265 21 rfl rfl (by omega) (by omega) dX9_row_6 (by decide) (fun h6 => absurd h6 (by omega)) (fun h6 => ?_)
    refine aw_aload_n (pc := 9) C 2 dX9_row_9 rfl ?_
    refine aw_iload_n (pc := 10) C 0 dX9_row_10 rfl ?_
    refine aw_aload_n (pc := 11) C 1 dX9_row_11 rfl ?_
    refine aw_iload_n (pc := 12) C 0 dX9_row_12 rfl ?_
    refine aw_ild (pc := 13) (k := k) C (k) (σ.1 20 k) sh74 dX9_row_13 rfl (by omega) rfl (by first | rfl | (simp (disch := omega) only [setR_at, setR_twice, setL_at, setL_twice, setR_2, setL_1, setR_ne, setL_ne, ne_eq, Nat.reduceEqDiff, not_false_eq_true, pk_us, pk_un]; done) | ((try simp (disch := omega) only [setR_at, setR_twice, setL_at, setL_twice, setR_2, setL_1, setR_ne, setL_ne, ne_eq, Nat.reduceEqDiff, not_false_eq_true, pk_us, pk_un]); refine Prod.ext (funext fun z => ?_) rfl; simp only [setR]; (repeat' split) <;> first | rfl | (exfalso; omega))) ?_
    refine aw_ist (pc := 14) (k := k) C (k) (setR σ 22 (upd (fillF (σ.1 20) (σ.1 22) k) k (σ.1 20 k))) sh76 dX9_row_14 rfl (by omega) rfl (by first | rfl | (simp (disch := omega) only [setR_at, setR_twice, setL_at, setL_twice, setR_2, setL_1, setR_ne, setL_ne, ne_eq, Nat.reduceEqDiff, not_false_eq_true, pk_us, pk_un]; done) | ((try simp (disch := omega) only [setR_at, setR_twice, setL_at, setL_twice, setR_2, setL_1, setR_ne, setL_ne, ne_eq, Nat.reduceEqDiff, not_false_eq_true, pk_us, pk_un]); refine Prod.ext (funext fun z => ?_) rfl; simp only [setR]; (repeat' split) <;> first | rfl | (exfalso; omega))) ?_
    refine aw_iincN (pc := 15) C 0 k [(2, .int (nI (k + 1))), (0, .ref 74), (1, .ref 76)] dX9_row_15 rfl rfl rfl (Nat.le_of_ble_eq_true rfl) rfl ?_
    refine aw_goto (pc := 18) C 2 dX9_row_18 (by decide) ?_
    refine aw_lvs C [0, 1, 2] [(2, .int (nI (k + 1))), (0, .ref 74), (1, .ref 76)] rfl ?_
    exact aw_conv (σ' := setR σ 22 (fillF (σ.1 20) (σ.1 22) (k + 1))) (lv' := [(2, .int (nI (k + 1))), (0, .ref 74), (1, .ref 76)]) (by rw [fillF_s]) rfl rfl ih2
theorem c_X9_row_76_74 (σ : St) : AMet Y_X9_row [.ref 76, .ref 74] σ (fz none (setR σ 20 (σ.1 22))) := by
  refine am_intro (by decide +kernel) (Nat.le_of_ble_eq_true rfl) (fun K C => ?_)
  refine aw_iconst (pc := 0) (v := 0) C dX9_row_0 rfl ?_
  refine aw_istore_n (pc := 1) C [(2, .int 0), (0, .ref 76), (1, .ref 74)] dX9_row_1 (Nat.le_of_ble_eq_true rfl) rfl ?_
  refine aw_lvs C [0, 1, 2] [(2, .int 0), (0, .ref 76), (1, .ref 74)] rfl ?_
  refine aw_conv (σ' := setR σ 20 (fillF (σ.1 22) (σ.1 20) 0)) (lv' := [(2, .int (nI 0)), (0, .ref 76), (1, .ref 74)]) (by rw [fillF_0, setR_same]) rfl rfl ?_
  refine loop_up (P := fun k => AW _ K _ (setR σ 20 (fillF (σ.1 22) (σ.1 20) k)) 2 [(2, .int (nI k)), (0, .ref 76), (1, .ref 74)] []) 265 ?_ ?_ 0 (by omega) 
  · refine aw_iload_n (pc := 2) C 0 dX9_row_2 rfl ?_
    refine aw_sipush (pc := 3) (v := 265) C dX9_row_3 rfl ?_
    refine aw_icmp_geN (pc := 6) C 265 265 21 rfl rfl (by omega) (by omega) dX9_row_6 (by decide) (fun h6 => ?_) (fun h6 => absurd h6 (by omega))
    refine aw_fx 20 (fillF (σ.1 22) (σ.1 20) 265) (σ.1 22) (fun k hk => fillF_in hk) ?_
    exact aw_vret (pc := 21) C rfl dX9_row_21 rfl
  · intro k hk2 ih2 
    refine aw_iload_n (pc := 2) C 0 dX9_row_2 rfl ?_
    refine aw_sipush (pc := 3) (v := 265) C dX9_row_3 rfl ?_
    refine aw_icmp_geN (pc := 6) C k 265 21 rfl rfl (by omega) (by omega) dX9_row_6 (by decide) (fun h6 => absurd h6 (by omega)) (fun h6 => ?_)
    refine aw_aload_n (pc := 9) C 2 dX9_row_9 rfl ?_
    refine aw_iload_n (pc := 10) C 0 dX9_row_10 rfl ?_
    refine aw_aload_n (pc := 11) C 1 dX9_row_11 rfl ?_
    refine aw_iload_n (pc := 12) C 0 dX9_row_12 rfl ?_
    refine aw_ild (pc := 13) (k := k) C (k) (σ.1 22 k) sh76 dX9_row_13 rfl (by omega) rfl (by first | rfl | (simp (disch := omega) only [setR_at, setR_twice, setL_at, setL_twice, setR_2, setL_1, setR_ne, setL_ne, ne_eq, Nat.reduceEqDiff, not_false_eq_true, pk_us, pk_un]; done) | ((try simp (disch := omega) only [setR_at, setR_twice, setL_at, setL_twice, setR_2, setL_1, setR_ne, setL_ne, ne_eq, Nat.reduceEqDiff, not_false_eq_true, pk_us, pk_un]); refine Prod.ext (funext fun z => ?_) rfl; simp only [setR]; (repeat' split) <;> first | rfl | (exfalso; omega))) ?_
    refine aw_ist (pc := 14) (k := k) C (k) (setR σ 20 (upd (fillF (σ.1 22) (σ.1 20) k) k (σ.1 22 k))) sh74 dX9_row_14 rfl (by omega) rfl (by first | rfl | (simp (disch := omega) only [setR_at, setR_twice, setL_at, setL_twice, setR_2, setL_1, setR_ne, setL_ne, ne_eq, Nat.reduceEqDiff, not_false_eq_true, pk_us, pk_un]; done) | ((try simp (disch := omega) only [setR_at, setR_twice, setL_at, setL_twice, setR_2, setL_1, setR_ne, setL_ne, ne_eq, Nat.reduceEqDiff, not_false_eq_true, pk_us, pk_un]); refine Prod.ext (funext fun z => ?_) rfl; simp only [setR]; (repeat' split) <;> first | rfl | (exfalso; omega))) ?_
    refine aw_iincN (pc := 15) C 0 k [(2, .int (nI (k + 1))), (0, .ref 76), (1, .ref 74)] dX9_row_15 rfl rfl rfl (Nat.le_of_ble_eq_true rfl) rfl ?_
    refine aw_goto (pc := 18) C 2 dX9_row_18 (by decide) ?_
    refine aw_lvs C [0, 1, 2] [(2, .int (nI (k + 1))), (0, .ref 76), (1, .ref 74)] rfl ?_
    exact aw_conv (σ' := setR σ 20 (fillF (σ.1 22) (σ.1 20) (k + 1))) (lv' := [(2, .int (nI (k + 1))), (0, .ref 76), (1, .ref 74)]) (by rw [fillF_s]) rfl rfl ih2
theorem c_X9_row_74_75 (σ : St) : AMet Y_X9_row [.ref 74, .ref 75] σ (fz none (setR σ 21 (σ.1 20))) := by
  refine am_intro (by decide +kernel) (Nat.le_of_ble_eq_true rfl) (fun K C => ?_)
  refine aw_iconst (pc := 0) (v := 0) C dX9_row_0 rfl ?_
  refine aw_istore_n (pc := 1) C [(2, .int 0), (0, .ref 74), (1, .ref 75)] dX9_row_1 (Nat.le_of_ble_eq_true rfl) rfl ?_
  refine aw_lvs C [0, 1, 2] [(2, .int 0), (0, .ref 74), (1, .ref 75)] rfl ?_
  refine aw_conv (σ' := setR σ 21 (fillF (σ.1 20) (σ.1 21) 0)) (lv' := [(2, .int (nI 0)), (0, .ref 74), (1, .ref 75)]) (by rw [fillF_0, setR_same]) rfl rfl ?_
  refine loop_up (P := fun k => AW _ K _ (setR σ 21 (fillF (σ.1 20) (σ.1 21) k)) 2 [(2, .int (nI k)), (0, .ref 74), (1, .ref 75)] []) 265 ?_ ?_ 0 (by omega) 
  · refine aw_iload_n (pc := 2) C 0 dX9_row_2 rfl ?_
    refine aw_sipush (pc := 3) (v := 265) C dX9_row_3 rfl ?_
    refine aw_icmp_geN (pc := 6) C 265 265 21 rfl rfl (by omega) (by omega) dX9_row_6 (by decide) (fun h6 => ?_) (fun h6 => absurd h6 (by omega))
    refine aw_fx 21 (fillF (σ.1 20) (σ.1 21) 265) (σ.1 20) (fun k hk => fillF_in hk) ?_
    exact aw_vret (pc := 21) C rfl dX9_row_21 rfl
  · intro k hk2 ih2 
    refine aw_iload_n (pc := 2) C 0 dX9_row_2 rfl ?_
    refine aw_sipush (pc := 3) (v := 265) C dX9_row_3 rfl ?_
    refine aw_icmp_geN (pc := 6) C k 265 21 rfl rfl (by omega) (by omega) dX9_row_6 (by decide) (fun h6 => absurd h6 (by omega)) (fun h6 => ?_)
    refine aw_aload_n (pc := 9) C 2 dX9_row_9 rfl ?_
    refine aw_iload_n (pc := 10) C 0 dX9_row_10 rfl ?_
    refine aw_aload_n (pc := 11) C 1 dX9_row_11 rfl ?_
    refine aw_iload_n (pc := 12) C 0 dX9_row_12 rfl ?_
    refine aw_ild (pc := 13) (k := k) C (k) (σ.1 20 k) sh74 dX9_row_13 rfl (by omega) rfl (by first | rfl | (simp (disch := omega) only [setR_at, setR_twice, setL_at, setL_twice, setR_2, setL_1, setR_ne, setL_ne, ne_eq, Nat.reduceEqDiff, not_false_eq_true, pk_us, pk_un]; done) | ((try simp (disch := omega) only [setR_at, setR_twice, setL_at, setL_twice, setR_2, setL_1, setR_ne, setL_ne, ne_eq, Nat.reduceEqDiff, not_false_eq_true, pk_us, pk_un]); refine Prod.ext (funext fun z => ?_) rfl; simp only [setR]; (repeat' split) <;> first | rfl | (exfalso; omega))) ?_
    refine aw_ist (pc := 14) (k := k) C (k) (setR σ 21 (upd (fillF (σ.1 20) (σ.1 21) k) k (σ.1 20 k))) sh75 dX9_row_14 rfl (by omega) rfl (by first | rfl | (simp (disch := omega) only [setR_at, setR_twice, setL_at, setL_twice, setR_2, setL_1, setR_ne, setL_ne, ne_eq, Nat.reduceEqDiff, not_false_eq_true, pk_us, pk_un]; done) | ((try simp (disch := omega) only [setR_at, setR_twice, setL_at, setL_twice, setR_2, setL_1, setR_ne, setL_ne, ne_eq, Nat.reduceEqDiff, not_false_eq_true, pk_us, pk_un]); refine Prod.ext (funext fun z => ?_) rfl; simp only [setR]; (repeat' split) <;> first | rfl | (exfalso; omega))) ?_
    refine aw_iincN (pc := 15) C 0 k [(2, .int (nI (k + 1))), (0, .ref 74), (1, .ref 75)] dX9_row_15 rfl rfl rfl (Nat.le_of_ble_eq_true rfl) rfl ?_
    refine aw_goto (pc := 18) C 2 dX9_row_18 (by decide) ?_
    refine aw_lvs C [0, 1, 2] [(2, .int (nI (k + 1))), (0, .ref 74), (1, .ref 75)] rfl ?_
    exact aw_conv (σ' := setR σ 21 (fillF (σ.1 20) (σ.1 21) (k + 1))) (lv' := [(2, .int (nI (k + 1))), (0, .ref 74), (1, .ref 75)]) (by rw [fillF_s]) rfl rfl ih2
theorem c_X9_row_75_74 (σ : St) : AMet Y_X9_row [.ref 75, .ref 74] σ (fz none (setR σ 20 (σ.1 21))) := by
  refine am_intro (by decide +kernel) (Nat.le_of_ble_eq_true rfl) (fun K C => ?_)
  refine aw_iconst (pc := 0) (v := 0) C dX9_row_0 rfl ?_
  refine aw_istore_n (pc := 1) C [(2, .int 0), (0, .ref 75), (1, .ref 74)] dX9_row_1 (Nat.le_of_ble_eq_true rfl) rfl ?_
  refine aw_lvs C [0, 1, 2] [(2, .int 0), (0, .ref 75), (1, .ref 74)] rfl ?_
  refine aw_conv (σ' := setR σ 20 (fillF (σ.1 21) (σ.1 20) 0)) (lv' := [(2, .int (nI 0)), (0, .ref 75), (1, .ref 74)]) (by rw [fillF_0, setR_same]) rfl rfl ?_
  refine loop_up (P := fun k => AW _ K _ (setR σ 20 (fillF (σ.1 21) (σ.1 20) k)) 2 [(2, .int (nI k)), (0, .ref 75), (1, .ref 74)] []) 265 ?_ ?_ 0 (by omega) 
  · refine aw_iload_n (pc := 2) C 0 dX9_row_2 rfl ?_
    refine aw_sipush (pc := 3) (v := 265) C dX9_row_3 rfl ?_
    refine aw_icmp_geN (pc := 6) C 265 265 21 rfl rfl (by omega) (by omega) dX9_row_6 (by decide) (fun h6 => ?_) (fun h6 => absurd h6 (by omega))
    refine aw_fx 20 (fillF (σ.1 21) (σ.1 20) 265) (σ.1 21) (fun k hk => fillF_in hk) ?_
    exact aw_vret (pc := 21) C rfl dX9_row_21 rfl
  · intro k hk2 ih2 
    refine aw_iload_n (pc := 2) C 0 dX9_row_2 rfl ?_
    refine aw_sipush (pc := 3) (v := 265) C dX9_row_3 rfl ?_
    refine aw_icmp_geN (pc := 6) C k 265 21 rfl rfl (by omega) (by omega) dX9_row_6 (by decide) (fun h6 => absurd h6 (by omega)) (fun h6 => ?_)
    refine aw_aload_n (pc := 9) C 2 dX9_row_9 rfl ?_
    refine aw_iload_n (pc := 10) C 0 dX9_row_10 rfl ?_
    refine aw_aload_n (pc := 11) C 1 dX9_row_11 rfl ?_
    refine aw_iload_n (pc := 12) C 0 dX9_row_12 rfl ?_
    refine aw_ild (pc := 13) (k := k) C (k) (σ.1 21 k) sh75 dX9_row_13 rfl (by omega) rfl (by first | rfl | (simp (disch := omega) only [setR_at, setR_twice, setL_at, setL_twice, setR_2, setL_1, setR_ne, setL_ne, ne_eq, Nat.reduceEqDiff, not_false_eq_true, pk_us, pk_un]; done) | ((try simp (disch := omega) only [setR_at, setR_twice, setL_at, setL_twice, setR_2, setL_1, setR_ne, setL_ne, ne_eq, Nat.reduceEqDiff, not_false_eq_true, pk_us, pk_un]); refine Prod.ext (funext fun z => ?_) rfl; simp only [setR]; (repeat' split) <;> first | rfl | (exfalso; omega))) ?_
    refine aw_ist (pc := 14) (k := k) C (k) (setR σ 20 (upd (fillF (σ.1 21) (σ.1 20) k) k (σ.1 21 k))) sh74 dX9_row_14 rfl (by omega) rfl (by first | rfl | (simp (disch := omega) only [setR_at, setR_twice, setL_at, setL_twice, setR_2, setL_1, setR_ne, setL_ne, ne_eq, Nat.reduceEqDiff, not_false_eq_true, pk_us, pk_un]; done) | ((try simp (disch := omega) only [setR_at, setR_twice, setL_at, setL_twice, setR_2, setL_1, setR_ne, setL_ne, ne_eq, Nat.reduceEqDiff, not_false_eq_true, pk_us, pk_un]); refine Prod.ext (funext fun z => ?_) rfl; simp only [setR]; (repeat' split) <;> first | rfl | (exfalso; omega))) ?_
    refine aw_iincN (pc := 15) C 0 k [(2, .int (nI (k + 1))), (0, .ref 75), (1, .ref 74)] dX9_row_15 rfl rfl rfl (Nat.le_of_ble_eq_true rfl) rfl ?_
    refine aw_goto (pc := 18) C 2 dX9_row_18 (by decide) ?_
    refine aw_lvs C [0, 1, 2] [(2, .int (nI (k + 1))), (0, .ref 75), (1, .ref 74)] rfl ?_
    exact aw_conv (σ' := setR σ 20 (fillF (σ.1 21) (σ.1 20) (k + 1))) (lv' := [(2, .int (nI (k + 1))), (0, .ref 75), (1, .ref 74)]) (by rw [fillF_s]) rfl rfl ih2
theorem c_X9_home (σ : St) (n : Nat) (hn : σ.1 20 2 = nI n) (hz : n ≤ 6) : AMet Y_X9_home [.ref 73] σ (fz (some (.int (homeS (σ.1 20) n))) (σ)) := by
  refine am_intro (by decide +kernel) (Nat.le_of_ble_eq_true rfl) (fun K C => ?_)
  refine aw_iconst (pc := 0) (v := 0) C dX9_home_0 rfl ?_
  refine aw_istore_n (pc := 1) C [(1, .int 0), (0, .ref 73)] dX9_home_1 (Nat.le_of_ble_eq_true rfl) rfl ?_
  refine aw_iconst (pc := 2) (v := 0) C dX9_home_2 rfl ?_
  refine aw_istore_n (pc := 3) C [(2, .int 0), (1, .int 0), (0, .ref 73)] dX9_home_3 (Nat.le_of_ble_eq_true rfl) rfl ?_
  refine aw_lvs C [0, 1, 2] [(2, .int 0), (1, .int 0), (0, .ref 73)] rfl ?_
  refine aw_conv (σ' := σ) (lv' := [(2, .int (nI 0)), (1, .int (homeS (σ.1 20) 0)), (0, .ref 73)]) rfl rfl rfl ?_
  refine loop_up (P := fun k => AW _ K _ (σ) 4 [(2, .int (nI k)), (1, .int (homeS (σ.1 20) k)), (0, .ref 73)] []) n ?_ ?_ 0 (by omega) 
  · refine aw_iload_n (pc := 4) C 0 dX9_home_4 rfl ?_
    refine aw_aload_n (pc := 5) C 2 dX9_home_5 rfl ?_
    refine aw_getR (pc := 6) C fl_X9_9 sh73 rfl dX9_home_6 ?_
    refine aw_iconst (pc := 9) (v := 2) C dX9_home_9 rfl ?_
    refine aw_ild (pc := 10) (k := 2) C (2) (σ.1 20 2) sh74 dX9_home_10 rfl (by omega) rfl rfl ?_
    refine aw_top C (nI (n)) hn ?_
    refine aw_icmp_geN (pc := 11) C n n 38 rfl rfl (by omega) (by omega) dX9_home_11 (by decide) (fun h11 => ?_) (fun h11 => absurd h11 (by omega))
    refine aw_iload_n (pc := 38) C 1 dX9_home_38 rfl ?_
    exact aw_iret (pc := 39) C rfl dX9_home_39 rfl rfl
  · intro k hk4 ih4 
    refine aw_iload_n (pc := 4) C 0 dX9_home_4 rfl ?_
    refine aw_aload_n (pc := 5) C 2 dX9_home_5 rfl ?_
    refine aw_getR (pc := 6) C fl_X9_9 sh73 rfl dX9_home_6 ?_
    refine aw_iconst (pc := 9) (v := 2) C dX9_home_9 rfl ?_
    refine aw_ild (pc := 10) (k := 2) C (2) (σ.1 20 2) sh74 dX9_home_10 rfl (by omega) rfl rfl ?_
    refine aw_top C (nI (n)) hn ?_
    refine aw_icmp_geN (pc := 11) C k n 38 rfl rfl (by omega) (by omega) dX9_home_11 (by decide) (fun h11 => absurd h11 (by omega)) (fun h11 => ?_)
    refine aw_iload_n (pc := 14) C 1 dX9_home_14 rfl ?_
    refine aw_aload_n (pc := 15) C 2 dX9_home_15 rfl ?_
    refine aw_iload_n (pc := 16) C 0 dX9_home_16 rfl ?_
    refine aw_cVI (pc := 17) C (c_X9_isHome _ k (by omega)) lk_X9_126 sh73 rfl dX9_home_17 (by decide) (Nat.le_of_ble_eq_true rfl) rfl rfl ?_
    refine aw_if_eqB (pc := 20) C 29 dX9_home_20 (by decide) (fun h20 => ?_) (fun h20 => ?_)
    · refine aw_iconst (pc := 29) (v := 0) C dX9_home_29 rfl ?_
      refine aw_ior (pc := 30) C dX9_home_30 ?_
      refine aw_istore_n (pc := 31) C [(1, .int ((homeS (σ.1 20) k) ||| 0)), (2, .int (nI k)), (0, .ref 73)] dX9_home_31 (Nat.le_of_ble_eq_true rfl) rfl ?_
      refine aw_iincN (pc := 32) C 1 k [(2, .int (nI (k + 1))), (1, .int ((homeS (σ.1 20) k) ||| 0)), (0, .ref 73)] dX9_home_32 rfl rfl rfl (Nat.le_of_ble_eq_true rfl) rfl ?_
      refine aw_goto (pc := 35) C 4 dX9_home_35 (by decide) ?_
      refine aw_lvs C [0, 1, 2] [(2, .int (nI (k + 1))), (1, .int ((homeS (σ.1 20) k) ||| 0)), (0, .ref 73)] rfl ?_
      exact aw_conv (σ' := σ) (lv' := [(2, .int (nI (k + 1))), (1, .int (homeS (σ.1 20) (k + 1))), (0, .ref 73)]) rfl (by rw [homeS, if_neg h20]) rfl ih4
    · refine aw_iconst (pc := 23) (v := 1) C dX9_home_23 rfl ?_
      refine aw_iload_n (pc := 24) C 0 dX9_home_24 rfl ?_
      refine aw_ishl (pc := 25) C dX9_home_25 ?_
      refine aw_goto (pc := 26) C 30 dX9_home_26 (by decide) ?_
      refine aw_ior (pc := 30) C dX9_home_30 ?_
      refine aw_istore_n (pc := 31) C [(1, .int ((homeS (σ.1 20) k) ||| (1 <<< (nI (k) &&& 31)))), (2, .int (nI k)), (0, .ref 73)] dX9_home_31 (Nat.le_of_ble_eq_true rfl) rfl ?_
      refine aw_iincN (pc := 32) C 1 k [(2, .int (nI (k + 1))), (1, .int ((homeS (σ.1 20) k) ||| (1 <<< (nI (k) &&& 31)))), (0, .ref 73)] dX9_home_32 rfl rfl rfl (Nat.le_of_ble_eq_true rfl) rfl ?_
      refine aw_goto (pc := 35) C 4 dX9_home_35 (by decide) ?_
      refine aw_lvs C [0, 1, 2] [(2, .int (nI (k + 1))), (1, .int ((homeS (σ.1 20) k) ||| (1 <<< (nI (k) &&& 31)))), (0, .ref 73)] rfl ?_
      exact aw_conv (σ' := σ) (lv' := [(2, .int (nI (k + 1))), (1, .int (homeS (σ.1 20) (k + 1))), (0, .ref 73)]) rfl (by rw [homeS, if_pos h20]) rfl ih4
theorem c_X9_many (σ : St) (x : Int32) : AMet Y_X9_many [.int x] σ (fz (some (.int (manyS x 6))) (σ)) := by
  refine am_intro (by decide +kernel) (Nat.le_of_ble_eq_true rfl) (fun K C => ?_)
  refine aw_iconst (pc := 0) (v := 0) C dX9_many_0 rfl ?_
  refine aw_istore_n (pc := 1) C [(1, .int 0), (0, .int x)] dX9_many_1 (Nat.le_of_ble_eq_true rfl) rfl ?_
  refine aw_iconst (pc := 2) (v := 0) C dX9_many_2 rfl ?_
  refine aw_istore_n (pc := 3) C [(2, .int 0), (1, .int 0), (0, .int x)] dX9_many_3 (Nat.le_of_ble_eq_true rfl) rfl ?_
  refine aw_lvs C [0, 1, 2] [(2, .int 0), (1, .int 0), (0, .int x)] rfl ?_
  refine aw_conv (σ' := σ) (lv' := [(2, .int (nI 0)), (1, .int (manyS x 0)), (0, .int x)]) rfl rfl rfl ?_
  refine loop_up (P := fun k => AW _ K _ (σ) 4 [(2, .int (nI k)), (1, .int (manyS x k)), (0, .int x)] []) 6 ?_ ?_ 0 (by omega) 
  · refine aw_iload_n (pc := 4) C 0 dX9_many_4 rfl ?_
    refine aw_bipush (pc := 5) (v := 6) C dX9_many_5 rfl ?_
    refine aw_icmp_geN (pc := 7) C 6 6 24 rfl rfl (by omega) (by omega) dX9_many_7 (by decide) (fun h7 => ?_) (fun h7 => absurd h7 (by omega))
    refine aw_iload_n (pc := 24) C 1 dX9_many_24 rfl ?_
    exact aw_iret (pc := 25) C rfl dX9_many_25 rfl rfl
  · intro k hk4 ih4 
    refine aw_iload_n (pc := 4) C 0 dX9_many_4 rfl ?_
    refine aw_bipush (pc := 5) (v := 6) C dX9_many_5 rfl ?_
    refine aw_icmp_geN (pc := 7) C k 6 24 rfl rfl (by omega) (by omega) dX9_many_7 (by decide) (fun h7 => absurd h7 (by omega)) (fun h7 => ?_)
    refine aw_iload_n (pc := 10) C 1 dX9_many_10 rfl ?_
    refine aw_iload_n (pc := 11) C 2 dX9_many_11 rfl ?_
    refine aw_iload_n (pc := 12) C 0 dX9_many_12 rfl ?_
    refine aw_ishr (pc := 13) C dX9_many_13 ?_
    refine aw_iconst (pc := 14) (v := 1) C dX9_many_14 rfl ?_
    refine aw_iand (pc := 15) C dX9_many_15 ?_
    refine aw_iadd (pc := 16) C dX9_many_16 ?_
    refine aw_istore_n (pc := 17) C [(1, .int ((manyS x k) + ((x >>> (nI (k) &&& 31)) &&& 1))), (2, .int (nI k)), (0, .int x)] dX9_many_17 (Nat.le_of_ble_eq_true rfl) rfl ?_
    refine aw_iincN (pc := 18) C 1 k [(2, .int (nI (k + 1))), (1, .int ((manyS x k) + ((x >>> (nI (k) &&& 31)) &&& 1))), (0, .int x)] dX9_many_18 rfl rfl rfl (Nat.le_of_ble_eq_true rfl) rfl ?_
    refine aw_goto (pc := 21) C 4 dX9_many_21 (by decide) ?_
    refine aw_lvs C [0, 1, 2] [(2, .int (nI (k + 1))), (1, .int ((manyS x k) + ((x >>> (nI (k) &&& 31)) &&& 1))), (0, .int x)] rfl ?_
    exact aw_conv (σ' := σ) (lv' := [(2, .int (nI (k + 1))), (1, .int (manyS x (k + 1))), (0, .int x)]) rfl rfl rfl ih4
theorem c_X9_starts (σ : St) (n : Nat) (hn : σ.1 20 2 = nI n) (hz : n ≤ 6) : AMet Y_X9_starts [.ref 73] σ (fz none (setR σ 20 (startM (σ.1 20) n))) := by
  refine am_intro (by decide +kernel) (Nat.le_of_ble_eq_true rfl) (fun K C => ?_)
  refine aw_iconst (pc := 0) (v := 0) C dX9_starts_0 rfl ?_
  refine aw_istore_n (pc := 1) C [(1, .int 0), (0, .ref 73)] dX9_starts_1 (Nat.le_of_ble_eq_true rfl) rfl ?_
  refine aw_lvs C [0, 1] [(1, .int 0), (0, .ref 73)] rfl ?_
  refine aw_conv (σ' := setR σ 20 (startM (σ.1 20) 0)) (lv' := [(1, .int (nI 0)), (0, .ref 73)]) (setR_same σ 20).symm rfl rfl ?_
  refine loop_up (P := fun k => AW _ K _ (setR σ 20 (startM (σ.1 20) k)) 2 [(1, .int (nI k)), (0, .ref 73)] []) n ?_ ?_ 0 (by omega) 
  · refine aw_iload_n (pc := 2) C 0 dX9_starts_2 rfl ?_
    refine aw_aload_n (pc := 3) C 1 dX9_starts_3 rfl ?_
    refine aw_getR (pc := 4) C fl_X9_9 sh73 rfl dX9_starts_4 ?_
    refine aw_iconst (pc := 7) (v := 2) C dX9_starts_7 rfl ?_
    refine aw_ild (pc := 8) (k := 2) C (2) ((startM (σ.1 20) n) 2) sh74 dX9_starts_8 rfl (by omega) rfl (by first | rfl | (simp (disch := omega) only [setR_at, setR_twice, setL_at, setL_twice, setR_2, setL_1, setR_ne, setL_ne, ne_eq, Nat.reduceEqDiff, not_false_eq_true, pk_us, pk_un]; done) | ((try simp (disch := omega) only [setR_at, setR_twice, setL_at, setL_twice, setR_2, setL_1, setR_ne, setL_ne, ne_eq, Nat.reduceEqDiff, not_false_eq_true, pk_us, pk_un]); refine Prod.ext (funext fun z => ?_) rfl; simp only [setR]; (repeat' split) <;> first | rfl | (exfalso; omega))) ?_
    refine aw_top C (nI n) (by rw [startM_off (fun r _ => by omega)]; exact hn) ?_
    refine aw_icmp_geN (pc := 9) C n n 39 rfl rfl (by omega) (by omega) dX9_starts_9 (by decide) (fun h9 => ?_) (fun h9 => absurd h9 (by omega))
    exact aw_vret (pc := 39) C rfl dX9_starts_39 rfl
  · intro k hk2 ih2 
    refine aw_iload_n (pc := 2) C 0 dX9_starts_2 rfl ?_
    refine aw_aload_n (pc := 3) C 1 dX9_starts_3 rfl ?_
    refine aw_getR (pc := 4) C fl_X9_9 sh73 rfl dX9_starts_4 ?_
    refine aw_iconst (pc := 7) (v := 2) C dX9_starts_7 rfl ?_
    refine aw_ild (pc := 8) (k := 2) C (2) ((startM (σ.1 20) k) 2) sh74 dX9_starts_8 rfl (by omega) rfl (by first | rfl | (simp (disch := omega) only [setR_at, setR_twice, setL_at, setL_twice, setR_2, setL_1, setR_ne, setL_ne, ne_eq, Nat.reduceEqDiff, not_false_eq_true, pk_us, pk_un]; done) | ((try simp (disch := omega) only [setR_at, setR_twice, setL_at, setL_twice, setR_2, setL_1, setR_ne, setL_ne, ne_eq, Nat.reduceEqDiff, not_false_eq_true, pk_us, pk_un]); refine Prod.ext (funext fun z => ?_) rfl; simp only [setR]; (repeat' split) <;> first | rfl | (exfalso; omega))) ?_
    refine aw_top C (nI n) (by rw [startM_off (fun r _ => by omega)]; exact hn) ?_
    refine aw_icmp_geN (pc := 9) C k n 39 rfl rfl (by omega) (by omega) dX9_starts_9 (by decide) (fun h9 => absurd h9 (by omega)) (fun h9 => ?_)
    refine aw_iconst (pc := 12) (v := 3) C dX9_starts_12 rfl ?_
    refine aw_istore_n (pc := 13) C [(2, .int 3), (1, .int (nI k)), (0, .ref 73)] dX9_starts_13 (Nat.le_of_ble_eq_true rfl) rfl ?_
    refine aw_iload_n (pc := 14) C 0 dX9_starts_14 rfl ?_
    refine aw_bipush (pc := 15) (v := 6) C dX9_starts_15 rfl ?_
    refine aw_icmp_gt (pc := 17) C 33 dX9_starts_17 (by decide) (fun h17 => absurd h17 (by decide)) (fun h17 => ?_)
    refine aw_aload_n (pc := 20) C 2 dX9_starts_20 rfl ?_
    refine aw_iload_n (pc := 21) C 1 dX9_starts_21 rfl ?_
    refine aw_iload_n (pc := 22) C 0 dX9_starts_22 rfl ?_
    refine aw_iconst (pc := 23) (v := 0) C dX9_starts_23 rfl ?_
    refine aw_cV0 (pc := 24) C (c_X9_makes _ k 3 0 (by omega)) lk_X9_77 sh73 rfl dX9_starts_24 (by decide) (Nat.le_of_ble_eq_true rfl) rfl rfl ?_
    refine aw_conv (σ' := setR σ 20 (upd (startM (σ.1 20) k) (33 + 37 * k + 3) (0))) (st' := []) (by first | rfl | (simp (disch := omega) only [setR_at, setR_twice, setL_at, setL_twice, setR_2, setL_1, setR_ne, setL_ne, ne_eq, Nat.reduceEqDiff, not_false_eq_true, pk_us, pk_un]; done) | ((try simp (disch := omega) only [setR_at, setR_twice, setL_at, setL_twice, setR_2, setL_1, setR_ne, setL_ne, ne_eq, Nat.reduceEqDiff, not_false_eq_true, pk_us, pk_un]); refine Prod.ext (funext fun z => ?_) rfl; simp only [setR]; (repeat' split) <;> first | rfl | (exfalso; omega))) rfl (by first | rfl | (simp (disch := omega) only [setR_at, setR_twice, setL_at, setL_twice, setR_2, setL_1, setR_ne, setL_ne, ne_eq, Nat.reduceEqDiff, not_false_eq_true, pk_us, pk_un]; done) | ((try simp (disch := omega) only [setR_at, setR_twice, setL_at, setL_twice, setR_2, setL_1, setR_ne, setL_ne, ne_eq, Nat.reduceEqDiff, not_false_eq_true, pk_us, pk_un]); refine Prod.ext (funext fun z => ?_) rfl; simp only [setR]; (repeat' split) <;> first | rfl | (exfalso; omega))) ?_
    refine aw_iinc (pc := 27) C 0 4 [(2, .int 4), (1, .int (nI k)), (0, .ref 73)] dX9_starts_27 rfl (by decide) (Nat.le_of_ble_eq_true rfl) rfl ?_
    refine aw_goto (pc := 30) C 14 dX9_starts_30 (by decide) ?_
    refine aw_iload_n (pc := 14) C 0 dX9_starts_14 rfl ?_
    refine aw_bipush (pc := 15) (v := 6) C dX9_starts_15 rfl ?_
    refine aw_icmp_gt (pc := 17) C 33 dX9_starts_17 (by decide) (fun h17 => absurd h17 (by decide)) (fun h17 => ?_)
    refine aw_aload_n (pc := 20) C 2 dX9_starts_20 rfl ?_
    refine aw_iload_n (pc := 21) C 1 dX9_starts_21 rfl ?_
    refine aw_iload_n (pc := 22) C 0 dX9_starts_22 rfl ?_
    refine aw_iconst (pc := 23) (v := 0) C dX9_starts_23 rfl ?_
    refine aw_cV0 (pc := 24) C (c_X9_makes _ k 4 0 (by omega)) lk_X9_77 sh73 rfl dX9_starts_24 (by decide) (Nat.le_of_ble_eq_true rfl) rfl rfl ?_
    refine aw_conv (σ' := setR σ 20 (upd (upd (startM (σ.1 20) k) (33 + 37 * k + 3) (0)) (33 + 37 * k + 4) (0))) (st' := []) (by first | rfl | (simp (disch := omega) only [setR_at, setR_twice, setL_at, setL_twice, setR_2, setL_1, setR_ne, setL_ne, ne_eq, Nat.reduceEqDiff, not_false_eq_true, pk_us, pk_un]; done) | ((try simp (disch := omega) only [setR_at, setR_twice, setL_at, setL_twice, setR_2, setL_1, setR_ne, setL_ne, ne_eq, Nat.reduceEqDiff, not_false_eq_true, pk_us, pk_un]); refine Prod.ext (funext fun z => ?_) rfl; simp only [setR]; (repeat' split) <;> first | rfl | (exfalso; omega))) rfl (by first | rfl | (simp (disch := omega) only [setR_at, setR_twice, setL_at, setL_twice, setR_2, setL_1, setR_ne, setL_ne, ne_eq, Nat.reduceEqDiff, not_false_eq_true, pk_us, pk_un]; done) | ((try simp (disch := omega) only [setR_at, setR_twice, setL_at, setL_twice, setR_2, setL_1, setR_ne, setL_ne, ne_eq, Nat.reduceEqDiff, not_false_eq_true, pk_us, pk_un]); refine Prod.ext (funext fun z => ?_) rfl; simp only [setR]; (repeat' split) <;> first | rfl | (exfalso; omega))) ?_
    refine aw_iinc (pc := 27) C 0 5 [(2, .int 5), (1, .int (nI k)), (0, .ref 73)] dX9_starts_27 rfl (by decide) (Nat.le_of_ble_eq_true rfl) rfl ?_
    refine aw_goto (pc := 30) C 14 dX9_starts_30 (by decide) ?_
    refine aw_iload_n (pc := 14) C 0 dX9_starts_14 rfl ?_
    refine aw_bipush (pc := 15) (v := 6) C dX9_starts_15 rfl ?_
    refine aw_icmp_gt (pc := 17) C 33 dX9_starts_17 (by decide) (fun h17 => absurd h17 (by decide)) (fun h17 => ?_)
    refine aw_aload_n (pc := 20) C 2 dX9_starts_20 rfl ?_
    refine aw_iload_n (pc := 21) C 1 dX9_starts_21 rfl ?_
    refine aw_iload_n (pc := 22) C 0 dX9_starts_22 rfl ?_
    refine aw_iconst (pc := 23) (v := 0) C dX9_starts_23 rfl ?_
    refine aw_cV0 (pc := 24) C (c_X9_makes _ k 5 0 (by omega)) lk_X9_77 sh73 rfl dX9_starts_24 (by decide) (Nat.le_of_ble_eq_true rfl) rfl rfl ?_
    refine aw_conv (σ' := setR σ 20 (upd (upd (upd (startM (σ.1 20) k) (33 + 37 * k + 3) (0)) (33 + 37 * k + 4) (0)) (33 + 37 * k + 5) (0))) (st' := []) (by first | rfl | (simp (disch := omega) only [setR_at, setR_twice, setL_at, setL_twice, setR_2, setL_1, setR_ne, setL_ne, ne_eq, Nat.reduceEqDiff, not_false_eq_true, pk_us, pk_un]; done) | ((try simp (disch := omega) only [setR_at, setR_twice, setL_at, setL_twice, setR_2, setL_1, setR_ne, setL_ne, ne_eq, Nat.reduceEqDiff, not_false_eq_true, pk_us, pk_un]); refine Prod.ext (funext fun z => ?_) rfl; simp only [setR]; (repeat' split) <;> first | rfl | (exfalso; omega))) rfl (by first | rfl | (simp (disch := omega) only [setR_at, setR_twice, setL_at, setL_twice, setR_2, setL_1, setR_ne, setL_ne, ne_eq, Nat.reduceEqDiff, not_false_eq_true, pk_us, pk_un]; done) | ((try simp (disch := omega) only [setR_at, setR_twice, setL_at, setL_twice, setR_2, setL_1, setR_ne, setL_ne, ne_eq, Nat.reduceEqDiff, not_false_eq_true, pk_us, pk_un]); refine Prod.ext (funext fun z => ?_) rfl; simp only [setR]; (repeat' split) <;> first | rfl | (exfalso; omega))) ?_
    refine aw_iinc (pc := 27) C 0 6 [(2, .int 6), (1, .int (nI k)), (0, .ref 73)] dX9_starts_27 rfl (by decide) (Nat.le_of_ble_eq_true rfl) rfl ?_
    refine aw_goto (pc := 30) C 14 dX9_starts_30 (by decide) ?_
    refine aw_iload_n (pc := 14) C 0 dX9_starts_14 rfl ?_
    refine aw_bipush (pc := 15) (v := 6) C dX9_starts_15 rfl ?_
    refine aw_icmp_gt (pc := 17) C 33 dX9_starts_17 (by decide) (fun h17 => absurd h17 (by decide)) (fun h17 => ?_)
    refine aw_aload_n (pc := 20) C 2 dX9_starts_20 rfl ?_
    refine aw_iload_n (pc := 21) C 1 dX9_starts_21 rfl ?_
    refine aw_iload_n (pc := 22) C 0 dX9_starts_22 rfl ?_
    refine aw_iconst (pc := 23) (v := 0) C dX9_starts_23 rfl ?_
    refine aw_cV0 (pc := 24) C (c_X9_makes _ k 6 0 (by omega)) lk_X9_77 sh73 rfl dX9_starts_24 (by decide) (Nat.le_of_ble_eq_true rfl) rfl rfl ?_
    refine aw_conv (σ' := setR σ 20 (upd (upd (upd (upd (startM (σ.1 20) k) (33 + 37 * k + 3) (0)) (33 + 37 * k + 4) (0)) (33 + 37 * k + 5) (0)) (33 + 37 * k + 6) (0))) (st' := []) (by first | rfl | (simp (disch := omega) only [setR_at, setR_twice, setL_at, setL_twice, setR_2, setL_1, setR_ne, setL_ne, ne_eq, Nat.reduceEqDiff, not_false_eq_true, pk_us, pk_un]; done) | ((try simp (disch := omega) only [setR_at, setR_twice, setL_at, setL_twice, setR_2, setL_1, setR_ne, setL_ne, ne_eq, Nat.reduceEqDiff, not_false_eq_true, pk_us, pk_un]); refine Prod.ext (funext fun z => ?_) rfl; simp only [setR]; (repeat' split) <;> first | rfl | (exfalso; omega))) rfl (by first | rfl | (simp (disch := omega) only [setR_at, setR_twice, setL_at, setL_twice, setR_2, setL_1, setR_ne, setL_ne, ne_eq, Nat.reduceEqDiff, not_false_eq_true, pk_us, pk_un]; done) | ((try simp (disch := omega) only [setR_at, setR_twice, setL_at, setL_twice, setR_2, setL_1, setR_ne, setL_ne, ne_eq, Nat.reduceEqDiff, not_false_eq_true, pk_us, pk_un]); refine Prod.ext (funext fun z => ?_) rfl; simp only [setR]; (repeat' split) <;> first | rfl | (exfalso; omega))) ?_
    refine aw_iinc (pc := 27) C 0 7 [(2, .int 7), (1, .int (nI k)), (0, .ref 73)] dX9_starts_27 rfl (by decide) (Nat.le_of_ble_eq_true rfl) rfl ?_
    refine aw_goto (pc := 30) C 14 dX9_starts_30 (by decide) ?_
    refine aw_iload_n (pc := 14) C 0 dX9_starts_14 rfl ?_
    refine aw_bipush (pc := 15) (v := 6) C dX9_starts_15 rfl ?_
    refine aw_icmp_gt (pc := 17) C 33 dX9_starts_17 (by decide) (fun h17 => ?_) (fun h17 => absurd h17 (by decide))
    refine aw_iincN (pc := 33) C 1 k [(1, .int (nI (k + 1))), (2, .int 7), (0, .ref 73)] dX9_starts_33 rfl rfl rfl (Nat.le_of_ble_eq_true rfl) rfl ?_
    refine aw_goto (pc := 36) C 2 dX9_starts_36 (by decide) ?_
    refine aw_lvs C [0, 2] [(1, .int (nI (k + 1))), (0, .ref 73)] rfl ?_
    exact aw_conv (σ' := setR σ 20 (startM (σ.1 20) (k + 1))) (lv' := [(1, .int (nI (k + 1))), (0, .ref 73)]) rfl rfl rfl ih2
