/-! the class: races, sets, what is counted, a MEET copied -/
theorem c_X2_go (σ : St) (j : Nat) (hj : j < 3) (n : Nat) (hok : Ok n (σ.1 j)) (N : Nat) (hN : N < 1000) : AMet Y_X2_go [.ref (25 + 16 * j), .int (nI N)] σ (fz (some (.int (goD n (σ.1 j) N))) (setR σ j (goM n (σ.1 j) N))) := by
  refine am_intro (by decide +kernel) (Nat.le_of_ble_eq_true rfl) (fun K C => ?_)
  have hz := hok.1
  have hn := hok.2.1
  refine aw_iconst (pc := 0) (v := 0) C dX2_go_0 rfl ?_
  refine aw_istore_n (pc := 1) C [(2, .int 0), (0, .ref (25 + 16 * j)), (1, .int (nI N))] dX2_go_1 (Nat.le_of_ble_eq_true rfl) rfl ?_
  refine aw_iconst (pc := 2) (v := 0) C dX2_go_2 rfl ?_
  refine aw_istore_n (pc := 3) C [(3, .int 0), (2, .int 0), (0, .ref (25 + 16 * j)), (1, .int (nI N))] dX2_go_3 (Nat.le_of_ble_eq_true rfl) rfl ?_
  refine aw_lvs C [0, 1, 2, 3] [(3, .int 0), (2, .int 0), (0, .ref (25 + 16 * j)), (1, .int (nI N))] rfl ?_
  refine aw_conv (σ' := setR σ j (goM n (σ.1 j) 0)) (lv' := [(3, .int (nI 0)), (2, .int (goD n (σ.1 j) 0)), (0, .ref (25 + 16 * j)), (1, .int (nI N))]) (setR_same σ j).symm rfl rfl ?_
  refine loop_up (P := fun k => AW _ K _ (setR σ j (goM n (σ.1 j) k)) 4 [(3, .int (nI k)), (2, .int (goD n (σ.1 j) k)), (0, .ref (25 + 16 * j)), (1, .int (nI N))] []) N ?_ ?_ 0 (by omega) 
  · refine aw_iload_n (pc := 4) C 0 dX2_go_4 rfl ?_
    refine aw_iload_n (pc := 5) C 3 dX2_go_5 rfl ?_
    refine aw_icmp_geN (pc := 6) C N N 38 rfl rfl (by omega) (by omega) dX2_go_6 (by decide) (fun h6 => ?_) (fun h6 => absurd h6 (by omega))
    refine aw_iload_n (pc := 38) C 1 dX2_go_38 rfl ?_
    exact aw_iret (pc := 39) C rfl dX2_go_39 rfl rfl
  · intro k hk4 ih4 
    refine aw_iload_n (pc := 4) C 0 dX2_go_4 rfl ?_
    refine aw_iload_n (pc := 5) C 3 dX2_go_5 rfl ?_
    refine aw_icmp_geN (pc := 6) C k N 38 rfl rfl (by omega) (by omega) dX2_go_6 (by decide) (fun h6 => absurd h6 (by omega)) (fun h6 => ?_)
    have hokk := hok.go k
    refine aw_aload_n (pc := 9) C 2 dX2_go_9 rfl ?_
    refine aw_cVI (pc := 10) C (c_X2_whoRuns _ j hj n (by simp (disch := omega) only [setR_at, setR_twice, setL_at, setL_twice, setR_2, setL_1, setR_ne, setL_ne, ne_eq, Nat.reduceEqDiff, not_false_eq_true, pk_us, pk_un]; exact hokk)) lk_X2_114 (shM hj) rfl dX2_go_10 (by decide) (Nat.le_of_ble_eq_true rfl) rfl rfl ?_
    refine aw_conv (σ' := setR σ j (goM n (σ.1 j) k)) (st' := [.int (oI (nxt (goM n (σ.1 j) k) n))]) (by first | with_reducible rfl | (simp (disch := omega) only [setR_at, setR_twice, setL_at, setL_twice, setR_2, setL_1, setR_ne, setL_ne, ne_eq, Nat.reduceEqDiff, not_false_eq_true, pk_us, pk_un]; done) | (simp (disch := omega) only [setR_at, setR_twice, setL_at, setL_twice, setR_2, setL_1, setR_ne, setL_ne, ne_eq, Nat.reduceEqDiff, not_false_eq_true, pk_us, pk_un, Option.toList_some, Option.toList_none, List.cons_append, List.nil_append]; done) | ((try simp (disch := omega) only [setR_at, setR_twice, setL_at, setL_twice, setR_2, setL_1, setR_ne, setL_ne, ne_eq, Nat.reduceEqDiff, not_false_eq_true, pk_us, pk_un]); refine Prod.ext (funext fun z => ?_) rfl; simp only [setR]; (repeat' split) <;> first | with_reducible rfl | (exfalso; omega)) | rfl) rfl (by first | with_reducible rfl | (simp (disch := omega) only [setR_at, setR_twice, setL_at, setL_twice, setR_2, setL_1, setR_ne, setL_ne, ne_eq, Nat.reduceEqDiff, not_false_eq_true, pk_us, pk_un]; done) | (simp (disch := omega) only [setR_at, setR_twice, setL_at, setL_twice, setR_2, setL_1, setR_ne, setL_ne, ne_eq, Nat.reduceEqDiff, not_false_eq_true, pk_us, pk_un, Option.toList_some, Option.toList_none, List.cons_append, List.nil_append]; done) | ((try simp (disch := omega) only [setR_at, setR_twice, setL_at, setL_twice, setR_2, setL_1, setR_ne, setL_ne, ne_eq, Nat.reduceEqDiff, not_false_eq_true, pk_us, pk_un]); refine Prod.ext (funext fun z => ?_) rfl; simp only [setR]; (repeat' split) <;> first | with_reducible rfl | (exfalso; omega)) | rfl) ?_
    rcases hb : nxt (goM n (σ.1 j) k) n with _ | b
    · refine aw_top C ((-1)) rfl ?_
      refine aw_istore (pc := 13) C [(4, .int ((-1))), (3, .int (nI k)), (2, .int (goD n (σ.1 j) k)), (0, .ref (25 + 16 * j)), (1, .int (nI N))] dX2_go_13 (Nat.le_of_ble_eq_true rfl) rfl ?_
      refine aw_iload (pc := 15) C 0 dX2_go_15 rfl ?_
      refine aw_if_ge (pc := 17) C 23 dX2_go_17 (by decide) (fun h17 => absurd h17 (by decide)) (fun h17 => ?_)
      refine aw_goto (pc := 20) C 38 dX2_go_20 (by decide) ?_
      refine aw_iload_n (pc := 38) C 2 dX2_go_38 rfl ?_
      exact aw_iret (pc := 39) C rfl dX2_go_39 (go_stuck' hb (Nat.le_of_lt hk4)).2.symm (by rw [(go_stuck' hb (Nat.le_of_lt hk4)).1])
    · have hbl := nxt_lt hb
      obtain ⟨y, hy3, hy⟩ := hokk.yard hbl.1 hbl.2
      refine aw_top C (nI (b)) rfl ?_
      refine aw_istore (pc := 13) C [(4, .int (nI b)), (3, .int (nI k)), (2, .int (goD n (σ.1 j) k)), (0, .ref (25 + 16 * j)), (1, .int (nI N))] dX2_go_13 (Nat.le_of_ble_eq_true rfl) rfl ?_
      refine aw_iload (pc := 15) C 0 dX2_go_15 rfl ?_
      refine aw_if_ge (pc := 17) C 23 dX2_go_17 (by decide) (fun h17 => ?_) (fun h17 => absurd h17 (fun z => z (nI_pos' (by omega))))
      refine aw_iload_n (pc := 23) C 2 dX2_go_23 rfl ?_
      refine aw_aload_n (pc := 24) C 3 dX2_go_24 rfl ?_
      refine aw_iload (pc := 25) C 0 dX2_go_25 rfl ?_
      refine aw_cVI (pc := 27) C (c_X2_step _ j hj n (by simp (disch := omega) only [setR_at, setR_twice, setL_at, setL_twice, setR_2, setL_1, setR_ne, setL_ne, ne_eq, Nat.reduceEqDiff, not_false_eq_true, pk_us, pk_un]; exact hokk) b (by omega) y (by simp (disch := omega) only [setR_at, setR_twice, setL_at, setL_twice, setR_2, setL_1, setR_ne, setL_ne, ne_eq, Nat.reduceEqDiff, not_false_eq_true, pk_us, pk_un]; exact hy) hy3) lk_X2_117 (shM hj) rfl dX2_go_27 (by decide) (Nat.le_of_ble_eq_true rfl) rfl rfl ?_
      refine aw_conv (σ' := setR σ j (stepM (goM n (σ.1 j) k) n b)) (st' := [.int (stepD (goM n (σ.1 j) k) n b), .int (goD n (σ.1 j) k)]) (by first | with_reducible rfl | (simp (disch := omega) only [setR_at, setR_twice, setL_at, setL_twice, setR_2, setL_1, setR_ne, setL_ne, ne_eq, Nat.reduceEqDiff, not_false_eq_true, pk_us, pk_un]; done) | (simp (disch := omega) only [setR_at, setR_twice, setL_at, setL_twice, setR_2, setL_1, setR_ne, setL_ne, ne_eq, Nat.reduceEqDiff, not_false_eq_true, pk_us, pk_un, Option.toList_some, Option.toList_none, List.cons_append, List.nil_append]; done) | ((try simp (disch := omega) only [setR_at, setR_twice, setL_at, setL_twice, setR_2, setL_1, setR_ne, setL_ne, ne_eq, Nat.reduceEqDiff, not_false_eq_true, pk_us, pk_un]); refine Prod.ext (funext fun z => ?_) rfl; simp only [setR]; (repeat' split) <;> first | with_reducible rfl | (exfalso; omega)) | rfl) rfl (by first | with_reducible rfl | (simp (disch := omega) only [setR_at, setR_twice, setL_at, setL_twice, setR_2, setL_1, setR_ne, setL_ne, ne_eq, Nat.reduceEqDiff, not_false_eq_true, pk_us, pk_un]; done) | (simp (disch := omega) only [setR_at, setR_twice, setL_at, setL_twice, setR_2, setL_1, setR_ne, setL_ne, ne_eq, Nat.reduceEqDiff, not_false_eq_true, pk_us, pk_un, Option.toList_some, Option.toList_none, List.cons_append, List.nil_append]; done) | ((try simp (disch := omega) only [setR_at, setR_twice, setL_at, setL_twice, setR_2, setL_1, setR_ne, setL_ne, ne_eq, Nat.reduceEqDiff, not_false_eq_true, pk_us, pk_un]); refine Prod.ext (funext fun z => ?_) rfl; simp only [setR]; (repeat' split) <;> first | with_reducible rfl | (exfalso; omega)) | rfl) ?_
      refine aw_iadd (pc := 30) C dX2_go_30 ?_
      refine aw_istore_n (pc := 31) C [(2, .int ((goD n (σ.1 j) k) + (stepD (goM n (σ.1 j) k) n b))), (4, .int (nI b)), (3, .int (nI k)), (0, .ref (25 + 16 * j)), (1, .int (nI N))] dX2_go_31 (Nat.le_of_ble_eq_true rfl) rfl ?_
      refine aw_iincN (pc := 32) C 2 k [(3, .int (nI (k + 1))), (2, .int ((goD n (σ.1 j) k) + (stepD (goM n (σ.1 j) k) n b))), (4, .int (nI b)), (0, .ref (25 + 16 * j)), (1, .int (nI N))] dX2_go_32 rfl rfl rfl (Nat.le_of_ble_eq_true rfl) rfl ?_
      refine aw_goto (pc := 35) C 4 dX2_go_35 (by decide) ?_
      refine aw_lvs C [0, 1, 3, 4] [(3, .int (nI (k + 1))), (2, .int ((goD n (σ.1 j) k) + (stepD (goM n (σ.1 j) k) n b))), (0, .ref (25 + 16 * j)), (1, .int (nI N))] rfl ?_
      exact aw_conv (σ' := setR σ j (goM n (σ.1 j) (k + 1))) (lv' := [(3, .int (nI (k + 1))), (2, .int (goD n (σ.1 j) (k + 1))), (0, .ref (25 + 16 * j)), (1, .int (nI N))]) (by rw [goM_s hb]) (by rw [goD_s hb]) rfl ih4
theorem c_X2_homeSet (σ : St) (j : Nat) (hj : j < 3) (n : Nat) (hok : Ok n (σ.1 j)) : AMet Y_X2_homeSet [.ref (25 + 16 * j)] σ (fz (some (.int (homeS (σ.1 j) n))) (σ)) := by
  refine am_intro (by decide +kernel) (Nat.le_of_ble_eq_true rfl) (fun K C => ?_)
  have hz := hok.1
  have hn := hok.2.1
  refine aw_iconst (pc := 0) (v := 0) C dX2_homeSet_0 rfl ?_
  refine aw_istore_n (pc := 1) C [(1, .int 0), (0, .ref (25 + 16 * j))] dX2_homeSet_1 (Nat.le_of_ble_eq_true rfl) rfl ?_
  refine aw_iconst (pc := 2) (v := 0) C dX2_homeSet_2 rfl ?_
  refine aw_istore_n (pc := 3) C [(2, .int 0), (1, .int 0), (0, .ref (25 + 16 * j))] dX2_homeSet_3 (Nat.le_of_ble_eq_true rfl) rfl ?_
  refine aw_lvs C [0, 1, 2] [(2, .int 0), (1, .int 0), (0, .ref (25 + 16 * j))] rfl ?_
  refine aw_conv (σ' := σ) (lv' := [(2, .int (nI 0)), (1, .int (homeS (σ.1 j) 0)), (0, .ref (25 + 16 * j))]) rfl rfl rfl ?_
  refine loop_up (P := fun k => AW _ K _ (σ) 4 [(2, .int (nI k)), (1, .int (homeS (σ.1 j) k)), (0, .ref (25 + 16 * j))] []) n ?_ ?_ 0 (by omega) 
  · refine aw_iload_n (pc := 4) C 0 dX2_homeSet_4 rfl ?_
    refine aw_aload_n (pc := 5) C 2 dX2_homeSet_5 rfl ?_
    refine aw_gld (pc := 6) C (σ.1 j 2) fl_X2_24 (shM hj) rfl dX2_homeSet_6 rfl ?_
    refine aw_top C (nI (n)) hn ?_
    refine aw_icmp_geN (pc := 9) C n n 36 rfl rfl (by omega) (by omega) dX2_homeSet_9 (by decide) (fun h9 => ?_) (fun h9 => absurd h9 (by omega))
    refine aw_iload_n (pc := 36) C 1 dX2_homeSet_36 rfl ?_
    exact aw_iret (pc := 37) C rfl dX2_homeSet_37 rfl rfl
  · intro k hk4 ih4 
    refine aw_iload_n (pc := 4) C 0 dX2_homeSet_4 rfl ?_
    refine aw_aload_n (pc := 5) C 2 dX2_homeSet_5 rfl ?_
    refine aw_gld (pc := 6) C (σ.1 j 2) fl_X2_24 (shM hj) rfl dX2_homeSet_6 rfl ?_
    refine aw_top C (nI (n)) hn ?_
    refine aw_icmp_geN (pc := 9) C k n 36 rfl rfl (by omega) (by omega) dX2_homeSet_9 (by decide) (fun h9 => absurd h9 (by omega)) (fun h9 => ?_)
    obtain ⟨yk, hyk30, hyk⟩ := (hok.2.2.2.2.1 k (by omega)).2.2.2.1
    refine aw_aload_n (pc := 12) C 2 dX2_homeSet_12 rfl ?_
    refine aw_getR (pc := 13) C fl_X2_17 (shM hj) rfl dX2_homeSet_13 ?_
    refine aw_iload_n (pc := 16) C 0 dX2_homeSet_16 rfl ?_
    refine aw_aald (pc := 17) (k := k) C (shRs hj) dX2_homeSet_17 rfl (by omega) ?_
    refine aw_cVI (pc := 18) C (c_X4_isHome _ j hj k (by omega) yk hyk hyk30) lk_X2_59 (shR hj (by omega)) rfl dX2_homeSet_18 (by decide) (Nat.le_of_ble_eq_true rfl) rfl rfl ?_
    refine aw_if_eqB (pc := 21) C 30 dX2_homeSet_21 (by decide) (fun h21 => ?_) (fun h21 => ?_)
    · refine aw_iincN (pc := 30) C 0 k [(2, .int (nI (k + 1))), (1, .int (homeS (σ.1 j) k)), (0, .ref (25 + 16 * j))] dX2_homeSet_30 rfl rfl rfl (Nat.le_of_ble_eq_true rfl) rfl ?_
      refine aw_goto (pc := 33) C 4 dX2_homeSet_33 (by decide) ?_
      refine aw_lvs C [0, 1, 2] [(2, .int (nI (k + 1))), (1, .int (homeS (σ.1 j) k)), (0, .ref (25 + 16 * j))] rfl ?_
      exact aw_conv (σ' := σ) (lv' := [(2, .int (nI (k + 1))), (1, .int (homeS (σ.1 j) (k + 1))), (0, .ref (25 + 16 * j))]) rfl (by rw [homeS, if_neg h21, or0]) rfl ih4
    · refine aw_iload_n (pc := 24) C 1 dX2_homeSet_24 rfl ?_
      refine aw_iconst (pc := 25) (v := 1) C dX2_homeSet_25 rfl ?_
      refine aw_iload_n (pc := 26) C 0 dX2_homeSet_26 rfl ?_
      refine aw_ishl (pc := 27) C dX2_homeSet_27 ?_
      refine aw_ior (pc := 28) C dX2_homeSet_28 ?_
      refine aw_istore_n (pc := 29) C [(1, .int ((homeS (σ.1 j) k) ||| (1 <<< (nI (k) &&& 31)))), (2, .int (nI k)), (0, .ref (25 + 16 * j))] dX2_homeSet_29 (Nat.le_of_ble_eq_true rfl) rfl ?_
      refine aw_iincN (pc := 30) C 1 k [(2, .int (nI (k + 1))), (1, .int ((homeS (σ.1 j) k) ||| (1 <<< (nI (k) &&& 31)))), (0, .ref (25 + 16 * j))] dX2_homeSet_30 rfl rfl rfl (Nat.le_of_ble_eq_true rfl) rfl ?_
      refine aw_goto (pc := 33) C 4 dX2_homeSet_33 (by decide) ?_
      refine aw_lvs C [0, 1, 2] [(2, .int (nI (k + 1))), (1, .int ((homeS (σ.1 j) k) ||| (1 <<< (nI (k) &&& 31)))), (0, .ref (25 + 16 * j))] rfl ?_
      exact aw_conv (σ' := σ) (lv' := [(2, .int (nI (k + 1))), (1, .int (homeS (σ.1 j) (k + 1))), (0, .ref (25 + 16 * j))]) rfl (by rw [homeS, if_pos h21]) rfl ih4
theorem c_X2_restart (σ : St) (j : Nat) (hj : j < 3) (n : Nat) (hok : Ok n (σ.1 j)) : AMet Y_X2_restart [.ref (25 + 16 * j)] σ (fz (some (.int (manyS (homeS (σ.1 j) n) 6))) (setR σ j (startM (σ.1 j) n))) := by
  refine am_intro (by decide +kernel) (Nat.le_of_ble_eq_true rfl) (fun K C => ?_)
  have hz := hok.1
  have hn := hok.2.1
  refine aw_aload_n (pc := 0) C 0 dX2_restart_0 rfl ?_
  refine aw_cVI (pc := 1) C (c_X2_homeSet _ j hj n hok) lk_X2_120 (shM hj) rfl dX2_restart_1 (by decide) (Nat.le_of_ble_eq_true rfl) rfl rfl ?_
  refine aw_cSI (pc := 4) C (c_J6_bitCount _ (homeS (σ.1 j) n) ) lk_X2_123 dX2_restart_4 (by decide) (Nat.le_of_ble_eq_true rfl) rfl rfl ?_
  refine aw_top C (manyS (homeS (σ.1 j) n) 6) (home_many hz) ?_
  refine aw_istore_n (pc := 7) C [(1, .int (manyS (homeS (σ.1 j) n) 6)), (0, .ref (25 + 16 * j))] dX2_restart_7 (Nat.le_of_ble_eq_true rfl) rfl ?_
  refine aw_iconst (pc := 8) (v := 0) C dX2_restart_8 rfl ?_
  refine aw_istore_n (pc := 9) C [(2, .int 0), (1, .int (manyS (homeS (σ.1 j) n) 6)), (0, .ref (25 + 16 * j))] dX2_restart_9 (Nat.le_of_ble_eq_true rfl) rfl ?_
  refine aw_lvs C [0, 1, 2] [(2, .int 0), (1, .int (manyS (homeS (σ.1 j) n) 6)), (0, .ref (25 + 16 * j))] rfl ?_
  refine aw_conv (σ' := setR σ j (startM (σ.1 j) 0)) (lv' := [(2, .int (nI 0)), (1, .int (manyS (homeS (σ.1 j) n) 6)), (0, .ref (25 + 16 * j))]) (setR_same σ j).symm rfl rfl ?_
  refine loop_up (P := fun k => AW _ K _ (setR σ j (startM (σ.1 j) k)) 10 [(2, .int (nI k)), (1, .int (manyS (homeS (σ.1 j) n) 6)), (0, .ref (25 + 16 * j))] []) n ?_ ?_ 0 (by omega) 
  · refine aw_iload_n (pc := 10) C 0 dX2_restart_10 rfl ?_
    refine aw_aload_n (pc := 11) C 2 dX2_restart_11 rfl ?_
    refine aw_gld (pc := 12) C ((startM (σ.1 j) n) 2) fl_X2_24 (shM hj) rfl dX2_restart_12 (by first | with_reducible rfl | (simp (disch := omega) only [setR_at, setR_twice, setL_at, setL_twice, setR_2, setL_1, setR_ne, setL_ne, ne_eq, Nat.reduceEqDiff, not_false_eq_true, pk_us, pk_un]; done) | (simp (disch := omega) only [setR_at, setR_twice, setL_at, setL_twice, setR_2, setL_1, setR_ne, setL_ne, ne_eq, Nat.reduceEqDiff, not_false_eq_true, pk_us, pk_un, Option.toList_some, Option.toList_none, List.cons_append, List.nil_append]; done) | ((try simp (disch := omega) only [setR_at, setR_twice, setL_at, setL_twice, setR_2, setL_1, setR_ne, setL_ne, ne_eq, Nat.reduceEqDiff, not_false_eq_true, pk_us, pk_un]); refine Prod.ext (funext fun z => ?_) rfl; simp only [setR]; (repeat' split) <;> first | with_reducible rfl | (exfalso; omega)) | rfl) ?_
    refine aw_top C (nI (n)) ((startM_off (fun r _ => by omega)).trans hn) ?_
    refine aw_icmp_geN (pc := 15) C n n 33 rfl rfl (by omega) (by omega) dX2_restart_15 (by decide) (fun h15 => ?_) (fun h15 => absurd h15 (by omega))
    refine aw_iload_n (pc := 33) C 1 dX2_restart_33 rfl ?_
    exact aw_iret (pc := 34) C rfl dX2_restart_34 rfl rfl
  · intro k hk10 ih10 
    refine aw_iload_n (pc := 10) C 0 dX2_restart_10 rfl ?_
    refine aw_aload_n (pc := 11) C 2 dX2_restart_11 rfl ?_
    refine aw_gld (pc := 12) C ((startM (σ.1 j) k) 2) fl_X2_24 (shM hj) rfl dX2_restart_12 (by first | with_reducible rfl | (simp (disch := omega) only [setR_at, setR_twice, setL_at, setL_twice, setR_2, setL_1, setR_ne, setL_ne, ne_eq, Nat.reduceEqDiff, not_false_eq_true, pk_us, pk_un]; done) | (simp (disch := omega) only [setR_at, setR_twice, setL_at, setL_twice, setR_2, setL_1, setR_ne, setL_ne, ne_eq, Nat.reduceEqDiff, not_false_eq_true, pk_us, pk_un, Option.toList_some, Option.toList_none, List.cons_append, List.nil_append]; done) | ((try simp (disch := omega) only [setR_at, setR_twice, setL_at, setL_twice, setR_2, setL_1, setR_ne, setL_ne, ne_eq, Nat.reduceEqDiff, not_false_eq_true, pk_us, pk_un]); refine Prod.ext (funext fun z => ?_) rfl; simp only [setR]; (repeat' split) <;> first | with_reducible rfl | (exfalso; omega)) | rfl) ?_
    refine aw_top C (nI (n)) ((startM_off (fun r _ => by omega)).trans hn) ?_
    refine aw_icmp_geN (pc := 15) C k n 33 rfl rfl (by omega) (by omega) dX2_restart_15 (by decide) (fun h15 => absurd h15 (by omega)) (fun h15 => ?_)
    refine aw_aload_n (pc := 18) C 2 dX2_restart_18 rfl ?_
    refine aw_getR (pc := 19) C fl_X2_17 (shM hj) rfl dX2_restart_19 ?_
    refine aw_iload_n (pc := 22) C 0 dX2_restart_22 rfl ?_
    refine aw_aald (pc := 23) (k := k) C (shRs hj) dX2_restart_23 rfl (by omega) ?_
    refine aw_cV0 (pc := 24) C (c_X4_restart _ j hj k (by omega) ) lk_X2_128 (shR hj (by omega)) rfl dX2_restart_24 (by decide) (Nat.le_of_ble_eq_true rfl) rfl rfl ?_
    refine aw_conv (σ' := setR σ j (rstR (startM (σ.1 j) k) k)) (st' := []) (by first | with_reducible rfl | (simp (disch := omega) only [setR_at, setR_twice, setL_at, setL_twice, setR_2, setL_1, setR_ne, setL_ne, ne_eq, Nat.reduceEqDiff, not_false_eq_true, pk_us, pk_un]; done) | (simp (disch := omega) only [setR_at, setR_twice, setL_at, setL_twice, setR_2, setL_1, setR_ne, setL_ne, ne_eq, Nat.reduceEqDiff, not_false_eq_true, pk_us, pk_un, Option.toList_some, Option.toList_none, List.cons_append, List.nil_append]; done) | ((try simp (disch := omega) only [setR_at, setR_twice, setL_at, setL_twice, setR_2, setL_1, setR_ne, setL_ne, ne_eq, Nat.reduceEqDiff, not_false_eq_true, pk_us, pk_un]); refine Prod.ext (funext fun z => ?_) rfl; simp only [setR]; (repeat' split) <;> first | with_reducible rfl | (exfalso; omega)) | rfl) rfl (by first | with_reducible rfl | (simp (disch := omega) only [setR_at, setR_twice, setL_at, setL_twice, setR_2, setL_1, setR_ne, setL_ne, ne_eq, Nat.reduceEqDiff, not_false_eq_true, pk_us, pk_un]; done) | (simp (disch := omega) only [setR_at, setR_twice, setL_at, setL_twice, setR_2, setL_1, setR_ne, setL_ne, ne_eq, Nat.reduceEqDiff, not_false_eq_true, pk_us, pk_un, Option.toList_some, Option.toList_none, List.cons_append, List.nil_append]; done) | ((try simp (disch := omega) only [setR_at, setR_twice, setL_at, setL_twice, setR_2, setL_1, setR_ne, setL_ne, ne_eq, Nat.reduceEqDiff, not_false_eq_true, pk_us, pk_un]); refine Prod.ext (funext fun z => ?_) rfl; simp only [setR]; (repeat' split) <;> first | with_reducible rfl | (exfalso; omega)) | rfl) ?_
    refine aw_iincN (pc := 27) C 0 k [(2, .int (nI (k + 1))), (1, .int (manyS (homeS (σ.1 j) n) 6)), (0, .ref (25 + 16 * j))] dX2_restart_27 rfl rfl rfl (Nat.le_of_ble_eq_true rfl) rfl ?_
    refine aw_goto (pc := 30) C 10 dX2_restart_30 (by decide) ?_
    refine aw_lvs C [0, 1, 2] [(2, .int (nI (k + 1))), (1, .int (manyS (homeS (σ.1 j) n) 6)), (0, .ref (25 + 16 * j))] rfl ?_
    exact aw_conv (σ' := setR σ j (startM (σ.1 j) (k + 1))) (lv' := [(2, .int (nI (k + 1))), (1, .int (manyS (homeS (σ.1 j) n) 6)), (0, .ref (25 + 16 * j))]) rfl rfl rfl ih10
theorem c_X2_leastInTime (σ : St) (j : Nat) (hj : j < 3) (n : Nat) (hok : Ok n (σ.1 j)) (hn0 : 0 < n) : AMet Y_X2_leastInTime [.ref (25 + 16 * j)] σ (fz (some (.int (oI (fst (σ.1 j) n)))) (σ)) := by
  refine am_intro (by decide +kernel) (Nat.le_of_ble_eq_true rfl) (fun K C => ?_)
  have hz := hok.1
  have hn := hok.2.1
  refine aw_iconst (pc := 0) (v := 0) C dX2_leastInTime_0 rfl ?_
  refine aw_istore_n (pc := 1) C [(1, .int 0), (0, .ref (25 + 16 * j))] dX2_leastInTime_1 (Nat.le_of_ble_eq_true rfl) rfl ?_
  refine aw_iconst (pc := 2) (v := 1) C dX2_leastInTime_2 rfl ?_
  refine aw_istore_n (pc := 3) C [(2, .int 1), (1, .int 0), (0, .ref (25 + 16 * j))] dX2_leastInTime_3 (Nat.le_of_ble_eq_true rfl) rfl ?_
  refine aw_lvs C [0, 1, 2] [(2, .int 1), (1, .int 0), (0, .ref (25 + 16 * j))] rfl ?_
  refine aw_conv (σ' := σ) (lv' := [(2, .int 1), (1, .int (nI 0)), (0, .ref (25 + 16 * j))]) rfl rfl rfl ?_
  refine loop_up (P := fun k => ∀ (b : Nat) (hb : fst (σ.1 j) k = some b), AW _ K _ (σ) 4 [(2, .int (nI k)), (1, .int (nI b)), (0, .ref (25 + 16 * j))] []) n ?_ ?_ 1 (by omega) 0 rfl
  · intro b hb
    refine aw_iload_n (pc := 4) C 0 dX2_leastInTime_4 rfl ?_
    refine aw_aload_n (pc := 5) C 2 dX2_leastInTime_5 rfl ?_
    refine aw_gld (pc := 6) C (σ.1 j 2) fl_X2_24 (shM hj) rfl dX2_leastInTime_6 rfl ?_
    refine aw_top C (nI (n)) hn ?_
    refine aw_icmp_geN (pc := 9) C n n 41 rfl rfl (by omega) (by omega) dX2_leastInTime_9 (by decide) (fun h9 => ?_) (fun h9 => absurd h9 (by omega))
    refine aw_iload_n (pc := 41) C 1 dX2_leastInTime_41 rfl ?_
    exact aw_iret (pc := 42) C rfl dX2_leastInTime_42 (by rw [hb]; rfl) rfl
  · intro k hk4 ih4 b hb
    refine aw_iload_n (pc := 4) C 0 dX2_leastInTime_4 rfl ?_
    refine aw_aload_n (pc := 5) C 2 dX2_leastInTime_5 rfl ?_
    refine aw_gld (pc := 6) C (σ.1 j 2) fl_X2_24 (shM hj) rfl dX2_leastInTime_6 rfl ?_
    refine aw_top C (nI (n)) hn ?_
    refine aw_icmp_geN (pc := 9) C k n 41 rfl rfl (by omega) (by omega) dX2_leastInTime_9 (by decide) (fun h9 => absurd h9 (by omega)) (fun h9 => ?_)
    have hbl := fst_lt hb
    refine aw_aload_n (pc := 12) C 2 dX2_leastInTime_12 rfl ?_
    refine aw_getR (pc := 13) C fl_X2_17 (shM hj) rfl dX2_leastInTime_13 ?_
    refine aw_iload_n (pc := 16) C 0 dX2_leastInTime_16 rfl ?_
    refine aw_aald (pc := 17) (k := k) C (shRs hj) dX2_leastInTime_17 rfl (by omega) ?_
    refine aw_gld (pc := 18) C (σ.1 j (33 + 37 * k + 4)) fl_X2_99 (shR hj (by omega)) rfl dX2_leastInTime_18 rfl ?_
    refine aw_aload_n (pc := 21) C 2 dX2_leastInTime_21 rfl ?_
    refine aw_getR (pc := 22) C fl_X2_17 (shM hj) rfl dX2_leastInTime_22 ?_
    refine aw_iload_n (pc := 25) C 1 dX2_leastInTime_25 rfl ?_
    refine aw_aald (pc := 26) (k := b) C (shRs hj) dX2_leastInTime_26 rfl (by omega) ?_
    refine aw_gld (pc := 27) C (σ.1 j (33 + 37 * b + 4)) fl_X2_99 (shR hj (by omega)) rfl dX2_leastInTime_27 rfl ?_
    refine aw_icmp_ge (pc := 30) C 35 dX2_leastInTime_30 (by decide) (fun h30 => ?_) (fun h30 => ?_)
    · refine aw_iincN (pc := 35) C 0 k [(2, .int (nI (k + 1))), (1, .int (nI b)), (0, .ref (25 + 16 * j))] dX2_leastInTime_35 rfl rfl rfl (Nat.le_of_ble_eq_true rfl) rfl ?_
      refine aw_goto (pc := 38) C 4 dX2_leastInTime_38 (by decide) ?_
      refine aw_lvs C [0, 1, 2] [(2, .int (nI (k + 1))), (1, .int (nI b)), (0, .ref (25 + 16 * j))] rfl ?_
      exact aw_conv (σ' := σ) (lv' := [(2, .int (nI (k + 1))), (1, .int (nI b)), (0, .ref (25 + 16 * j))]) rfl rfl rfl (ih4 _ (fst_c_no hb (Int32.not_lt.mpr h30)))
    · refine aw_iload_n (pc := 33) C 0 dX2_leastInTime_33 rfl ?_
      refine aw_istore_n (pc := 34) C [(1, .int (nI k)), (2, .int (nI k)), (0, .ref (25 + 16 * j))] dX2_leastInTime_34 (Nat.le_of_ble_eq_true rfl) rfl ?_
      refine aw_iincN (pc := 35) C 1 k [(2, .int (nI (k + 1))), (1, .int (nI k)), (0, .ref (25 + 16 * j))] dX2_leastInTime_35 rfl rfl rfl (Nat.le_of_ble_eq_true rfl) rfl ?_
      refine aw_goto (pc := 38) C 4 dX2_leastInTime_38 (by decide) ?_
      refine aw_lvs C [0, 1, 2] [(2, .int (nI (k + 1))), (1, .int (nI k)), (0, .ref (25 + 16 * j))] rfl ?_
      exact aw_conv (σ' := σ) (lv' := [(2, .int (nI (k + 1))), (1, .int (nI k)), (0, .ref (25 + 16 * j))]) rfl rfl rfl (ih4 _ (fst_c_yes hb (Int32.not_le.mp h30)))
theorem c_X2_placeOf (σ : St) (j : Nat) (hj : j < 3) (n : Nat) (hok : Ok n (σ.1 j)) (r : Nat) (hr : r < n) : AMet Y_X2_placeOf [.ref (25 + 16 * j), .int (nI r)] σ (fz (some (.int (placeS (σ.1 j) r n))) (σ)) := by
  refine am_intro (by decide +kernel) (Nat.le_of_ble_eq_true rfl) (fun K C => ?_)
  have hz := hok.1
  have hn := hok.2.1
  refine aw_aload_n (pc := 0) C 0 dX2_placeOf_0 rfl ?_
  refine aw_getR (pc := 1) C fl_X2_17 (shM hj) rfl dX2_placeOf_1 ?_
  refine aw_iload_n (pc := 4) C 1 dX2_placeOf_4 rfl ?_
  refine aw_aald (pc := 5) (k := r) C (shRs hj) dX2_placeOf_5 rfl (by omega) ?_
  refine aw_gld (pc := 6) C (σ.1 j (33 + 37 * r + 4)) fl_X2_99 (shR hj (by omega)) rfl dX2_placeOf_6 rfl ?_
  refine aw_istore_n (pc := 9) C [(2, .int (σ.1 j (33 + 37 * r + 4))), (0, .ref (25 + 16 * j)), (1, .int (nI r))] dX2_placeOf_9 (Nat.le_of_ble_eq_true rfl) rfl ?_
  refine aw_iconst (pc := 10) (v := 1) C dX2_placeOf_10 rfl ?_
  refine aw_istore_n (pc := 11) C [(3, .int 1), (2, .int (σ.1 j (33 + 37 * r + 4))), (0, .ref (25 + 16 * j)), (1, .int (nI r))] dX2_placeOf_11 (Nat.le_of_ble_eq_true rfl) rfl ?_
  refine aw_iconst (pc := 12) (v := 0) C dX2_placeOf_12 rfl ?_
  refine aw_istore (pc := 13) C [(4, .int 0), (3, .int 1), (2, .int (σ.1 j (33 + 37 * r + 4))), (0, .ref (25 + 16 * j)), (1, .int (nI r))] dX2_placeOf_13 (Nat.le_of_ble_eq_true rfl) rfl ?_
  refine aw_lvs C [0, 1, 2, 3, 4] [(4, .int 0), (3, .int 1), (2, .int (σ.1 j (33 + 37 * r + 4))), (0, .ref (25 + 16 * j)), (1, .int (nI r))] rfl ?_
  refine aw_conv (σ' := σ) (lv' := [(4, .int (nI 0)), (3, .int (placeS (σ.1 j) r 0)), (2, .int (σ.1 j (33 + 37 * r + 4))), (0, .ref (25 + 16 * j)), (1, .int (nI r))]) rfl rfl rfl ?_
  refine loop_up (P := fun k => AW _ K _ (σ) 15 [(4, .int (nI k)), (3, .int (placeS (σ.1 j) r k)), (2, .int (σ.1 j (33 + 37 * r + 4))), (0, .ref (25 + 16 * j)), (1, .int (nI r))] []) n ?_ ?_ 0 (by omega) 
  · refine aw_iload (pc := 15) C 0 dX2_placeOf_15 rfl ?_
    refine aw_aload_n (pc := 17) C 3 dX2_placeOf_17 rfl ?_
    refine aw_gld (pc := 18) C (σ.1 j 2) fl_X2_24 (shM hj) rfl dX2_placeOf_18 rfl ?_
    refine aw_top C (nI (n)) hn ?_
    refine aw_icmp_geN (pc := 21) C n n 63 rfl rfl (by omega) (by omega) dX2_placeOf_21 (by decide) (fun h21 => ?_) (fun h21 => absurd h21 (by omega))
    refine aw_iload_n (pc := 63) C 1 dX2_placeOf_63 rfl ?_
    exact aw_iret (pc := 64) C rfl dX2_placeOf_64 rfl rfl
  · intro k hk15 ih15 
    refine aw_iload (pc := 15) C 0 dX2_placeOf_15 rfl ?_
    refine aw_aload_n (pc := 17) C 3 dX2_placeOf_17 rfl ?_
    refine aw_gld (pc := 18) C (σ.1 j 2) fl_X2_24 (shM hj) rfl dX2_placeOf_18 rfl ?_
    refine aw_top C (nI (n)) hn ?_
    refine aw_icmp_geN (pc := 21) C k n 63 rfl rfl (by omega) (by omega) dX2_placeOf_21 (by decide) (fun h21 => absurd h21 (by omega)) (fun h21 => ?_)
    refine aw_aload_n (pc := 24) C 3 dX2_placeOf_24 rfl ?_
    refine aw_getR (pc := 25) C fl_X2_17 (shM hj) rfl dX2_placeOf_25 ?_
    refine aw_iload (pc := 28) C 0 dX2_placeOf_28 rfl ?_
    refine aw_aald (pc := 30) (k := k) C (shRs hj) dX2_placeOf_30 rfl (by omega) ?_
    refine aw_gld (pc := 31) C (σ.1 j (33 + 37 * k + 4)) fl_X2_99 (shR hj (by omega)) rfl dX2_placeOf_31 rfl ?_
    refine aw_istore (pc := 34) C [(5, .int (σ.1 j (33 + 37 * k + 4))), (4, .int (nI k)), (3, .int (placeS (σ.1 j) r k)), (2, .int (σ.1 j (33 + 37 * r + 4))), (0, .ref (25 + 16 * j)), (1, .int (nI r))] dX2_placeOf_34 (Nat.le_of_ble_eq_true rfl) rfl ?_
    refine aw_iload (pc := 36) C 0 dX2_placeOf_36 rfl ?_
    refine aw_iload_n (pc := 38) C 3 dX2_placeOf_38 rfl ?_
    refine aw_icmp_lt (pc := 39) C 54 dX2_placeOf_39 (by decide) (fun h39 => ?_) (fun h39 => ?_)
    · refine aw_iinc (pc := 54) C 2 ((placeS (σ.1 j) r k) + 1) [(3, .int ((placeS (σ.1 j) r k) + 1)), (5, .int (σ.1 j (33 + 37 * k + 4))), (4, .int (nI k)), (2, .int (σ.1 j (33 + 37 * r + 4))), (0, .ref (25 + 16 * j)), (1, .int (nI r))] dX2_placeOf_54 rfl rfl (Nat.le_of_ble_eq_true rfl) rfl ?_
      refine aw_iincN (pc := 57) C 2 k [(4, .int (nI (k + 1))), (3, .int ((placeS (σ.1 j) r k) + 1)), (5, .int (σ.1 j (33 + 37 * k + 4))), (2, .int (σ.1 j (33 + 37 * r + 4))), (0, .ref (25 + 16 * j)), (1, .int (nI r))] dX2_placeOf_57 rfl rfl rfl (Nat.le_of_ble_eq_true rfl) rfl ?_
      refine aw_goto (pc := 60) C 15 dX2_placeOf_60 (by decide) ?_
      refine aw_lvs C [0, 1, 3, 4, 5] [(4, .int (nI (k + 1))), (3, .int ((placeS (σ.1 j) r k) + 1)), (2, .int (σ.1 j (33 + 37 * r + 4))), (0, .ref (25 + 16 * j)), (1, .int (nI r))] rfl ?_
      exact aw_conv (σ' := σ) (lv' := [(4, .int (nI (k + 1))), (3, .int (placeS (σ.1 j) r (k + 1))), (2, .int (σ.1 j (33 + 37 * r + 4))), (0, .ref (25 + 16 * j)), (1, .int (nI r))]) rfl (by rw [placeS, if_neg (fun z => by subst z; exact Int32.lt_irrefl h39), if_pos (Or.inl h39)]) rfl ih15
    · refine aw_iload (pc := 42) C 0 dX2_placeOf_42 rfl ?_
      refine aw_iload_n (pc := 44) C 3 dX2_placeOf_44 rfl ?_
      refine aw_icmp_ne (pc := 45) C 57 dX2_placeOf_45 (by decide) (fun h45 => ?_) (fun h45 => ?_)
      · refine aw_iincN (pc := 57) C 1 k [(4, .int (nI (k + 1))), (5, .int (σ.1 j (33 + 37 * k + 4))), (3, .int (placeS (σ.1 j) r k)), (2, .int (σ.1 j (33 + 37 * r + 4))), (0, .ref (25 + 16 * j)), (1, .int (nI r))] dX2_placeOf_57 rfl rfl rfl (Nat.le_of_ble_eq_true rfl) rfl ?_
        refine aw_goto (pc := 60) C 15 dX2_placeOf_60 (by decide) ?_
        refine aw_lvs C [0, 2, 3, 4, 5] [(4, .int (nI (k + 1))), (3, .int (placeS (σ.1 j) r k)), (2, .int (σ.1 j (33 + 37 * r + 4))), (0, .ref (25 + 16 * j)), (1, .int (nI r))] rfl ?_
        exact aw_conv (σ' := σ) (lv' := [(4, .int (nI (k + 1))), (3, .int (placeS (σ.1 j) r (k + 1))), (2, .int (σ.1 j (33 + 37 * r + 4))), (0, .ref (25 + 16 * j)), (1, .int (nI r))]) rfl (by rw [placeS]; by_cases z : k = r; rw [if_pos z, add0]; rw [if_neg z, if_neg (fun q => q.elim h39 (fun q => h45 q.1)), add0]) rfl ih15
      · refine aw_iload (pc := 48) C 1 dX2_placeOf_48 rfl ?_
        refine aw_iload_n (pc := 50) C 5 dX2_placeOf_50 rfl ?_
        refine aw_icmp_geN (pc := 51) C k r 57 rfl rfl (by omega) (by omega) dX2_placeOf_51 (by decide) (fun h51 => ?_) (fun h51 => ?_)
        · refine aw_iincN (pc := 57) C 1 k [(4, .int (nI (k + 1))), (5, .int (σ.1 j (33 + 37 * k + 4))), (3, .int (placeS (σ.1 j) r k)), (2, .int (σ.1 j (33 + 37 * r + 4))), (0, .ref (25 + 16 * j)), (1, .int (nI r))] dX2_placeOf_57 rfl rfl rfl (Nat.le_of_ble_eq_true rfl) rfl ?_
          refine aw_goto (pc := 60) C 15 dX2_placeOf_60 (by decide) ?_
          refine aw_lvs C [0, 2, 3, 4, 5] [(4, .int (nI (k + 1))), (3, .int (placeS (σ.1 j) r k)), (2, .int (σ.1 j (33 + 37 * r + 4))), (0, .ref (25 + 16 * j)), (1, .int (nI r))] rfl ?_
          exact aw_conv (σ' := σ) (lv' := [(4, .int (nI (k + 1))), (3, .int (placeS (σ.1 j) r (k + 1))), (2, .int (σ.1 j (33 + 37 * r + 4))), (0, .ref (25 + 16 * j)), (1, .int (nI r))]) rfl (by rw [placeS]; by_cases z : k = r; rw [if_pos z, add0]; rw [if_neg z, if_neg (fun q => q.elim h39 (fun q => absurd q.2 (by omega))), add0]) rfl ih15
        · refine aw_iinc (pc := 54) C 2 ((placeS (σ.1 j) r k) + 1) [(3, .int ((placeS (σ.1 j) r k) + 1)), (5, .int (σ.1 j (33 + 37 * k + 4))), (4, .int (nI k)), (2, .int (σ.1 j (33 + 37 * r + 4))), (0, .ref (25 + 16 * j)), (1, .int (nI r))] dX2_placeOf_54 rfl rfl (Nat.le_of_ble_eq_true rfl) rfl ?_
          refine aw_iincN (pc := 57) C 2 k [(4, .int (nI (k + 1))), (3, .int ((placeS (σ.1 j) r k) + 1)), (5, .int (σ.1 j (33 + 37 * k + 4))), (2, .int (σ.1 j (33 + 37 * r + 4))), (0, .ref (25 + 16 * j)), (1, .int (nI r))] dX2_placeOf_57 rfl rfl rfl (Nat.le_of_ble_eq_true rfl) rfl ?_
          refine aw_goto (pc := 60) C 15 dX2_placeOf_60 (by decide) ?_
          refine aw_lvs C [0, 1, 3, 4, 5] [(4, .int (nI (k + 1))), (3, .int ((placeS (σ.1 j) r k) + 1)), (2, .int (σ.1 j (33 + 37 * r + 4))), (0, .ref (25 + 16 * j)), (1, .int (nI r))] rfl ?_
          exact aw_conv (σ' := σ) (lv' := [(4, .int (nI (k + 1))), (3, .int (placeS (σ.1 j) r (k + 1))), (2, .int (σ.1 j (33 + 37 * r + 4))), (0, .ref (25 + 16 * j)), (1, .int (nI r))]) rfl (by rw [placeS, if_neg (by omega), if_pos (Or.inr ⟨h45, h51⟩)]) rfl ih15
theorem c_X2_countDrops (σ : St) (j : Nat) (hj : j < 3) (n : Nat) (hok : Ok n (σ.1 j)) : AMet Y_X2_countDrops [.ref (25 + 16 * j)] σ (fz (some (.int (adS (σ.1 j) n))) (σ)) := by
  refine am_intro (by decide +kernel) (Nat.le_of_ble_eq_true rfl) (fun K C => ?_)
  have hz := hok.1
  have hn := hok.2.1
  refine aw_iconst (pc := 0) (v := 0) C dX2_countDrops_0 rfl ?_
  refine aw_istore_n (pc := 1) C [(1, .int 0), (0, .ref (25 + 16 * j))] dX2_countDrops_1 (Nat.le_of_ble_eq_true rfl) rfl ?_
  refine aw_iconst (pc := 2) (v := 0) C dX2_countDrops_2 rfl ?_
  refine aw_istore_n (pc := 3) C [(2, .int 0), (1, .int 0), (0, .ref (25 + 16 * j))] dX2_countDrops_3 (Nat.le_of_ble_eq_true rfl) rfl ?_
  refine aw_lvs C [0, 1, 2] [(2, .int 0), (1, .int 0), (0, .ref (25 + 16 * j))] rfl ?_
  refine aw_conv (σ' := σ) (lv' := [(2, .int (nI 0)), (1, .int (adS (σ.1 j) 0)), (0, .ref (25 + 16 * j))]) rfl rfl rfl ?_
  refine loop_up (P := fun k => AW _ K _ (σ) 4 [(2, .int (nI k)), (1, .int (adS (σ.1 j) k)), (0, .ref (25 + 16 * j))] []) n ?_ ?_ 0 (by omega) 
  · refine aw_iload_n (pc := 4) C 0 dX2_countDrops_4 rfl ?_
    refine aw_aload_n (pc := 5) C 2 dX2_countDrops_5 rfl ?_
    refine aw_gld (pc := 6) C (σ.1 j 2) fl_X2_24 (shM hj) rfl dX2_countDrops_6 rfl ?_
    refine aw_top C (nI (n)) hn ?_
    refine aw_icmp_geN (pc := 9) C n n 30 rfl rfl (by omega) (by omega) dX2_countDrops_9 (by decide) (fun h9 => ?_) (fun h9 => absurd h9 (by omega))
    refine aw_iload_n (pc := 30) C 1 dX2_countDrops_30 rfl ?_
    exact aw_iret (pc := 31) C rfl dX2_countDrops_31 rfl rfl
  · intro k hk4 ih4 
    refine aw_iload_n (pc := 4) C 0 dX2_countDrops_4 rfl ?_
    refine aw_aload_n (pc := 5) C 2 dX2_countDrops_5 rfl ?_
    refine aw_gld (pc := 6) C (σ.1 j 2) fl_X2_24 (shM hj) rfl dX2_countDrops_6 rfl ?_
    refine aw_top C (nI (n)) hn ?_
    refine aw_icmp_geN (pc := 9) C k n 30 rfl rfl (by omega) (by omega) dX2_countDrops_9 (by decide) (fun h9 => absurd h9 (by omega)) (fun h9 => ?_)
    refine aw_iload_n (pc := 12) C 1 dX2_countDrops_12 rfl ?_
    refine aw_aload_n (pc := 13) C 2 dX2_countDrops_13 rfl ?_
    refine aw_getR (pc := 14) C fl_X2_17 (shM hj) rfl dX2_countDrops_14 ?_
    refine aw_iload_n (pc := 17) C 0 dX2_countDrops_17 rfl ?_
    refine aw_aald (pc := 18) (k := k) C (shRs hj) dX2_countDrops_18 rfl (by omega) ?_
    refine aw_gld (pc := 19) C (σ.1 j (33 + 37 * k + 6)) fl_X2_111 (shR hj (by omega)) rfl dX2_countDrops_19 rfl ?_
    refine aw_iadd (pc := 22) C dX2_countDrops_22 ?_
    refine aw_istore_n (pc := 23) C [(1, .int ((adS (σ.1 j) k) + (σ.1 j (33 + 37 * k + 6)))), (2, .int (nI k)), (0, .ref (25 + 16 * j))] dX2_countDrops_23 (Nat.le_of_ble_eq_true rfl) rfl ?_
    refine aw_iincN (pc := 24) C 1 k [(2, .int (nI (k + 1))), (1, .int ((adS (σ.1 j) k) + (σ.1 j (33 + 37 * k + 6)))), (0, .ref (25 + 16 * j))] dX2_countDrops_24 rfl rfl rfl (Nat.le_of_ble_eq_true rfl) rfl ?_
    refine aw_goto (pc := 27) C 4 dX2_countDrops_27 (by decide) ?_
    refine aw_lvs C [0, 1, 2] [(2, .int (nI (k + 1))), (1, .int ((adS (σ.1 j) k) + (σ.1 j (33 + 37 * k + 6)))), (0, .ref (25 + 16 * j))] rfl ?_
    exact aw_conv (σ' := σ) (lv' := [(2, .int (nI (k + 1))), (1, .int (adS (σ.1 j) (k + 1))), (0, .ref (25 + 16 * j))]) rfl rfl rfl ih4
theorem c_X2_countGrass (σ : St) (j : Nat) (hj : j < 3) : AMet Y_X2_countGrass [.ref (25 + 16 * j)] σ (fz (some (.int (grS (σ.1 j) 30))) (σ)) := by
  refine am_intro (by decide +kernel) (Nat.le_of_ble_eq_true rfl) (fun K C => ?_)
  refine aw_iconst (pc := 0) (v := 0) C dX2_countGrass_0 rfl ?_
  refine aw_istore_n (pc := 1) C [(1, .int 0), (0, .ref (25 + 16 * j))] dX2_countGrass_1 (Nat.le_of_ble_eq_true rfl) rfl ?_
  refine aw_iconst (pc := 2) (v := 0) C dX2_countGrass_2 rfl ?_
  refine aw_istore_n (pc := 3) C [(2, .int 0), (1, .int 0), (0, .ref (25 + 16 * j))] dX2_countGrass_3 (Nat.le_of_ble_eq_true rfl) rfl ?_
  refine aw_lvs C [0, 1, 2] [(2, .int 0), (1, .int 0), (0, .ref (25 + 16 * j))] rfl ?_
  refine aw_conv (σ' := σ) (lv' := [(2, .int (nI 0)), (1, .int (grS (σ.1 j) 0)), (0, .ref (25 + 16 * j))]) rfl rfl rfl ?_
  refine loop_up (P := fun k => AW _ K _ (σ) 4 [(2, .int (nI k)), (1, .int (grS (σ.1 j) k)), (0, .ref (25 + 16 * j))] []) 30 ?_ ?_ 0 (by omega) 
  · refine aw_iload_n (pc := 4) C 0 dX2_countGrass_4 rfl ?_
    refine aw_bipush (pc := 5) (v := 30) C dX2_countGrass_5 rfl ?_
    refine aw_icmp_geN (pc := 7) C 30 30 33 rfl rfl (by omega) (by omega) dX2_countGrass_7 (by decide) (fun h7 => ?_) (fun h7 => absurd h7 (by omega))
    refine aw_iload_n (pc := 33) C 1 dX2_countGrass_33 rfl ?_
    exact aw_iret (pc := 34) C rfl dX2_countGrass_34 rfl rfl
  · intro k hk4 ih4 
    refine aw_iload_n (pc := 4) C 0 dX2_countGrass_4 rfl ?_
    refine aw_bipush (pc := 5) (v := 30) C dX2_countGrass_5 rfl ?_
    refine aw_icmp_geN (pc := 7) C k 30 33 rfl rfl (by omega) (by omega) dX2_countGrass_7 (by decide) (fun h7 => absurd h7 (by omega)) (fun h7 => ?_)
    refine aw_iload_n (pc := 10) C 1 dX2_countGrass_10 rfl ?_
    refine aw_aload_n (pc := 11) C 2 dX2_countGrass_11 rfl ?_
    refine aw_getR (pc := 12) C fl_X2_9 (shM hj) rfl dX2_countGrass_12 ?_
    refine aw_iload_n (pc := 15) C 0 dX2_countGrass_15 rfl ?_
    refine aw_ild (pc := 16) (k := k) C (3 + k) (σ.1 j (3 + k)) (shG hj) dX2_countGrass_16 rfl (by omega) (by omega) rfl ?_
    refine aw_if_ne (pc := 17) C 24 dX2_countGrass_17 (by decide) (fun h17 => ?_) (fun h17 => ?_)
    · refine aw_iconst (pc := 24) (v := 0) C dX2_countGrass_24 rfl ?_
      refine aw_iadd (pc := 25) C dX2_countGrass_25 ?_
      refine aw_istore_n (pc := 26) C [(1, .int ((grS (σ.1 j) k) + 0)), (2, .int (nI k)), (0, .ref (25 + 16 * j))] dX2_countGrass_26 (Nat.le_of_ble_eq_true rfl) rfl ?_
      refine aw_iincN (pc := 27) C 1 k [(2, .int (nI (k + 1))), (1, .int ((grS (σ.1 j) k) + 0)), (0, .ref (25 + 16 * j))] dX2_countGrass_27 rfl rfl rfl (Nat.le_of_ble_eq_true rfl) rfl ?_
      refine aw_goto (pc := 30) C 4 dX2_countGrass_30 (by decide) ?_
      refine aw_lvs C [0, 1, 2] [(2, .int (nI (k + 1))), (1, .int ((grS (σ.1 j) k) + 0)), (0, .ref (25 + 16 * j))] rfl ?_
      exact aw_conv (σ' := σ) (lv' := [(2, .int (nI (k + 1))), (1, .int (grS (σ.1 j) (k + 1))), (0, .ref (25 + 16 * j))]) rfl (by rw [grS, if_neg h17]) rfl ih4
    · refine aw_iconst (pc := 20) (v := 1) C dX2_countGrass_20 rfl ?_
      refine aw_goto (pc := 21) C 25 dX2_countGrass_21 (by decide) ?_
      refine aw_iadd (pc := 25) C dX2_countGrass_25 ?_
      refine aw_istore_n (pc := 26) C [(1, .int ((grS (σ.1 j) k) + 1)), (2, .int (nI k)), (0, .ref (25 + 16 * j))] dX2_countGrass_26 (Nat.le_of_ble_eq_true rfl) rfl ?_
      refine aw_iincN (pc := 27) C 1 k [(2, .int (nI (k + 1))), (1, .int ((grS (σ.1 j) k) + 1)), (0, .ref (25 + 16 * j))] dX2_countGrass_27 rfl rfl rfl (Nat.le_of_ble_eq_true rfl) rfl ?_
      refine aw_goto (pc := 30) C 4 dX2_countGrass_30 (by decide) ?_
      refine aw_lvs C [0, 1, 2] [(2, .int (nI (k + 1))), (1, .int ((grS (σ.1 j) k) + 1)), (0, .ref (25 + 16 * j))] rfl ?_
      exact aw_conv (σ' := σ) (lv' := [(2, .int (nI (k + 1))), (1, .int (grS (σ.1 j) (k + 1))), (0, .ref (25 + 16 * j))]) rfl (by rw [grS, if_pos h17]) rfl ih4
theorem c_X2_countHolding (σ : St) (j : Nat) (hj : j < 3) : AMet Y_X2_countHolding [.ref (25 + 16 * j)] σ (fz (some (.int (hgS (σ.1 j) 10))) (σ)) := by
  refine am_intro (by decide +kernel) (Nat.le_of_ble_eq_true rfl) (fun K C => ?_)
  refine aw_iconst (pc := 0) (v := 0) C dX2_countHolding_0 rfl ?_
  refine aw_istore_n (pc := 1) C [(1, .int 0), (0, .ref (25 + 16 * j))] dX2_countHolding_1 (Nat.le_of_ble_eq_true rfl) rfl ?_
  refine aw_iconst (pc := 2) (v := 0) C dX2_countHolding_2 rfl ?_
  refine aw_istore_n (pc := 3) C [(2, .int 0), (1, .int 0), (0, .ref (25 + 16 * j))] dX2_countHolding_3 (Nat.le_of_ble_eq_true rfl) rfl ?_
  refine aw_lvs C [0, 1, 2] [(2, .int 0), (1, .int 0), (0, .ref (25 + 16 * j))] rfl ?_
  refine aw_conv (σ' := σ) (lv' := [(2, .int (nI 0)), (1, .int (hgS (σ.1 j) 0)), (0, .ref (25 + 16 * j))]) rfl rfl rfl ?_
  refine loop_up (P := fun k => AW _ K _ (σ) 4 [(2, .int (nI k)), (1, .int (hgS (σ.1 j) k)), (0, .ref (25 + 16 * j))] []) 10 ?_ ?_ 0 (by omega) 
  · refine aw_iload_n (pc := 4) C 0 dX2_countHolding_4 rfl ?_
    refine aw_bipush (pc := 5) (v := 10) C dX2_countHolding_5 rfl ?_
    refine aw_icmp_geN (pc := 7) C 10 10 33 rfl rfl (by omega) (by omega) dX2_countHolding_7 (by decide) (fun h7 => ?_) (fun h7 => absurd h7 (by omega))
    refine aw_iload_n (pc := 33) C 1 dX2_countHolding_33 rfl ?_
    exact aw_iret (pc := 34) C rfl dX2_countHolding_34 rfl rfl
  · intro k hk4 ih4 
    refine aw_iload_n (pc := 4) C 0 dX2_countHolding_4 rfl ?_
    refine aw_bipush (pc := 5) (v := 10) C dX2_countHolding_5 rfl ?_
    refine aw_icmp_geN (pc := 7) C k 10 33 rfl rfl (by omega) (by omega) dX2_countHolding_7 (by decide) (fun h7 => absurd h7 (by omega)) (fun h7 => ?_)
    refine aw_iload_n (pc := 10) C 1 dX2_countHolding_10 rfl ?_
    refine aw_aload_n (pc := 11) C 2 dX2_countHolding_11 rfl ?_
    refine aw_getR (pc := 12) C fl_X2_21 (shM hj) rfl dX2_countHolding_12 ?_
    refine aw_iload_n (pc := 15) C 0 dX2_countHolding_15 rfl ?_
    refine aw_ild (pc := 16) (k := k) C (255 + k) (σ.1 j (255 + k)) (shSp hj) dX2_countHolding_16 rfl (by omega) (by omega) rfl ?_
    refine aw_if_lt (pc := 17) C 24 dX2_countHolding_17 (by decide) (fun h17 => ?_) (fun h17 => ?_)
    · refine aw_iconst (pc := 24) (v := 0) C dX2_countHolding_24 rfl ?_
      refine aw_iadd (pc := 25) C dX2_countHolding_25 ?_
      refine aw_istore_n (pc := 26) C [(1, .int ((hgS (σ.1 j) k) + 0)), (2, .int (nI k)), (0, .ref (25 + 16 * j))] dX2_countHolding_26 (Nat.le_of_ble_eq_true rfl) rfl ?_
      refine aw_iincN (pc := 27) C 1 k [(2, .int (nI (k + 1))), (1, .int ((hgS (σ.1 j) k) + 0)), (0, .ref (25 + 16 * j))] dX2_countHolding_27 rfl rfl rfl (Nat.le_of_ble_eq_true rfl) rfl ?_
      refine aw_goto (pc := 30) C 4 dX2_countHolding_30 (by decide) ?_
      refine aw_lvs C [0, 1, 2] [(2, .int (nI (k + 1))), (1, .int ((hgS (σ.1 j) k) + 0)), (0, .ref (25 + 16 * j))] rfl ?_
      exact aw_conv (σ' := σ) (lv' := [(2, .int (nI (k + 1))), (1, .int (hgS (σ.1 j) (k + 1))), (0, .ref (25 + 16 * j))]) rfl (by rw [hgS, if_pos h17]) rfl ih4
    · refine aw_iconst (pc := 20) (v := 1) C dX2_countHolding_20 rfl ?_
      refine aw_goto (pc := 21) C 25 dX2_countHolding_21 (by decide) ?_
      refine aw_iadd (pc := 25) C dX2_countHolding_25 ?_
      refine aw_istore_n (pc := 26) C [(1, .int ((hgS (σ.1 j) k) + 1)), (2, .int (nI k)), (0, .ref (25 + 16 * j))] dX2_countHolding_26 (Nat.le_of_ble_eq_true rfl) rfl ?_
      refine aw_iincN (pc := 27) C 1 k [(2, .int (nI (k + 1))), (1, .int ((hgS (σ.1 j) k) + 1)), (0, .ref (25 + 16 * j))] dX2_countHolding_27 rfl rfl rfl (Nat.le_of_ble_eq_true rfl) rfl ?_
      refine aw_goto (pc := 30) C 4 dX2_countHolding_30 (by decide) ?_
      refine aw_lvs C [0, 1, 2] [(2, .int (nI (k + 1))), (1, .int ((hgS (σ.1 j) k) + 1)), (0, .ref (25 + 16 * j))] rfl ?_
      exact aw_conv (σ' := σ) (lv' := [(2, .int (nI (k + 1))), (1, .int (hgS (σ.1 j) (k + 1))), (0, .ref (25 + 16 * j))]) rfl (by rw [hgS, if_neg h17]) rfl ih4
theorem c_X2_add (σ : St) (j : Nat) (hj : j < 3) (n : Nat) (hn : σ.1 j 2 = nI n) (hz : n < 6) (k a s : Int32) : AMet Y_X2_add [.ref (25 + 16 * j), .int k, .int a, .int s] σ (fz (some (.int (nI n))) (setR σ j (newR (σ.1 j) n k a s 4))) := by
  refine am_intro (by decide +kernel) (Nat.le_of_ble_eq_true rfl) (fun K C => ?_)
  refine aw_aload_n (pc := 0) C 0 dX2_add_0 rfl ?_
  refine aw_getR (pc := 1) C fl_X2_17 (shM hj) rfl dX2_add_1 ?_
  refine aw_aload_n (pc := 4) C 0 dX2_add_4 rfl ?_
  refine aw_gld (pc := 5) C (σ.1 j 2) fl_X2_24 (shM hj) rfl dX2_add_5 rfl ?_
  refine aw_top C (nI (n)) hn ?_
  refine aw_aald (pc := 8) (k := n) C (shRs hj) dX2_add_8 rfl (by omega) ?_
  refine aw_iload_n (pc := 9) C 1 dX2_add_9 rfl ?_
  refine aw_iload_n (pc := 10) C 2 dX2_add_10 rfl ?_
  refine aw_iload_n (pc := 11) C 3 dX2_add_11 rfl ?_
  refine aw_cV0 (pc := 12) C (c_X4_beNew _ j hj n (by omega) k a s ) lk_X2_51 (shR hj (by omega)) rfl dX2_add_12 (by decide) (Nat.le_of_ble_eq_true rfl) rfl rfl ?_
  refine aw_aload_n (pc := 15) C 0 dX2_add_15 rfl ?_
  refine aw_dup (pc := 16) C dX2_add_16 rfl ?_
  refine aw_gld (pc := 17) C ((bnR (σ.1 j) n k a s) 2) fl_X2_24 (shM hj) rfl dX2_add_17 (by first | with_reducible rfl | (simp (disch := omega) only [setR_at, setR_twice, setL_at, setL_twice, setR_2, setL_1, setR_ne, setL_ne, ne_eq, Nat.reduceEqDiff, not_false_eq_true, pk_us, pk_un]; done) | (simp (disch := omega) only [setR_at, setR_twice, setL_at, setL_twice, setR_2, setL_1, setR_ne, setL_ne, ne_eq, Nat.reduceEqDiff, not_false_eq_true, pk_us, pk_un, Option.toList_some, Option.toList_none, List.cons_append, List.nil_append]; done) | ((try simp (disch := omega) only [setR_at, setR_twice, setL_at, setL_twice, setR_2, setL_1, setR_ne, setL_ne, ne_eq, Nat.reduceEqDiff, not_false_eq_true, pk_us, pk_un]); refine Prod.ext (funext fun z => ?_) rfl; simp only [setR]; (repeat' split) <;> first | with_reducible rfl | (exfalso; omega)) | rfl) ?_
  refine aw_top C (nI (n)) (by unfold bnR; rw [if_neg (by omega)]; exact hn) ?_
  refine aw_iconst (pc := 20) (v := 1) C dX2_add_20 rfl ?_
  refine aw_iaddN (pc := 21) C n 1 rfl rfl dX2_add_21 ?_
  refine aw_pst (pc := 22) C (setR σ j (upd (bnR (σ.1 j) n k a s) 2 (nI (n + 1)))) fp_X2_24 (shM hj) rfl dX2_add_22 (by first | with_reducible rfl | (simp (disch := omega) only [setR_at, setR_twice, setL_at, setL_twice, setR_2, setL_1, setR_ne, setL_ne, ne_eq, Nat.reduceEqDiff, not_false_eq_true, pk_us, pk_un]; done) | (simp (disch := omega) only [setR_at, setR_twice, setL_at, setL_twice, setR_2, setL_1, setR_ne, setL_ne, ne_eq, Nat.reduceEqDiff, not_false_eq_true, pk_us, pk_un, Option.toList_some, Option.toList_none, List.cons_append, List.nil_append]; done) | ((try simp (disch := omega) only [setR_at, setR_twice, setL_at, setL_twice, setR_2, setL_1, setR_ne, setL_ne, ne_eq, Nat.reduceEqDiff, not_false_eq_true, pk_us, pk_un]); refine Prod.ext (funext fun z => ?_) rfl; simp only [setR]; (repeat' split) <;> first | with_reducible rfl | (exfalso; omega)) | rfl) ?_
  refine aw_aload_n (pc := 25) C 0 dX2_add_25 rfl ?_
  refine aw_gld (pc := 26) C (nI (n + 1)) fl_X2_24 (shM hj) rfl dX2_add_26 (by first | with_reducible rfl | (simp (disch := omega) only [setR_at, setR_twice, setL_at, setL_twice, setR_2, setL_1, setR_ne, setL_ne, ne_eq, Nat.reduceEqDiff, not_false_eq_true, pk_us, pk_un]; done) | (simp (disch := omega) only [setR_at, setR_twice, setL_at, setL_twice, setR_2, setL_1, setR_ne, setL_ne, ne_eq, Nat.reduceEqDiff, not_false_eq_true, pk_us, pk_un, Option.toList_some, Option.toList_none, List.cons_append, List.nil_append]; done) | ((try simp (disch := omega) only [setR_at, setR_twice, setL_at, setL_twice, setR_2, setL_1, setR_ne, setL_ne, ne_eq, Nat.reduceEqDiff, not_false_eq_true, pk_us, pk_un]); refine Prod.ext (funext fun z => ?_) rfl; simp only [setR]; (repeat' split) <;> first | with_reducible rfl | (exfalso; omega)) | rfl) ?_
  refine aw_iconst (pc := 29) (v := 1) C dX2_add_29 rfl ?_
  refine aw_isubN (pc := 30) C (n + 1) 1 rfl rfl (by omega) dX2_add_30 ?_
  exact aw_iret (pc := 31) C rfl dX2_add_31 rfl (congrArg (setR σ j) newR_of)
theorem c_X2_become (σ : St) (j : Nat) (hj : j < 3) (k : Nat) (hk : k < 3) (hjk : j ≠ k) (n : Nat) (hn : σ.1 k 2 = nI n) (hz : n ≤ 6) : AMet Y_X2_become [.ref (25 + 16 * j), .ref (25 + 16 * k)] σ (fz none (setR σ j (bcm (σ.1 j) (σ.1 k) n))) := by
  refine am_intro (by decide +kernel) (Nat.le_of_ble_eq_true rfl) (fun K C => ?_)
  refine aw_aload_n (pc := 0) C 1 dX2_become_0 rfl ?_
  refine aw_getR (pc := 1) C fl_X2_9 (shM hk) rfl dX2_become_1 ?_
  refine aw_iconst (pc := 4) (v := 0) C dX2_become_4 rfl ?_
  refine aw_aload_n (pc := 5) C 0 dX2_become_5 rfl ?_
  refine aw_getR (pc := 6) C fl_X2_9 (shM hj) rfl dX2_become_6 ?_
  refine aw_iconst (pc := 9) (v := 0) C dX2_become_9 rfl ?_
  refine aw_bipush (pc := 10) (v := 30) C dX2_become_10 rfl ?_
  refine aw_copyI (pc := 12) (sp := 0) (dp := 0) (n := 30) C (shG hk) (shG hj) ac_X2_41 (by decide) rfl rfl rfl (by omega) (by omega) (Nat.le_of_ble_eq_true rfl) dX2_become_12 ?_
  refine aw_aload_n (pc := 15) C 1 dX2_become_15 rfl ?_
  refine aw_getR (pc := 16) C fl_X2_21 (shM hk) rfl dX2_become_16 ?_
  refine aw_iconst (pc := 19) (v := 0) C dX2_become_19 rfl ?_
  refine aw_aload_n (pc := 20) C 0 dX2_become_20 rfl ?_
  refine aw_getR (pc := 21) C fl_X2_21 (shM hj) rfl dX2_become_21 ?_
  refine aw_iconst (pc := 24) (v := 0) C dX2_become_24 rfl ?_
  refine aw_bipush (pc := 25) (v := 10) C dX2_become_25 rfl ?_
  refine aw_copyI (pc := 27) (sp := 0) (dp := 0) (n := 10) C (shSp hk) (shSp hj) ac_X2_41 (by decide) rfl rfl rfl (by omega) (by omega) (Nat.le_of_ble_eq_true rfl) dX2_become_27 ?_
  refine aw_conv (σ' := setR σ j (cpyR (σ.1 k) (cpyR (σ.1 k) (σ.1 j) (0 + 3) (0 + 3) 30) (0 + 255) (0 + 255) 10)) (by first | with_reducible rfl | (simp (disch := omega) only [setR_at, setR_twice, setL_at, setL_twice, setR_2, setL_1, setR_ne, setL_ne, ne_eq, Nat.reduceEqDiff, not_false_eq_true, pk_us, pk_un]; done) | (simp (disch := omega) only [setR_at, setR_twice, setL_at, setL_twice, setR_2, setL_1, setR_ne, setL_ne, ne_eq, Nat.reduceEqDiff, not_false_eq_true, pk_us, pk_un, Option.toList_some, Option.toList_none, List.cons_append, List.nil_append]; done) | ((try simp (disch := omega) only [setR_at, setR_twice, setL_at, setL_twice, setR_2, setL_1, setR_ne, setL_ne, ne_eq, Nat.reduceEqDiff, not_false_eq_true, pk_us, pk_un]); refine Prod.ext (funext fun z => ?_) rfl; simp only [setR]; (repeat' split) <;> first | with_reducible rfl | (exfalso; omega)) | rfl) rfl rfl ?_
  refine aw_iconst (pc := 30) (v := 0) C dX2_become_30 rfl ?_
  refine aw_istore_n (pc := 31) C [(2, .int 0), (0, .ref (25 + 16 * j)), (1, .ref (25 + 16 * k))] dX2_become_31 (Nat.le_of_ble_eq_true rfl) rfl ?_
  refine aw_lvs C [0, 1, 2] [(2, .int 0), (0, .ref (25 + 16 * j)), (1, .ref (25 + 16 * k))] rfl ?_
  refine aw_conv (σ' := setR σ j (bcK (σ.1 j) (σ.1 k) 0)) (lv' := [(2, .int (nI 0)), (0, .ref (25 + 16 * j)), (1, .ref (25 + 16 * k))]) (by rw [bcK_0]) rfl rfl ?_
  refine loop_up (P := fun m => AW _ K _ (setR σ j (bcK (σ.1 j) (σ.1 k) m)) 32 [(2, .int (nI m)), (0, .ref (25 + 16 * j)), (1, .ref (25 + 16 * k))] []) n ?_ ?_ 0 (by omega) 
  · refine aw_iload_n (pc := 32) C 0 dX2_become_32 rfl ?_
    refine aw_aload_n (pc := 33) C 2 dX2_become_33 rfl ?_
    refine aw_gld (pc := 34) C (σ.1 k 2) fl_X2_24 (shM hk) rfl dX2_become_34 (by first | with_reducible rfl | (simp (disch := omega) only [setR_at, setR_twice, setL_at, setL_twice, setR_2, setL_1, setR_ne, setL_ne, ne_eq, Nat.reduceEqDiff, not_false_eq_true, pk_us, pk_un]; done) | (simp (disch := omega) only [setR_at, setR_twice, setL_at, setL_twice, setR_2, setL_1, setR_ne, setL_ne, ne_eq, Nat.reduceEqDiff, not_false_eq_true, pk_us, pk_un, Option.toList_some, Option.toList_none, List.cons_append, List.nil_append]; done) | ((try simp (disch := omega) only [setR_at, setR_twice, setL_at, setL_twice, setR_2, setL_1, setR_ne, setL_ne, ne_eq, Nat.reduceEqDiff, not_false_eq_true, pk_us, pk_un]); refine Prod.ext (funext fun z => ?_) rfl; simp only [setR]; (repeat' split) <;> first | with_reducible rfl | (exfalso; omega)) | rfl) ?_
    refine aw_top C (nI (n)) hn ?_
    refine aw_icmp_geN (pc := 37) C n n 61 rfl rfl (by omega) (by omega) dX2_become_37 (by decide) (fun h37 => ?_) (fun h37 => absurd h37 (by omega))
    refine aw_aload_n (pc := 61) C 1 dX2_become_61 rfl ?_
    refine aw_aload_n (pc := 62) C 2 dX2_become_62 rfl ?_
    refine aw_gld (pc := 63) C (σ.1 k 2) fl_X2_24 (shM hk) rfl dX2_become_63 (by first | with_reducible rfl | (simp (disch := omega) only [setR_at, setR_twice, setL_at, setL_twice, setR_2, setL_1, setR_ne, setL_ne, ne_eq, Nat.reduceEqDiff, not_false_eq_true, pk_us, pk_un]; done) | (simp (disch := omega) only [setR_at, setR_twice, setL_at, setL_twice, setR_2, setL_1, setR_ne, setL_ne, ne_eq, Nat.reduceEqDiff, not_false_eq_true, pk_us, pk_un, Option.toList_some, Option.toList_none, List.cons_append, List.nil_append]; done) | ((try simp (disch := omega) only [setR_at, setR_twice, setL_at, setL_twice, setR_2, setL_1, setR_ne, setL_ne, ne_eq, Nat.reduceEqDiff, not_false_eq_true, pk_us, pk_un]); refine Prod.ext (funext fun z => ?_) rfl; simp only [setR]; (repeat' split) <;> first | with_reducible rfl | (exfalso; omega)) | rfl) ?_
    refine aw_pst (pc := 66) C (setR σ j (upd (bcK (σ.1 j) (σ.1 k) n) 2 (σ.1 k 2))) fp_X2_24 (shM hj) rfl dX2_become_66 (by first | with_reducible rfl | (simp (disch := omega) only [setR_at, setR_twice, setL_at, setL_twice, setR_2, setL_1, setR_ne, setL_ne, ne_eq, Nat.reduceEqDiff, not_false_eq_true, pk_us, pk_un]; done) | (simp (disch := omega) only [setR_at, setR_twice, setL_at, setL_twice, setR_2, setL_1, setR_ne, setL_ne, ne_eq, Nat.reduceEqDiff, not_false_eq_true, pk_us, pk_un, Option.toList_some, Option.toList_none, List.cons_append, List.nil_append]; done) | ((try simp (disch := omega) only [setR_at, setR_twice, setL_at, setL_twice, setR_2, setL_1, setR_ne, setL_ne, ne_eq, Nat.reduceEqDiff, not_false_eq_true, pk_us, pk_un]); refine Prod.ext (funext fun z => ?_) rfl; simp only [setR]; (repeat' split) <;> first | with_reducible rfl | (exfalso; omega)) | rfl) ?_
    refine aw_aload_n (pc := 69) C 1 dX2_become_69 rfl ?_
    refine aw_aload_n (pc := 70) C 2 dX2_become_70 rfl ?_
    refine aw_gld (pc := 71) C (σ.1 k 0) fl_X2_28 (shM hk) rfl dX2_become_71 (by first | with_reducible rfl | (simp (disch := omega) only [setR_at, setR_twice, setL_at, setL_twice, setR_2, setL_1, setR_ne, setL_ne, ne_eq, Nat.reduceEqDiff, not_false_eq_true, pk_us, pk_un]; done) | (simp (disch := omega) only [setR_at, setR_twice, setL_at, setL_twice, setR_2, setL_1, setR_ne, setL_ne, ne_eq, Nat.reduceEqDiff, not_false_eq_true, pk_us, pk_un, Option.toList_some, Option.toList_none, List.cons_append, List.nil_append]; done) | ((try simp (disch := omega) only [setR_at, setR_twice, setL_at, setL_twice, setR_2, setL_1, setR_ne, setL_ne, ne_eq, Nat.reduceEqDiff, not_false_eq_true, pk_us, pk_un]); refine Prod.ext (funext fun z => ?_) rfl; simp only [setR]; (repeat' split) <;> first | with_reducible rfl | (exfalso; omega)) | rfl) ?_
    refine aw_pst (pc := 74) C (setR σ j (upd (upd (bcK (σ.1 j) (σ.1 k) n) 2 (σ.1 k 2)) 0 (σ.1 k 0))) fp_X2_28 (shM hj) rfl dX2_become_74 (by first | with_reducible rfl | (simp (disch := omega) only [setR_at, setR_twice, setL_at, setL_twice, setR_2, setL_1, setR_ne, setL_ne, ne_eq, Nat.reduceEqDiff, not_false_eq_true, pk_us, pk_un]; done) | (simp (disch := omega) only [setR_at, setR_twice, setL_at, setL_twice, setR_2, setL_1, setR_ne, setL_ne, ne_eq, Nat.reduceEqDiff, not_false_eq_true, pk_us, pk_un, Option.toList_some, Option.toList_none, List.cons_append, List.nil_append]; done) | ((try simp (disch := omega) only [setR_at, setR_twice, setL_at, setL_twice, setR_2, setL_1, setR_ne, setL_ne, ne_eq, Nat.reduceEqDiff, not_false_eq_true, pk_us, pk_un]); refine Prod.ext (funext fun z => ?_) rfl; simp only [setR]; (repeat' split) <;> first | with_reducible rfl | (exfalso; omega)) | rfl) ?_
    refine aw_aload_n (pc := 77) C 1 dX2_become_77 rfl ?_
    refine aw_aload_n (pc := 78) C 2 dX2_become_78 rfl ?_
    refine aw_gld (pc := 79) C (σ.1 k 1) fl_X2_31 (shM hk) rfl dX2_become_79 (by first | with_reducible rfl | (simp (disch := omega) only [setR_at, setR_twice, setL_at, setL_twice, setR_2, setL_1, setR_ne, setL_ne, ne_eq, Nat.reduceEqDiff, not_false_eq_true, pk_us, pk_un]; done) | (simp (disch := omega) only [setR_at, setR_twice, setL_at, setL_twice, setR_2, setL_1, setR_ne, setL_ne, ne_eq, Nat.reduceEqDiff, not_false_eq_true, pk_us, pk_un, Option.toList_some, Option.toList_none, List.cons_append, List.nil_append]; done) | ((try simp (disch := omega) only [setR_at, setR_twice, setL_at, setL_twice, setR_2, setL_1, setR_ne, setL_ne, ne_eq, Nat.reduceEqDiff, not_false_eq_true, pk_us, pk_un]); refine Prod.ext (funext fun z => ?_) rfl; simp only [setR]; (repeat' split) <;> first | with_reducible rfl | (exfalso; omega)) | rfl) ?_
    refine aw_pst (pc := 82) C (setR σ j (upd (upd (upd (bcK (σ.1 j) (σ.1 k) n) 2 (σ.1 k 2)) 0 (σ.1 k 0)) 1 (σ.1 k 1))) fp_X2_31 (shM hj) rfl dX2_become_82 (by first | with_reducible rfl | (simp (disch := omega) only [setR_at, setR_twice, setL_at, setL_twice, setR_2, setL_1, setR_ne, setL_ne, ne_eq, Nat.reduceEqDiff, not_false_eq_true, pk_us, pk_un]; done) | (simp (disch := omega) only [setR_at, setR_twice, setL_at, setL_twice, setR_2, setL_1, setR_ne, setL_ne, ne_eq, Nat.reduceEqDiff, not_false_eq_true, pk_us, pk_un, Option.toList_some, Option.toList_none, List.cons_append, List.nil_append]; done) | ((try simp (disch := omega) only [setR_at, setR_twice, setL_at, setL_twice, setR_2, setL_1, setR_ne, setL_ne, ne_eq, Nat.reduceEqDiff, not_false_eq_true, pk_us, pk_un]); refine Prod.ext (funext fun z => ?_) rfl; simp only [setR]; (repeat' split) <;> first | with_reducible rfl | (exfalso; omega)) | rfl) ?_
    exact aw_vret (pc := 85) C rfl dX2_become_85 (congrArg (setR σ j) bcm_of)
  · intro m hk32 ih32 
    refine aw_iload_n (pc := 32) C 0 dX2_become_32 rfl ?_
    refine aw_aload_n (pc := 33) C 2 dX2_become_33 rfl ?_
    refine aw_gld (pc := 34) C (σ.1 k 2) fl_X2_24 (shM hk) rfl dX2_become_34 (by first | with_reducible rfl | (simp (disch := omega) only [setR_at, setR_twice, setL_at, setL_twice, setR_2, setL_1, setR_ne, setL_ne, ne_eq, Nat.reduceEqDiff, not_false_eq_true, pk_us, pk_un]; done) | (simp (disch := omega) only [setR_at, setR_twice, setL_at, setL_twice, setR_2, setL_1, setR_ne, setL_ne, ne_eq, Nat.reduceEqDiff, not_false_eq_true, pk_us, pk_un, Option.toList_some, Option.toList_none, List.cons_append, List.nil_append]; done) | ((try simp (disch := omega) only [setR_at, setR_twice, setL_at, setL_twice, setR_2, setL_1, setR_ne, setL_ne, ne_eq, Nat.reduceEqDiff, not_false_eq_true, pk_us, pk_un]); refine Prod.ext (funext fun z => ?_) rfl; simp only [setR]; (repeat' split) <;> first | with_reducible rfl | (exfalso; omega)) | rfl) ?_
    refine aw_top C (nI (n)) hn ?_
    refine aw_icmp_geN (pc := 37) C m n 61 rfl rfl (by omega) (by omega) dX2_become_37 (by decide) (fun h37 => absurd h37 (by omega)) (fun h37 => ?_)
    refine aw_aload_n (pc := 40) C 1 dX2_become_40 rfl ?_
    refine aw_getR (pc := 41) C fl_X2_17 (shM hj) rfl dX2_become_41 ?_
    refine aw_iload_n (pc := 44) C 0 dX2_become_44 rfl ?_
    refine aw_aald (pc := 45) (k := m) C (shRs hj) dX2_become_45 rfl (by omega) ?_
    refine aw_aload_n (pc := 46) C 2 dX2_become_46 rfl ?_
    refine aw_getR (pc := 47) C fl_X2_17 (shM hk) rfl dX2_become_47 ?_
    refine aw_iload_n (pc := 50) C 0 dX2_become_50 rfl ?_
    refine aw_aald (pc := 51) (k := m) C (shRs hk) dX2_become_51 rfl (by omega) ?_
    refine aw_cV0 (pc := 52) C (c_X4_become _ j hj m (by omega) k hk (by omega)) lk_X2_47 (shR hj (by omega)) rfl dX2_become_52 (by decide) (Nat.le_of_ble_eq_true rfl) rfl rfl ?_
    refine aw_conv (σ' := setR σ j (rbR (bcK (σ.1 j) (σ.1 k) m) (σ.1 k) m)) (st' := []) (by first | with_reducible rfl | (simp (disch := omega) only [setR_at, setR_twice, setL_at, setL_twice, setR_2, setL_1, setR_ne, setL_ne, ne_eq, Nat.reduceEqDiff, not_false_eq_true, pk_us, pk_un]; done) | (simp (disch := omega) only [setR_at, setR_twice, setL_at, setL_twice, setR_2, setL_1, setR_ne, setL_ne, ne_eq, Nat.reduceEqDiff, not_false_eq_true, pk_us, pk_un, Option.toList_some, Option.toList_none, List.cons_append, List.nil_append]; done) | ((try simp (disch := omega) only [setR_at, setR_twice, setL_at, setL_twice, setR_2, setL_1, setR_ne, setL_ne, ne_eq, Nat.reduceEqDiff, not_false_eq_true, pk_us, pk_un]); refine Prod.ext (funext fun z => ?_) rfl; simp only [setR]; (repeat' split) <;> first | with_reducible rfl | (exfalso; omega)) | rfl) rfl (by first | with_reducible rfl | (simp (disch := omega) only [setR_at, setR_twice, setL_at, setL_twice, setR_2, setL_1, setR_ne, setL_ne, ne_eq, Nat.reduceEqDiff, not_false_eq_true, pk_us, pk_un]; done) | (simp (disch := omega) only [setR_at, setR_twice, setL_at, setL_twice, setR_2, setL_1, setR_ne, setL_ne, ne_eq, Nat.reduceEqDiff, not_false_eq_true, pk_us, pk_un, Option.toList_some, Option.toList_none, List.cons_append, List.nil_append]; done) | ((try simp (disch := omega) only [setR_at, setR_twice, setL_at, setL_twice, setR_2, setL_1, setR_ne, setL_ne, ne_eq, Nat.reduceEqDiff, not_false_eq_true, pk_us, pk_un]); refine Prod.ext (funext fun z => ?_) rfl; simp only [setR]; (repeat' split) <;> first | with_reducible rfl | (exfalso; omega)) | rfl) ?_
    refine aw_iincN (pc := 55) C 0 m [(2, .int (nI (m + 1))), (0, .ref (25 + 16 * j)), (1, .ref (25 + 16 * k))] dX2_become_55 rfl rfl rfl (Nat.le_of_ble_eq_true rfl) rfl ?_
    refine aw_goto (pc := 58) C 32 dX2_become_58 (by decide) ?_
    refine aw_lvs C [0, 1, 2] [(2, .int (nI (m + 1))), (0, .ref (25 + 16 * j)), (1, .ref (25 + 16 * k))] rfl ?_
    exact aw_conv (σ' := setR σ j (bcK (σ.1 j) (σ.1 k) (m + 1))) (lv' := [(2, .int (nI (m + 1))), (0, .ref (25 + 16 * j)), (1, .ref (25 + 16 * k))]) (by rw [bcK_s (by omega)]) rfl rfl ih32
