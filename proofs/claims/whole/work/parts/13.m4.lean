/-! the reference: who runs, STEPS -/
theorem c_X9_runsNext (σ : St) (n : Nat) (hn : σ.1 20 2 = nI n) (hz : n ≤ 6) : AMet Y_X9_runsNext [.ref 73] σ (fz (some (.int (oI (nxt (σ.1 20) n)))) (σ)) := by
  refine am_intro (by decide +kernel) (Nat.le_of_ble_eq_true rfl) (fun K C => ?_)
  refine aw_iconst (pc := 0) (v := (-1)) C dX9_runsNext_0 rfl ?_
  refine aw_istore_n (pc := 1) C [(1, .int ((-1))), (0, .ref 73)] dX9_runsNext_1 (Nat.le_of_ble_eq_true rfl) rfl ?_
  refine aw_iconst (pc := 2) (v := 0) C dX9_runsNext_2 rfl ?_
  refine aw_istore_n (pc := 3) C [(2, .int 0), (1, .int ((-1))), (0, .ref 73)] dX9_runsNext_3 (Nat.le_of_ble_eq_true rfl) rfl ?_
  refine aw_lvs C [0, 1, 2] [(2, .int 0), (1, .int ((-1))), (0, .ref 73)] rfl ?_
  refine aw_conv (σ' := σ) (lv' := [(2, .int (nI 0)), (1, .int (oI (nxt (σ.1 20) 0))), (0, .ref 73)]) rfl rfl rfl ?_
  refine loop_up (P := fun k => AW _ K _ (σ) 4 [(2, .int (nI k)), (1, .int (oI (nxt (σ.1 20) k))), (0, .ref 73)] []) n ?_ ?_ 0 (by omega) 
  · refine aw_iload_n (pc := 4) C 0 dX9_runsNext_4 rfl ?_
    refine aw_aload_n (pc := 5) C 2 dX9_runsNext_5 rfl ?_
    refine aw_getR (pc := 6) C fl_X9_9 sh73 rfl dX9_runsNext_6 ?_
    refine aw_iconst (pc := 9) (v := 2) C dX9_runsNext_9 rfl ?_
    refine aw_ild (pc := 10) (k := 2) C (2) (σ.1 20 2) sh74 dX9_runsNext_10 rfl (by omega) rfl rfl ?_
    refine aw_top C (nI (n)) hn ?_
    refine aw_icmp_geN (pc := 11) C n n 49 rfl rfl (by omega) (by omega) dX9_runsNext_11 (by decide) (fun h11 => ?_) (fun h11 => absurd h11 (by omega))
    refine aw_iload_n (pc := 49) C 1 dX9_runsNext_49 rfl ?_
    exact aw_iret (pc := 50) C rfl dX9_runsNext_50 rfl rfl
  · intro k hk4 ih4 
    refine aw_iload_n (pc := 4) C 0 dX9_runsNext_4 rfl ?_
    refine aw_aload_n (pc := 5) C 2 dX9_runsNext_5 rfl ?_
    refine aw_getR (pc := 6) C fl_X9_9 sh73 rfl dX9_runsNext_6 ?_
    refine aw_iconst (pc := 9) (v := 2) C dX9_runsNext_9 rfl ?_
    refine aw_ild (pc := 10) (k := 2) C (2) (σ.1 20 2) sh74 dX9_runsNext_10 rfl (by omega) rfl rfl ?_
    refine aw_top C (nI (n)) hn ?_
    refine aw_icmp_geN (pc := 11) C k n 49 rfl rfl (by omega) (by omega) dX9_runsNext_11 (by decide) (fun h11 => absurd h11 (by omega)) (fun h11 => ?_)
    refine aw_aload_n (pc := 14) C 2 dX9_runsNext_14 rfl ?_
    refine aw_iload_n (pc := 15) C 0 dX9_runsNext_15 rfl ?_
    refine aw_cVI (pc := 16) C (c_X9_isHome _ k (by omega)) lk_X9_126 sh73 rfl dX9_runsNext_16 (by decide) (Nat.le_of_ble_eq_true rfl) rfl rfl ?_
    refine aw_if_neB (pc := 19) C 43 dX9_runsNext_19 (by decide) (fun h19 => ?_) (fun h19 => ?_)
    · refine aw_iincN (pc := 43) C 0 k [(2, .int (nI (k + 1))), (1, .int (oI (nxt (σ.1 20) k))), (0, .ref 73)] dX9_runsNext_43 rfl rfl rfl (Nat.le_of_ble_eq_true rfl) rfl ?_
      refine aw_goto (pc := 46) C 4 dX9_runsNext_46 (by decide) ?_
      refine aw_lvs C [0, 1, 2] [(2, .int (nI (k + 1))), (1, .int (oI (nxt (σ.1 20) k))), (0, .ref 73)] rfl ?_
      exact aw_conv (σ' := σ) (lv' := [(2, .int (nI (k + 1))), (1, .int (oI (nxt (σ.1 20) (k + 1)))), (0, .ref 73)]) rfl (by rw [nxt_home h19]) rfl ih4
    · rcases hb : nxt (σ.1 20) k with _ | b
      · refine aw_lvs C [0, 1, 2] [(2, .int (nI k)), (1, .int ((-1))), (0, .ref 73)] rfl ?_
        refine aw_iload_n (pc := 22) C 1 dX9_runsNext_22 rfl ?_
        refine aw_if_lt (pc := 23) C 41 dX9_runsNext_23 (by decide) (fun h23 => ?_) (fun h23 => absurd h23 (by decide))
        refine aw_iload_n (pc := 41) C 0 dX9_runsNext_41 rfl ?_
        refine aw_istore_n (pc := 42) C [(1, .int (nI k)), (2, .int (nI k)), (0, .ref 73)] dX9_runsNext_42 (Nat.le_of_ble_eq_true rfl) rfl ?_
        refine aw_iincN (pc := 43) C 1 k [(2, .int (nI (k + 1))), (1, .int (nI k)), (0, .ref 73)] dX9_runsNext_43 rfl rfl rfl (Nat.le_of_ble_eq_true rfl) rfl ?_
        refine aw_goto (pc := 46) C 4 dX9_runsNext_46 (by decide) ?_
        refine aw_lvs C [0, 1, 2] [(2, .int (nI (k + 1))), (1, .int (nI k)), (0, .ref 73)] rfl ?_
        exact aw_conv (σ' := σ) (lv' := [(2, .int (nI (k + 1))), (1, .int (oI (nxt (σ.1 20) (k + 1)))), (0, .ref 73)]) rfl (by rw [nxt_none h19 hb]; rfl) rfl ih4
      · have hbk := (nxt_lt hb).1
        refine aw_lvs C [0, 1, 2] [(2, .int (nI k)), (1, .int (nI b)), (0, .ref 73)] rfl ?_
        refine aw_iload_n (pc := 22) C 1 dX9_runsNext_22 rfl ?_
        refine aw_if_lt (pc := 23) C 41 dX9_runsNext_23 (by decide) (fun h23 => absurd h23 (nI_pos (by omega))) (fun h23 => ?_)
        refine aw_aload_n (pc := 26) C 2 dX9_runsNext_26 rfl ?_
        refine aw_iload_n (pc := 27) C 0 dX9_runsNext_27 rfl ?_
        refine aw_iconst (pc := 28) (v := 4) C dX9_runsNext_28 rfl ?_
        refine aw_cVI (pc := 29) C (c_X9_is _ k 4 (by omega)) lk_X9_62 sh73 rfl dX9_runsNext_29 (by decide) (Nat.le_of_ble_eq_true rfl) rfl rfl ?_
        refine aw_aload_n (pc := 32) C 2 dX9_runsNext_32 rfl ?_
        refine aw_iload_n (pc := 33) C 1 dX9_runsNext_33 rfl ?_
        refine aw_iconst (pc := 34) (v := 4) C dX9_runsNext_34 rfl ?_
        refine aw_cVI (pc := 35) C (c_X9_is _ b 4 (by omega)) lk_X9_62 sh73 rfl dX9_runsNext_35 (by decide) (Nat.le_of_ble_eq_true rfl) rfl rfl ?_
        refine aw_icmp_ge (pc := 38) C 43 dX9_runsNext_38 (by decide) (fun h38 => ?_) (fun h38 => ?_)
        · refine aw_iincN (pc := 43) C 0 k [(2, .int (nI (k + 1))), (1, .int (nI b)), (0, .ref 73)] dX9_runsNext_43 rfl rfl rfl (Nat.le_of_ble_eq_true rfl) rfl ?_
          refine aw_goto (pc := 46) C 4 dX9_runsNext_46 (by decide) ?_
          refine aw_lvs C [0, 1, 2] [(2, .int (nI (k + 1))), (1, .int (nI b)), (0, .ref 73)] rfl ?_
          exact aw_conv (σ' := σ) (lv' := [(2, .int (nI (k + 1))), (1, .int (oI (nxt (σ.1 20) (k + 1)))), (0, .ref 73)]) rfl (by rw [nxt_more h19 hb (Int32.not_lt.mpr h38)]; rfl) rfl ih4
        · refine aw_iload_n (pc := 41) C 0 dX9_runsNext_41 rfl ?_
          refine aw_istore_n (pc := 42) C [(1, .int (nI k)), (2, .int (nI k)), (0, .ref 73)] dX9_runsNext_42 (Nat.le_of_ble_eq_true rfl) rfl ?_
          refine aw_iincN (pc := 43) C 1 k [(2, .int (nI (k + 1))), (1, .int (nI k)), (0, .ref 73)] dX9_runsNext_43 rfl rfl rfl (Nat.le_of_ble_eq_true rfl) rfl ?_
          refine aw_goto (pc := 46) C 4 dX9_runsNext_46 (by decide) ?_
          refine aw_lvs C [0, 1, 2] [(2, .int (nI (k + 1))), (1, .int (nI k)), (0, .ref 73)] rfl ?_
          exact aw_conv (σ' := σ) (lv' := [(2, .int (nI (k + 1))), (1, .int (oI (nxt (σ.1 20) (k + 1)))), (0, .ref 73)]) rfl (by rw [nxt_less h19 hb (Int32.not_le.mp h38)]; rfl) rfl ih4
theorem c_X9_step (σ : St) (n : Nat) (hn : σ.1 20 2 = nI n) (hz : n ≤ 6) (r : Nat) (hr : r < n) (y : Nat) (hy : fl (σ.1 20) r 3 = nI y) (hy3 : y < 30) : AMet Y_X9_step [.ref 73, .int (nI r)] σ (fz (some (.int (stepD (σ.1 20) n r))) (setR σ 20 (stepM (σ.1 20) n r))) := by
  refine am_intro (by decide +kernel) (Nat.le_of_ble_eq_true rfl) (fun K C => ?_)
  refine aw_aload_n (pc := 0) C 0 dX9_step_0 rfl ?_
  refine aw_iload_n (pc := 1) C 1 dX9_step_1 rfl ?_
  refine aw_iconst (pc := 2) (v := 3) C dX9_step_2 rfl ?_
  refine aw_cVI (pc := 3) C (c_X9_is _ r 3 (by omega)) lk_X9_62 sh73 rfl dX9_step_3 (by decide) (Nat.le_of_ble_eq_true rfl) rfl rfl ?_
  refine aw_top C (nI (y)) hy ?_
  refine aw_istore_n (pc := 6) C [(2, .int (nI y)), (0, .ref 73), (1, .int (nI r))] dX9_step_6 (Nat.le_of_ble_eq_true rfl) rfl ?_
  refine aw_aload_n (pc := 7) C 1 dX9_step_7 rfl ?_
  refine aw_iload_n (pc := 8) C 2 dX9_step_8 rfl ?_
  refine aw_cVI (pc := 9) C (c_X9_oddsNow _ n hn hz r (by omega) y hy hy3) lk_X9_135 sh73 rfl dX9_step_9 (by decide) (Nat.le_of_ble_eq_true rfl) rfl rfl ?_
  refine aw_istore_n (pc := 12) C [(3, .int (oddsN (σ.1 20) n r)), (2, .int (nI y)), (0, .ref 73), (1, .int (nI r))] dX9_step_12 (Nat.le_of_ble_eq_true rfl) rfl ?_
  refine aw_iload_n (pc := 13) C 0 dX9_step_13 rfl ?_
  refine aw_if_le (pc := 14) C 32 dX9_step_14 (by decide) (fun h14 => ?_) (fun h14 => ?_)
  · refine aw_iconst (pc := 32) (v := 0) C dX9_step_32 rfl ?_
    refine aw_istore (pc := 33) C [(4, .int 0), (3, .int (oddsN (σ.1 20) n r)), (2, .int (nI y)), (0, .ref 73), (1, .int (nI r))] dX9_step_33 (Nat.le_of_ble_eq_true rfl) rfl ?_
    refine aw_aload_n (pc := 35) C 3 dX9_step_35 rfl ?_
    refine aw_iload_n (pc := 36) C 4 dX9_step_36 rfl ?_
    refine aw_iconst (pc := 37) (v := 5) C dX9_step_37 rfl ?_
    refine aw_cVI (pc := 38) C (c_X9_is _ r 5 (by omega)) lk_X9_62 sh73 rfl dX9_step_38 (by decide) (Nat.le_of_ble_eq_true rfl) rfl rfl ?_
    refine aw_istore (pc := 41) C [(5, .int (σ.1 20 (33 + 37 * r + 5))), (4, .int 0), (3, .int (oddsN (σ.1 20) n r)), (2, .int (nI y)), (0, .ref 73), (1, .int (nI r))] dX9_step_41 (Nat.le_of_ble_eq_true rfl) rfl ?_
    refine aw_aload_n (pc := 43) C 4 dX9_step_43 rfl ?_
    refine aw_iload_n (pc := 44) C 5 dX9_step_44 rfl ?_
    refine aw_iconst (pc := 45) (v := 4) C dX9_step_45 rfl ?_
    refine aw_aload_n (pc := 46) C 4 dX9_step_46 rfl ?_
    refine aw_iload_n (pc := 47) C 5 dX9_step_47 rfl ?_
    refine aw_iconst (pc := 48) (v := 4) C dX9_step_48 rfl ?_
    refine aw_cVI (pc := 49) C (c_X9_is _ r 4 (by omega)) lk_X9_62 sh73 rfl dX9_step_49 (by decide) (Nat.le_of_ble_eq_true rfl) rfl rfl ?_
    refine aw_aload_n (pc := 52) C 4 dX9_step_52 rfl ?_
    refine aw_iload_n (pc := 53) C 5 dX9_step_53 rfl ?_
    refine aw_aload_n (pc := 54) C 4 dX9_step_54 rfl ?_
    refine aw_iload_n (pc := 55) C 5 dX9_step_55 rfl ?_
    refine aw_iload_n (pc := 56) C 3 dX9_step_56 rfl ?_
    refine aw_cVI (pc := 57) C (c_X9_paceAt _ r y (by omega) (by omega)) lk_X9_110 sh73 rfl dX9_step_57 (by decide) (Nat.le_of_ble_eq_true rfl) rfl rfl ?_
    refine aw_cVI (pc := 60) C (c_X9_takes _ r (σ.1 20 (33 + 37 * r + (7 + y))) (by omega)) lk_X9_119 sh73 rfl dX9_step_60 (by decide) (Nat.le_of_ble_eq_true rfl) rfl rfl ?_
    refine aw_iadd (pc := 63) C dX9_step_63 ?_
    refine aw_iload (pc := 64) C 1 dX9_step_64 rfl ?_
    refine aw_if_eq (pc := 66) C 78 dX9_step_66 (by decide) (fun h66 => ?_) (fun h66 => absurd h66 (by decide))
    refine aw_iconst (pc := 78) (v := 0) C dX9_step_78 rfl ?_
    refine aw_iadd (pc := 79) C dX9_step_79 ?_
    refine aw_cV0 (pc := 80) C (c_X9_makes _ r 4 (((σ.1 20 (33 + 37 * r + 4)) + (sTakes (σ.1 20 (33 + 37 * r + 0)) (σ.1 20 (33 + 37 * r + (7 + y))))) + 0) (by omega)) lk_X9_77 sh73 rfl dX9_step_80 (by decide) (Nat.le_of_ble_eq_true rfl) rfl rfl ?_
    refine aw_aload_n (pc := 83) C 4 dX9_step_83 rfl ?_
    refine aw_iload_n (pc := 84) C 5 dX9_step_84 rfl ?_
    refine aw_iconst (pc := 85) (v := 5) C dX9_step_85 rfl ?_
    refine aw_iload (pc := 86) C 1 dX9_step_86 rfl ?_
    refine aw_if_eq (pc := 88) C 95 dX9_step_88 (by decide) (fun h88 => ?_) (fun h88 => absurd h88 (by decide))
    refine aw_iload (pc := 95) C 0 dX9_step_95 rfl ?_
    refine aw_if_le (pc := 97) C 107 dX9_step_97 (by decide) (fun h97 => ?_) (fun h97 => ?_)
    · refine aw_iconst (pc := 107) (v := 0) C dX9_step_107 rfl ?_
      refine aw_cV0 (pc := 108) C (c_X9_makes _ r 5 0 (by omega)) lk_X9_77 sh73 rfl dX9_step_108 (by decide) (Nat.le_of_ble_eq_true rfl) rfl rfl ?_
      refine aw_conv (σ' := setR σ 20 (upd (upd (σ.1 20) (33 + 37 * r + 4) (((σ.1 20 (33 + 37 * r + 4)) + (sTakes (σ.1 20 (33 + 37 * r + 0)) (σ.1 20 (33 + 37 * r + (7 + y))))) + 0)) (33 + 37 * r + 5) (0))) (st' := []) (by first | rfl | (simp (disch := omega) only [setR_at, setR_twice, setL_at, setL_twice, setR_2, setL_1, setR_ne, setL_ne, ne_eq, Nat.reduceEqDiff, not_false_eq_true, pk_us, pk_un]; done) | ((try simp (disch := omega) only [setR_at, setR_twice, setL_at, setL_twice, setR_2, setL_1, setR_ne, setL_ne, ne_eq, Nat.reduceEqDiff, not_false_eq_true, pk_us, pk_un]); refine Prod.ext (funext fun z => ?_) rfl; simp only [setR]; (repeat' split) <;> first | rfl | (exfalso; omega))) rfl (by first | rfl | (simp (disch := omega) only [setR_at, setR_twice, setL_at, setL_twice, setR_2, setL_1, setR_ne, setL_ne, ne_eq, Nat.reduceEqDiff, not_false_eq_true, pk_us, pk_un]; done) | ((try simp (disch := omega) only [setR_at, setR_twice, setL_at, setL_twice, setR_2, setL_1, setR_ne, setL_ne, ne_eq, Nat.reduceEqDiff, not_false_eq_true, pk_us, pk_un]); refine Prod.ext (funext fun z => ?_) rfl; simp only [setR]; (repeat' split) <;> first | rfl | (exfalso; omega))) ?_
      refine aw_aload_n (pc := 111) C 4 dX9_step_111 rfl ?_
      refine aw_iload_n (pc := 112) C 5 dX9_step_112 rfl ?_
      refine aw_bipush (pc := 113) (v := 6) C dX9_step_113 rfl ?_
      refine aw_aload_n (pc := 115) C 4 dX9_step_115 rfl ?_
      refine aw_iload_n (pc := 116) C 5 dX9_step_116 rfl ?_
      refine aw_bipush (pc := 117) (v := 6) C dX9_step_117 rfl ?_
      refine aw_cVI (pc := 119) C (c_X9_is _ r 6 (by omega)) lk_X9_62 sh73 rfl dX9_step_119 (by decide) (Nat.le_of_ble_eq_true rfl) rfl rfl ?_
      refine aw_conv (σ' := setR σ 20 (upd (upd (σ.1 20) (33 + 37 * r + 4) (((σ.1 20 (33 + 37 * r + 4)) + (sTakes (σ.1 20 (33 + 37 * r + 0)) (σ.1 20 (33 + 37 * r + (7 + y))))) + 0)) (33 + 37 * r + 5) (0))) (st' := [.int (σ.1 20 (33 + 37 * r + 6)), .int 6, .int (nI r), .ref 73]) (by first | rfl | (simp (disch := omega) only [setR_at, setR_twice, setL_at, setL_twice, setR_2, setL_1, setR_ne, setL_ne, ne_eq, Nat.reduceEqDiff, not_false_eq_true, pk_us, pk_un]; done) | ((try simp (disch := omega) only [setR_at, setR_twice, setL_at, setL_twice, setR_2, setL_1, setR_ne, setL_ne, ne_eq, Nat.reduceEqDiff, not_false_eq_true, pk_us, pk_un]); refine Prod.ext (funext fun z => ?_) rfl; simp only [setR]; (repeat' split) <;> first | rfl | (exfalso; omega))) rfl (by first | rfl | (simp (disch := omega) only [setR_at, setR_twice, setL_at, setL_twice, setR_2, setL_1, setR_ne, setL_ne, ne_eq, Nat.reduceEqDiff, not_false_eq_true, pk_us, pk_un]; done) | ((try simp (disch := omega) only [setR_at, setR_twice, setL_at, setL_twice, setR_2, setL_1, setR_ne, setL_ne, ne_eq, Nat.reduceEqDiff, not_false_eq_true, pk_us, pk_un]); refine Prod.ext (funext fun z => ?_) rfl; simp only [setR]; (repeat' split) <;> first | rfl | (exfalso; omega))) ?_
      refine aw_iload (pc := 122) C 1 dX9_step_122 rfl ?_
      refine aw_if_eq (pc := 124) C 131 dX9_step_124 (by decide) (fun h124 => ?_) (fun h124 => absurd h124 (by decide))
      refine aw_iconst (pc := 131) (v := 0) C dX9_step_131 rfl ?_
      refine aw_iadd (pc := 132) C dX9_step_132 ?_
      refine aw_cV0 (pc := 133) C (c_X9_makes _ r 6 ((σ.1 20 (33 + 37 * r + 6)) + 0) (by omega)) lk_X9_77 sh73 rfl dX9_step_133 (by decide) (Nat.le_of_ble_eq_true rfl) rfl rfl ?_
      refine aw_conv (σ' := setR σ 20 (upd (upd (upd (σ.1 20) (33 + 37 * r + 4) (((σ.1 20 (33 + 37 * r + 4)) + (sTakes (σ.1 20 (33 + 37 * r + 0)) (σ.1 20 (33 + 37 * r + (7 + y))))) + 0)) (33 + 37 * r + 5) (0)) (33 + 37 * r + 6) ((σ.1 20 (33 + 37 * r + 6)) + 0))) (st' := []) (by first | rfl | (simp (disch := omega) only [setR_at, setR_twice, setL_at, setL_twice, setR_2, setL_1, setR_ne, setL_ne, ne_eq, Nat.reduceEqDiff, not_false_eq_true, pk_us, pk_un]; done) | ((try simp (disch := omega) only [setR_at, setR_twice, setL_at, setL_twice, setR_2, setL_1, setR_ne, setL_ne, ne_eq, Nat.reduceEqDiff, not_false_eq_true, pk_us, pk_un]); refine Prod.ext (funext fun z => ?_) rfl; simp only [setR]; (repeat' split) <;> first | rfl | (exfalso; omega))) rfl (by first | rfl | (simp (disch := omega) only [setR_at, setR_twice, setL_at, setL_twice, setR_2, setL_1, setR_ne, setL_ne, ne_eq, Nat.reduceEqDiff, not_false_eq_true, pk_us, pk_un]; done) | ((try simp (disch := omega) only [setR_at, setR_twice, setL_at, setL_twice, setR_2, setL_1, setR_ne, setL_ne, ne_eq, Nat.reduceEqDiff, not_false_eq_true, pk_us, pk_un]); refine Prod.ext (funext fun z => ?_) rfl; simp only [setR]; (repeat' split) <;> first | rfl | (exfalso; omega))) ?_
      refine aw_aload_n (pc := 136) C 4 dX9_step_136 rfl ?_
      refine aw_iload_n (pc := 137) C 5 dX9_step_137 rfl ?_
      refine aw_iconst (pc := 138) (v := 3) C dX9_step_138 rfl ?_
      refine aw_iload_n (pc := 139) C 3 dX9_step_139 rfl ?_
      refine aw_iconst (pc := 140) (v := 1) C dX9_step_140 rfl ?_
      refine aw_iaddN (pc := 141) C y 1 rfl rfl dX9_step_141 ?_
      refine aw_cV0 (pc := 142) C (c_X9_makes _ r 3 (nI (y + 1)) (by omega)) lk_X9_77 sh73 rfl dX9_step_142 (by decide) (Nat.le_of_ble_eq_true rfl) rfl rfl ?_
      refine aw_conv (σ' := setR σ 20 (upd (upd (upd (upd (σ.1 20) (33 + 37 * r + 4) (((σ.1 20 (33 + 37 * r + 4)) + (sTakes (σ.1 20 (33 + 37 * r + 0)) (σ.1 20 (33 + 37 * r + (7 + y))))) + 0)) (33 + 37 * r + 5) (0)) (33 + 37 * r + 6) ((σ.1 20 (33 + 37 * r + 6)) + 0)) (33 + 37 * r + 3) (nI (y + 1)))) (st' := []) (by first | rfl | (simp (disch := omega) only [setR_at, setR_twice, setL_at, setL_twice, setR_2, setL_1, setR_ne, setL_ne, ne_eq, Nat.reduceEqDiff, not_false_eq_true, pk_us, pk_un]; done) | ((try simp (disch := omega) only [setR_at, setR_twice, setL_at, setL_twice, setR_2, setL_1, setR_ne, setL_ne, ne_eq, Nat.reduceEqDiff, not_false_eq_true, pk_us, pk_un]); refine Prod.ext (funext fun z => ?_) rfl; simp only [setR]; (repeat' split) <;> first | rfl | (exfalso; omega))) rfl (by first | rfl | (simp (disch := omega) only [setR_at, setR_twice, setL_at, setL_twice, setR_2, setL_1, setR_ne, setL_ne, ne_eq, Nat.reduceEqDiff, not_false_eq_true, pk_us, pk_un]; done) | ((try simp (disch := omega) only [setR_at, setR_twice, setL_at, setL_twice, setR_2, setL_1, setR_ne, setL_ne, ne_eq, Nat.reduceEqDiff, not_false_eq_true, pk_us, pk_un]); refine Prod.ext (funext fun z => ?_) rfl; simp only [setR]; (repeat' split) <;> first | rfl | (exfalso; omega))) ?_
      refine aw_iload (pc := 145) C 1 dX9_step_145 rfl ?_
      refine aw_if_eq (pc := 147) C 154 dX9_step_147 (by decide) (fun h147 => ?_) (fun h147 => absurd h147 (by decide))
      refine aw_iconst (pc := 154) (v := 0) C dX9_step_154 rfl ?_
      exact aw_iret (pc := 155) C rfl dX9_step_155 (by have hd : ¬ dropP (σ.1 20) n r := (fun z => Int32.not_lt.mpr h14 z.1); rw [stepD, if_neg hd]) (by have hd : ¬ dropP (σ.1 20) n r := (fun z => Int32.not_lt.mpr h14 z.1); simp only [stepM, drawn, if_neg hd, if_neg (Int32.not_lt.mpr h14), if_neg (Int32.not_lt.mpr h97), hy, nI_1, cl_nI (show y < 2147483648 by omega)])
    · refine aw_iload (pc := 100) C 0 dX9_step_100 rfl ?_
      refine aw_iconst (pc := 102) (v := 1) C dX9_step_102 rfl ?_
      refine aw_isub (pc := 103) C dX9_step_103 ?_
      refine aw_goto (pc := 104) C 108 dX9_step_104 (by decide) ?_
      refine aw_cV0 (pc := 108) C (c_X9_makes _ r 5 ((σ.1 20 (33 + 37 * r + 5)) - 1) (by omega)) lk_X9_77 sh73 rfl dX9_step_108 (by decide) (Nat.le_of_ble_eq_true rfl) rfl rfl ?_
      refine aw_conv (σ' := setR σ 20 (upd (upd (σ.1 20) (33 + 37 * r + 4) (((σ.1 20 (33 + 37 * r + 4)) + (sTakes (σ.1 20 (33 + 37 * r + 0)) (σ.1 20 (33 + 37 * r + (7 + y))))) + 0)) (33 + 37 * r + 5) ((σ.1 20 (33 + 37 * r + 5)) - 1))) (st' := []) (by first | rfl | (simp (disch := omega) only [setR_at, setR_twice, setL_at, setL_twice, setR_2, setL_1, setR_ne, setL_ne, ne_eq, Nat.reduceEqDiff, not_false_eq_true, pk_us, pk_un]; done) | ((try simp (disch := omega) only [setR_at, setR_twice, setL_at, setL_twice, setR_2, setL_1, setR_ne, setL_ne, ne_eq, Nat.reduceEqDiff, not_false_eq_true, pk_us, pk_un]); refine Prod.ext (funext fun z => ?_) rfl; simp only [setR]; (repeat' split) <;> first | rfl | (exfalso; omega))) rfl (by first | rfl | (simp (disch := omega) only [setR_at, setR_twice, setL_at, setL_twice, setR_2, setL_1, setR_ne, setL_ne, ne_eq, Nat.reduceEqDiff, not_false_eq_true, pk_us, pk_un]; done) | ((try simp (disch := omega) only [setR_at, setR_twice, setL_at, setL_twice, setR_2, setL_1, setR_ne, setL_ne, ne_eq, Nat.reduceEqDiff, not_false_eq_true, pk_us, pk_un]); refine Prod.ext (funext fun z => ?_) rfl; simp only [setR]; (repeat' split) <;> first | rfl | (exfalso; omega))) ?_
      refine aw_aload_n (pc := 111) C 4 dX9_step_111 rfl ?_
      refine aw_iload_n (pc := 112) C 5 dX9_step_112 rfl ?_
      refine aw_bipush (pc := 113) (v := 6) C dX9_step_113 rfl ?_
      refine aw_aload_n (pc := 115) C 4 dX9_step_115 rfl ?_
      refine aw_iload_n (pc := 116) C 5 dX9_step_116 rfl ?_
      refine aw_bipush (pc := 117) (v := 6) C dX9_step_117 rfl ?_
      refine aw_cVI (pc := 119) C (c_X9_is _ r 6 (by omega)) lk_X9_62 sh73 rfl dX9_step_119 (by decide) (Nat.le_of_ble_eq_true rfl) rfl rfl ?_
      refine aw_conv (σ' := setR σ 20 (upd (upd (σ.1 20) (33 + 37 * r + 4) (((σ.1 20 (33 + 37 * r + 4)) + (sTakes (σ.1 20 (33 + 37 * r + 0)) (σ.1 20 (33 + 37 * r + (7 + y))))) + 0)) (33 + 37 * r + 5) ((σ.1 20 (33 + 37 * r + 5)) - 1))) (st' := [.int (σ.1 20 (33 + 37 * r + 6)), .int 6, .int (nI r), .ref 73]) (by first | rfl | (simp (disch := omega) only [setR_at, setR_twice, setL_at, setL_twice, setR_2, setL_1, setR_ne, setL_ne, ne_eq, Nat.reduceEqDiff, not_false_eq_true, pk_us, pk_un]; done) | ((try simp (disch := omega) only [setR_at, setR_twice, setL_at, setL_twice, setR_2, setL_1, setR_ne, setL_ne, ne_eq, Nat.reduceEqDiff, not_false_eq_true, pk_us, pk_un]); refine Prod.ext (funext fun z => ?_) rfl; simp only [setR]; (repeat' split) <;> first | rfl | (exfalso; omega))) rfl (by first | rfl | (simp (disch := omega) only [setR_at, setR_twice, setL_at, setL_twice, setR_2, setL_1, setR_ne, setL_ne, ne_eq, Nat.reduceEqDiff, not_false_eq_true, pk_us, pk_un]; done) | ((try simp (disch := omega) only [setR_at, setR_twice, setL_at, setL_twice, setR_2, setL_1, setR_ne, setL_ne, ne_eq, Nat.reduceEqDiff, not_false_eq_true, pk_us, pk_un]); refine Prod.ext (funext fun z => ?_) rfl; simp only [setR]; (repeat' split) <;> first | rfl | (exfalso; omega))) ?_
      refine aw_iload (pc := 122) C 1 dX9_step_122 rfl ?_
      refine aw_if_eq (pc := 124) C 131 dX9_step_124 (by decide) (fun h124 => ?_) (fun h124 => absurd h124 (by decide))
      refine aw_iconst (pc := 131) (v := 0) C dX9_step_131 rfl ?_
      refine aw_iadd (pc := 132) C dX9_step_132 ?_
      refine aw_cV0 (pc := 133) C (c_X9_makes _ r 6 ((σ.1 20 (33 + 37 * r + 6)) + 0) (by omega)) lk_X9_77 sh73 rfl dX9_step_133 (by decide) (Nat.le_of_ble_eq_true rfl) rfl rfl ?_
      refine aw_conv (σ' := setR σ 20 (upd (upd (upd (σ.1 20) (33 + 37 * r + 4) (((σ.1 20 (33 + 37 * r + 4)) + (sTakes (σ.1 20 (33 + 37 * r + 0)) (σ.1 20 (33 + 37 * r + (7 + y))))) + 0)) (33 + 37 * r + 5) ((σ.1 20 (33 + 37 * r + 5)) - 1)) (33 + 37 * r + 6) ((σ.1 20 (33 + 37 * r + 6)) + 0))) (st' := []) (by first | rfl | (simp (disch := omega) only [setR_at, setR_twice, setL_at, setL_twice, setR_2, setL_1, setR_ne, setL_ne, ne_eq, Nat.reduceEqDiff, not_false_eq_true, pk_us, pk_un]; done) | ((try simp (disch := omega) only [setR_at, setR_twice, setL_at, setL_twice, setR_2, setL_1, setR_ne, setL_ne, ne_eq, Nat.reduceEqDiff, not_false_eq_true, pk_us, pk_un]); refine Prod.ext (funext fun z => ?_) rfl; simp only [setR]; (repeat' split) <;> first | rfl | (exfalso; omega))) rfl (by first | rfl | (simp (disch := omega) only [setR_at, setR_twice, setL_at, setL_twice, setR_2, setL_1, setR_ne, setL_ne, ne_eq, Nat.reduceEqDiff, not_false_eq_true, pk_us, pk_un]; done) | ((try simp (disch := omega) only [setR_at, setR_twice, setL_at, setL_twice, setR_2, setL_1, setR_ne, setL_ne, ne_eq, Nat.reduceEqDiff, not_false_eq_true, pk_us, pk_un]); refine Prod.ext (funext fun z => ?_) rfl; simp only [setR]; (repeat' split) <;> first | rfl | (exfalso; omega))) ?_
      refine aw_aload_n (pc := 136) C 4 dX9_step_136 rfl ?_
      refine aw_iload_n (pc := 137) C 5 dX9_step_137 rfl ?_
      refine aw_iconst (pc := 138) (v := 3) C dX9_step_138 rfl ?_
      refine aw_iload_n (pc := 139) C 3 dX9_step_139 rfl ?_
      refine aw_iconst (pc := 140) (v := 1) C dX9_step_140 rfl ?_
      refine aw_iaddN (pc := 141) C y 1 rfl rfl dX9_step_141 ?_
      refine aw_cV0 (pc := 142) C (c_X9_makes _ r 3 (nI (y + 1)) (by omega)) lk_X9_77 sh73 rfl dX9_step_142 (by decide) (Nat.le_of_ble_eq_true rfl) rfl rfl ?_
      refine aw_conv (σ' := setR σ 20 (upd (upd (upd (upd (σ.1 20) (33 + 37 * r + 4) (((σ.1 20 (33 + 37 * r + 4)) + (sTakes (σ.1 20 (33 + 37 * r + 0)) (σ.1 20 (33 + 37 * r + (7 + y))))) + 0)) (33 + 37 * r + 5) ((σ.1 20 (33 + 37 * r + 5)) - 1)) (33 + 37 * r + 6) ((σ.1 20 (33 + 37 * r + 6)) + 0)) (33 + 37 * r + 3) (nI (y + 1)))) (st' := []) (by first | rfl | (simp (disch := omega) only [setR_at, setR_twice, setL_at, setL_twice, setR_2, setL_1, setR_ne, setL_ne, ne_eq, Nat.reduceEqDiff, not_false_eq_true, pk_us, pk_un]; done) | ((try simp (disch := omega) only [setR_at, setR_twice, setL_at, setL_twice, setR_2, setL_1, setR_ne, setL_ne, ne_eq, Nat.reduceEqDiff, not_false_eq_true, pk_us, pk_un]); refine Prod.ext (funext fun z => ?_) rfl; simp only [setR]; (repeat' split) <;> first | rfl | (exfalso; omega))) rfl (by first | rfl | (simp (disch := omega) only [setR_at, setR_twice, setL_at, setL_twice, setR_2, setL_1, setR_ne, setL_ne, ne_eq, Nat.reduceEqDiff, not_false_eq_true, pk_us, pk_un]; done) | ((try simp (disch := omega) only [setR_at, setR_twice, setL_at, setL_twice, setR_2, setL_1, setR_ne, setL_ne, ne_eq, Nat.reduceEqDiff, not_false_eq_true, pk_us, pk_un]); refine Prod.ext (funext fun z => ?_) rfl; simp only [setR]; (repeat' split) <;> first | rfl | (exfalso; omega))) ?_
      refine aw_iload (pc := 145) C 1 dX9_step_145 rfl ?_
      refine aw_if_eq (pc := 147) C 154 dX9_step_147 (by decide) (fun h147 => ?_) (fun h147 => absurd h147 (by decide))
      refine aw_iconst (pc := 154) (v := 0) C dX9_step_154 rfl ?_
      exact aw_iret (pc := 155) C rfl dX9_step_155 (by have hd : ¬ dropP (σ.1 20) n r := (fun z => Int32.not_lt.mpr h14 z.1); rw [stepD, if_neg hd]) (by have hd : ¬ dropP (σ.1 20) n r := (fun z => Int32.not_lt.mpr h14 z.1); simp only [stepM, drawn, if_neg hd, if_neg (Int32.not_lt.mpr h14), if_pos (Int32.not_le.mp h97), hy, nI_1, cl_nI (show y < 2147483648 by omega)])
  · refine aw_aload_n (pc := 17) C 2 dX9_step_17 rfl ?_
    refine aw_cVI (pc := 18) C (c_X9_draw _  ) lk_X9_146 sh73 rfl dX9_step_18 (by decide) (Nat.le_of_ble_eq_true rfl) rfl rfl ?_
    refine aw_bipush (pc := 21) (v := 24) C dX9_step_21 rfl ?_
    refine aw_irem (pc := 23) C dX9_step_23 (by decide) ?_
    refine aw_iload_n (pc := 24) C 0 dX9_step_24 rfl ?_
    refine aw_icmp_ge (pc := 25) C 32 dX9_step_25 (by decide) (fun h25 => ?_) (fun h25 => ?_)
    · refine aw_iconst (pc := 32) (v := 0) C dX9_step_32 rfl ?_
      refine aw_istore (pc := 33) C [(4, .int 0), (3, .int (oddsN (σ.1 20) n r)), (2, .int (nI y)), (0, .ref 73), (1, .int (nI r))] dX9_step_33 (Nat.le_of_ble_eq_true rfl) rfl ?_
      refine aw_aload_n (pc := 35) C 3 dX9_step_35 rfl ?_
      refine aw_iload_n (pc := 36) C 4 dX9_step_36 rfl ?_
      refine aw_iconst (pc := 37) (v := 5) C dX9_step_37 rfl ?_
      refine aw_cVI (pc := 38) C (c_X9_is _ r 5 (by omega)) lk_X9_62 sh73 rfl dX9_step_38 (by decide) (Nat.le_of_ble_eq_true rfl) rfl rfl ?_
      refine aw_conv (σ' := setR σ 20 (upd (σ.1 20) 1 (drawZ (σ.1 20)))) (st' := [.int (σ.1 20 (33 + 37 * r + 5))]) (by first | rfl | (simp (disch := omega) only [setR_at, setR_twice, setL_at, setL_twice, setR_2, setL_1, setR_ne, setL_ne, ne_eq, Nat.reduceEqDiff, not_false_eq_true, pk_us, pk_un]; done) | ((try simp (disch := omega) only [setR_at, setR_twice, setL_at, setL_twice, setR_2, setL_1, setR_ne, setL_ne, ne_eq, Nat.reduceEqDiff, not_false_eq_true, pk_us, pk_un]); refine Prod.ext (funext fun z => ?_) rfl; simp only [setR]; (repeat' split) <;> first | rfl | (exfalso; omega))) rfl (by first | rfl | (simp (disch := omega) only [setR_at, setR_twice, setL_at, setL_twice, setR_2, setL_1, setR_ne, setL_ne, ne_eq, Nat.reduceEqDiff, not_false_eq_true, pk_us, pk_un]; done) | ((try simp (disch := omega) only [setR_at, setR_twice, setL_at, setL_twice, setR_2, setL_1, setR_ne, setL_ne, ne_eq, Nat.reduceEqDiff, not_false_eq_true, pk_us, pk_un]); refine Prod.ext (funext fun z => ?_) rfl; simp only [setR]; (repeat' split) <;> first | rfl | (exfalso; omega))) ?_
      refine aw_istore (pc := 41) C [(5, .int (σ.1 20 (33 + 37 * r + 5))), (4, .int 0), (3, .int (oddsN (σ.1 20) n r)), (2, .int (nI y)), (0, .ref 73), (1, .int (nI r))] dX9_step_41 (Nat.le_of_ble_eq_true rfl) rfl ?_
      refine aw_aload_n (pc := 43) C 4 dX9_step_43 rfl ?_
      refine aw_iload_n (pc := 44) C 5 dX9_step_44 rfl ?_
      refine aw_iconst (pc := 45) (v := 4) C dX9_step_45 rfl ?_
      refine aw_aload_n (pc := 46) C 4 dX9_step_46 rfl ?_
      refine aw_iload_n (pc := 47) C 5 dX9_step_47 rfl ?_
      refine aw_iconst (pc := 48) (v := 4) C dX9_step_48 rfl ?_
      refine aw_cVI (pc := 49) C (c_X9_is _ r 4 (by omega)) lk_X9_62 sh73 rfl dX9_step_49 (by decide) (Nat.le_of_ble_eq_true rfl) rfl rfl ?_
      refine aw_conv (σ' := setR σ 20 (upd (σ.1 20) 1 (drawZ (σ.1 20)))) (st' := [.int (σ.1 20 (33 + 37 * r + 4)), .int 4, .int (nI r), .ref 73]) (by first | rfl | (simp (disch := omega) only [setR_at, setR_twice, setL_at, setL_twice, setR_2, setL_1, setR_ne, setL_ne, ne_eq, Nat.reduceEqDiff, not_false_eq_true, pk_us, pk_un]; done) | ((try simp (disch := omega) only [setR_at, setR_twice, setL_at, setL_twice, setR_2, setL_1, setR_ne, setL_ne, ne_eq, Nat.reduceEqDiff, not_false_eq_true, pk_us, pk_un]); refine Prod.ext (funext fun z => ?_) rfl; simp only [setR]; (repeat' split) <;> first | rfl | (exfalso; omega))) rfl (by first | rfl | (simp (disch := omega) only [setR_at, setR_twice, setL_at, setL_twice, setR_2, setL_1, setR_ne, setL_ne, ne_eq, Nat.reduceEqDiff, not_false_eq_true, pk_us, pk_un]; done) | ((try simp (disch := omega) only [setR_at, setR_twice, setL_at, setL_twice, setR_2, setL_1, setR_ne, setL_ne, ne_eq, Nat.reduceEqDiff, not_false_eq_true, pk_us, pk_un]); refine Prod.ext (funext fun z => ?_) rfl; simp only [setR]; (repeat' split) <;> first | rfl | (exfalso; omega))) ?_
      refine aw_aload_n (pc := 52) C 4 dX9_step_52 rfl ?_
      refine aw_iload_n (pc := 53) C 5 dX9_step_53 rfl ?_
      refine aw_aload_n (pc := 54) C 4 dX9_step_54 rfl ?_
      refine aw_iload_n (pc := 55) C 5 dX9_step_55 rfl ?_
      refine aw_iload_n (pc := 56) C 3 dX9_step_56 rfl ?_
      refine aw_cVI (pc := 57) C (c_X9_paceAt _ r y (by omega) (by omega)) lk_X9_110 sh73 rfl dX9_step_57 (by decide) (Nat.le_of_ble_eq_true rfl) rfl rfl ?_
      refine aw_conv (σ' := setR σ 20 (upd (σ.1 20) 1 (drawZ (σ.1 20)))) (st' := [.int ((σ.1 20 (33 + 37 * r + (7 + y)))), .int (nI r), .ref 73, .int (σ.1 20 (33 + 37 * r + 4)), .int 4, .int (nI r), .ref 73]) (by first | rfl | (simp (disch := omega) only [setR_at, setR_twice, setL_at, setL_twice, setR_2, setL_1, setR_ne, setL_ne, ne_eq, Nat.reduceEqDiff, not_false_eq_true, pk_us, pk_un]; done) | ((try simp (disch := omega) only [setR_at, setR_twice, setL_at, setL_twice, setR_2, setL_1, setR_ne, setL_ne, ne_eq, Nat.reduceEqDiff, not_false_eq_true, pk_us, pk_un]); refine Prod.ext (funext fun z => ?_) rfl; simp only [setR]; (repeat' split) <;> first | rfl | (exfalso; omega))) rfl (by first | rfl | (simp (disch := omega) only [setR_at, setR_twice, setL_at, setL_twice, setR_2, setL_1, setR_ne, setL_ne, ne_eq, Nat.reduceEqDiff, not_false_eq_true, pk_us, pk_un]; done) | ((try simp (disch := omega) only [setR_at, setR_twice, setL_at, setL_twice, setR_2, setL_1, setR_ne, setL_ne, ne_eq, Nat.reduceEqDiff, not_false_eq_true, pk_us, pk_un]); refine Prod.ext (funext fun z => ?_) rfl; simp only [setR]; (repeat' split) <;> first | rfl | (exfalso; omega))) ?_
      refine aw_cVI (pc := 60) C (c_X9_takes _ r (σ.1 20 (33 + 37 * r + (7 + y))) (by omega)) lk_X9_119 sh73 rfl dX9_step_60 (by decide) (Nat.le_of_ble_eq_true rfl) rfl rfl ?_
      refine aw_conv (σ' := setR σ 20 (upd (σ.1 20) 1 (drawZ (σ.1 20)))) (st' := [.int (sTakes (σ.1 20 (33 + 37 * r + 0)) (σ.1 20 (33 + 37 * r + (7 + y)))), .int (σ.1 20 (33 + 37 * r + 4)), .int 4, .int (nI r), .ref 73]) (by first | rfl | (simp (disch := omega) only [setR_at, setR_twice, setL_at, setL_twice, setR_2, setL_1, setR_ne, setL_ne, ne_eq, Nat.reduceEqDiff, not_false_eq_true, pk_us, pk_un]; done) | ((try simp (disch := omega) only [setR_at, setR_twice, setL_at, setL_twice, setR_2, setL_1, setR_ne, setL_ne, ne_eq, Nat.reduceEqDiff, not_false_eq_true, pk_us, pk_un]); refine Prod.ext (funext fun z => ?_) rfl; simp only [setR]; (repeat' split) <;> first | rfl | (exfalso; omega))) rfl (by first | rfl | (simp (disch := omega) only [setR_at, setR_twice, setL_at, setL_twice, setR_2, setL_1, setR_ne, setL_ne, ne_eq, Nat.reduceEqDiff, not_false_eq_true, pk_us, pk_un]; done) | ((try simp (disch := omega) only [setR_at, setR_twice, setL_at, setL_twice, setR_2, setL_1, setR_ne, setL_ne, ne_eq, Nat.reduceEqDiff, not_false_eq_true, pk_us, pk_un]); refine Prod.ext (funext fun z => ?_) rfl; simp only [setR]; (repeat' split) <;> first | rfl | (exfalso; omega))) ?_
      refine aw_iadd (pc := 63) C dX9_step_63 ?_
      refine aw_iload (pc := 64) C 1 dX9_step_64 rfl ?_
      refine aw_if_eq (pc := 66) C 78 dX9_step_66 (by decide) (fun h66 => ?_) (fun h66 => absurd h66 (by decide))
      refine aw_iconst (pc := 78) (v := 0) C dX9_step_78 rfl ?_
      refine aw_iadd (pc := 79) C dX9_step_79 ?_
      refine aw_cV0 (pc := 80) C (c_X9_makes _ r 4 (((σ.1 20 (33 + 37 * r + 4)) + (sTakes (σ.1 20 (33 + 37 * r + 0)) (σ.1 20 (33 + 37 * r + (7 + y))))) + 0) (by omega)) lk_X9_77 sh73 rfl dX9_step_80 (by decide) (Nat.le_of_ble_eq_true rfl) rfl rfl ?_
      refine aw_conv (σ' := setR σ 20 (upd (upd (σ.1 20) 1 (drawZ (σ.1 20))) (33 + 37 * r + 4) (((σ.1 20 (33 + 37 * r + 4)) + (sTakes (σ.1 20 (33 + 37 * r + 0)) (σ.1 20 (33 + 37 * r + (7 + y))))) + 0))) (st' := []) (by first | rfl | (simp (disch := omega) only [setR_at, setR_twice, setL_at, setL_twice, setR_2, setL_1, setR_ne, setL_ne, ne_eq, Nat.reduceEqDiff, not_false_eq_true, pk_us, pk_un]; done) | ((try simp (disch := omega) only [setR_at, setR_twice, setL_at, setL_twice, setR_2, setL_1, setR_ne, setL_ne, ne_eq, Nat.reduceEqDiff, not_false_eq_true, pk_us, pk_un]); refine Prod.ext (funext fun z => ?_) rfl; simp only [setR]; (repeat' split) <;> first | rfl | (exfalso; omega))) rfl (by first | rfl | (simp (disch := omega) only [setR_at, setR_twice, setL_at, setL_twice, setR_2, setL_1, setR_ne, setL_ne, ne_eq, Nat.reduceEqDiff, not_false_eq_true, pk_us, pk_un]; done) | ((try simp (disch := omega) only [setR_at, setR_twice, setL_at, setL_twice, setR_2, setL_1, setR_ne, setL_ne, ne_eq, Nat.reduceEqDiff, not_false_eq_true, pk_us, pk_un]); refine Prod.ext (funext fun z => ?_) rfl; simp only [setR]; (repeat' split) <;> first | rfl | (exfalso; omega))) ?_
      refine aw_aload_n (pc := 83) C 4 dX9_step_83 rfl ?_
      refine aw_iload_n (pc := 84) C 5 dX9_step_84 rfl ?_
      refine aw_iconst (pc := 85) (v := 5) C dX9_step_85 rfl ?_
      refine aw_iload (pc := 86) C 1 dX9_step_86 rfl ?_
      refine aw_if_eq (pc := 88) C 95 dX9_step_88 (by decide) (fun h88 => ?_) (fun h88 => absurd h88 (by decide))
      refine aw_iload (pc := 95) C 0 dX9_step_95 rfl ?_
      refine aw_if_le (pc := 97) C 107 dX9_step_97 (by decide) (fun h97 => ?_) (fun h97 => ?_)
      · refine aw_iconst (pc := 107) (v := 0) C dX9_step_107 rfl ?_
        refine aw_cV0 (pc := 108) C (c_X9_makes _ r 5 0 (by omega)) lk_X9_77 sh73 rfl dX9_step_108 (by decide) (Nat.le_of_ble_eq_true rfl) rfl rfl ?_
        refine aw_conv (σ' := setR σ 20 (upd (upd (upd (σ.1 20) 1 (drawZ (σ.1 20))) (33 + 37 * r + 4) (((σ.1 20 (33 + 37 * r + 4)) + (sTakes (σ.1 20 (33 + 37 * r + 0)) (σ.1 20 (33 + 37 * r + (7 + y))))) + 0)) (33 + 37 * r + 5) (0))) (st' := []) (by first | rfl | (simp (disch := omega) only [setR_at, setR_twice, setL_at, setL_twice, setR_2, setL_1, setR_ne, setL_ne, ne_eq, Nat.reduceEqDiff, not_false_eq_true, pk_us, pk_un]; done) | ((try simp (disch := omega) only [setR_at, setR_twice, setL_at, setL_twice, setR_2, setL_1, setR_ne, setL_ne, ne_eq, Nat.reduceEqDiff, not_false_eq_true, pk_us, pk_un]); refine Prod.ext (funext fun z => ?_) rfl; simp only [setR]; (repeat' split) <;> first | rfl | (exfalso; omega))) rfl (by first | rfl | (simp (disch := omega) only [setR_at, setR_twice, setL_at, setL_twice, setR_2, setL_1, setR_ne, setL_ne, ne_eq, Nat.reduceEqDiff, not_false_eq_true, pk_us, pk_un]; done) | ((try simp (disch := omega) only [setR_at, setR_twice, setL_at, setL_twice, setR_2, setL_1, setR_ne, setL_ne, ne_eq, Nat.reduceEqDiff, not_false_eq_true, pk_us, pk_un]); refine Prod.ext (funext fun z => ?_) rfl; simp only [setR]; (repeat' split) <;> first | rfl | (exfalso; omega))) ?_
        refine aw_aload_n (pc := 111) C 4 dX9_step_111 rfl ?_
        refine aw_iload_n (pc := 112) C 5 dX9_step_112 rfl ?_
        refine aw_bipush (pc := 113) (v := 6) C dX9_step_113 rfl ?_
        refine aw_aload_n (pc := 115) C 4 dX9_step_115 rfl ?_
        refine aw_iload_n (pc := 116) C 5 dX9_step_116 rfl ?_
        refine aw_bipush (pc := 117) (v := 6) C dX9_step_117 rfl ?_
        refine aw_cVI (pc := 119) C (c_X9_is _ r 6 (by omega)) lk_X9_62 sh73 rfl dX9_step_119 (by decide) (Nat.le_of_ble_eq_true rfl) rfl rfl ?_
        refine aw_conv (σ' := setR σ 20 (upd (upd (upd (σ.1 20) 1 (drawZ (σ.1 20))) (33 + 37 * r + 4) (((σ.1 20 (33 + 37 * r + 4)) + (sTakes (σ.1 20 (33 + 37 * r + 0)) (σ.1 20 (33 + 37 * r + (7 + y))))) + 0)) (33 + 37 * r + 5) (0))) (st' := [.int (σ.1 20 (33 + 37 * r + 6)), .int 6, .int (nI r), .ref 73]) (by first | rfl | (simp (disch := omega) only [setR_at, setR_twice, setL_at, setL_twice, setR_2, setL_1, setR_ne, setL_ne, ne_eq, Nat.reduceEqDiff, not_false_eq_true, pk_us, pk_un]; done) | ((try simp (disch := omega) only [setR_at, setR_twice, setL_at, setL_twice, setR_2, setL_1, setR_ne, setL_ne, ne_eq, Nat.reduceEqDiff, not_false_eq_true, pk_us, pk_un]); refine Prod.ext (funext fun z => ?_) rfl; simp only [setR]; (repeat' split) <;> first | rfl | (exfalso; omega))) rfl (by first | rfl | (simp (disch := omega) only [setR_at, setR_twice, setL_at, setL_twice, setR_2, setL_1, setR_ne, setL_ne, ne_eq, Nat.reduceEqDiff, not_false_eq_true, pk_us, pk_un]; done) | ((try simp (disch := omega) only [setR_at, setR_twice, setL_at, setL_twice, setR_2, setL_1, setR_ne, setL_ne, ne_eq, Nat.reduceEqDiff, not_false_eq_true, pk_us, pk_un]); refine Prod.ext (funext fun z => ?_) rfl; simp only [setR]; (repeat' split) <;> first | rfl | (exfalso; omega))) ?_
        refine aw_iload (pc := 122) C 1 dX9_step_122 rfl ?_
        refine aw_if_eq (pc := 124) C 131 dX9_step_124 (by decide) (fun h124 => ?_) (fun h124 => absurd h124 (by decide))
        refine aw_iconst (pc := 131) (v := 0) C dX9_step_131 rfl ?_
        refine aw_iadd (pc := 132) C dX9_step_132 ?_
        refine aw_cV0 (pc := 133) C (c_X9_makes _ r 6 ((σ.1 20 (33 + 37 * r + 6)) + 0) (by omega)) lk_X9_77 sh73 rfl dX9_step_133 (by decide) (Nat.le_of_ble_eq_true rfl) rfl rfl ?_
        refine aw_conv (σ' := setR σ 20 (upd (upd (upd (upd (σ.1 20) 1 (drawZ (σ.1 20))) (33 + 37 * r + 4) (((σ.1 20 (33 + 37 * r + 4)) + (sTakes (σ.1 20 (33 + 37 * r + 0)) (σ.1 20 (33 + 37 * r + (7 + y))))) + 0)) (33 + 37 * r + 5) (0)) (33 + 37 * r + 6) ((σ.1 20 (33 + 37 * r + 6)) + 0))) (st' := []) (by first | rfl | (simp (disch := omega) only [setR_at, setR_twice, setL_at, setL_twice, setR_2, setL_1, setR_ne, setL_ne, ne_eq, Nat.reduceEqDiff, not_false_eq_true, pk_us, pk_un]; done) | ((try simp (disch := omega) only [setR_at, setR_twice, setL_at, setL_twice, setR_2, setL_1, setR_ne, setL_ne, ne_eq, Nat.reduceEqDiff, not_false_eq_true, pk_us, pk_un]); refine Prod.ext (funext fun z => ?_) rfl; simp only [setR]; (repeat' split) <;> first | rfl | (exfalso; omega))) rfl (by first | rfl | (simp (disch := omega) only [setR_at, setR_twice, setL_at, setL_twice, setR_2, setL_1, setR_ne, setL_ne, ne_eq, Nat.reduceEqDiff, not_false_eq_true, pk_us, pk_un]; done) | ((try simp (disch := omega) only [setR_at, setR_twice, setL_at, setL_twice, setR_2, setL_1, setR_ne, setL_ne, ne_eq, Nat.reduceEqDiff, not_false_eq_true, pk_us, pk_un]); refine Prod.ext (funext fun z => ?_) rfl; simp only [setR]; (repeat' split) <;> first | rfl | (exfalso; omega))) ?_
        refine aw_aload_n (pc := 136) C 4 dX9_step_136 rfl ?_
        refine aw_iload_n (pc := 137) C 5 dX9_step_137 rfl ?_
        refine aw_iconst (pc := 138) (v := 3) C dX9_step_138 rfl ?_
        refine aw_iload_n (pc := 139) C 3 dX9_step_139 rfl ?_
        refine aw_iconst (pc := 140) (v := 1) C dX9_step_140 rfl ?_
        refine aw_iaddN (pc := 141) C y 1 rfl rfl dX9_step_141 ?_
        refine aw_cV0 (pc := 142) C (c_X9_makes _ r 3 (nI (y + 1)) (by omega)) lk_X9_77 sh73 rfl dX9_step_142 (by decide) (Nat.le_of_ble_eq_true rfl) rfl rfl ?_
        refine aw_conv (σ' := setR σ 20 (upd (upd (upd (upd (upd (σ.1 20) 1 (drawZ (σ.1 20))) (33 + 37 * r + 4) (((σ.1 20 (33 + 37 * r + 4)) + (sTakes (σ.1 20 (33 + 37 * r + 0)) (σ.1 20 (33 + 37 * r + (7 + y))))) + 0)) (33 + 37 * r + 5) (0)) (33 + 37 * r + 6) ((σ.1 20 (33 + 37 * r + 6)) + 0)) (33 + 37 * r + 3) (nI (y + 1)))) (st' := []) (by first | rfl | (simp (disch := omega) only [setR_at, setR_twice, setL_at, setL_twice, setR_2, setL_1, setR_ne, setL_ne, ne_eq, Nat.reduceEqDiff, not_false_eq_true, pk_us, pk_un]; done) | ((try simp (disch := omega) only [setR_at, setR_twice, setL_at, setL_twice, setR_2, setL_1, setR_ne, setL_ne, ne_eq, Nat.reduceEqDiff, not_false_eq_true, pk_us, pk_un]); refine Prod.ext (funext fun z => ?_) rfl; simp only [setR]; (repeat' split) <;> first | rfl | (exfalso; omega))) rfl (by first | rfl | (simp (disch := omega) only [setR_at, setR_twice, setL_at, setL_twice, setR_2, setL_1, setR_ne, setL_ne, ne_eq, Nat.reduceEqDiff, not_false_eq_true, pk_us, pk_un]; done) | ((try simp (disch := omega) only [setR_at, setR_twice, setL_at, setL_twice, setR_2, setL_1, setR_ne, setL_ne, ne_eq, Nat.reduceEqDiff, not_false_eq_true, pk_us, pk_un]); refine Prod.ext (funext fun z => ?_) rfl; simp only [setR]; (repeat' split) <;> first | rfl | (exfalso; omega))) ?_
        refine aw_iload (pc := 145) C 1 dX9_step_145 rfl ?_
        refine aw_if_eq (pc := 147) C 154 dX9_step_147 (by decide) (fun h147 => ?_) (fun h147 => absurd h147 (by decide))
        refine aw_iconst (pc := 154) (v := 0) C dX9_step_154 rfl ?_
        exact aw_iret (pc := 155) C rfl dX9_step_155 (by have hd : ¬ dropP (σ.1 20) n r := (fun z => Int32.not_lt.mpr h25 z.2); rw [stepD, if_neg hd]) (by have hd : ¬ dropP (σ.1 20) n r := (fun z => Int32.not_lt.mpr h25 z.2); simp only [stepM, drawn, if_neg hd, if_pos (Int32.not_le.mp h14), if_neg (Int32.not_lt.mpr h97), hy, nI_1, cl_nI (show y < 2147483648 by omega)])
      · refine aw_iload (pc := 100) C 0 dX9_step_100 rfl ?_
        refine aw_iconst (pc := 102) (v := 1) C dX9_step_102 rfl ?_
        refine aw_isub (pc := 103) C dX9_step_103 ?_
        refine aw_goto (pc := 104) C 108 dX9_step_104 (by decide) ?_
        refine aw_cV0 (pc := 108) C (c_X9_makes _ r 5 ((σ.1 20 (33 + 37 * r + 5)) - 1) (by omega)) lk_X9_77 sh73 rfl dX9_step_108 (by decide) (Nat.le_of_ble_eq_true rfl) rfl rfl ?_
        refine aw_conv (σ' := setR σ 20 (upd (upd (upd (σ.1 20) 1 (drawZ (σ.1 20))) (33 + 37 * r + 4) (((σ.1 20 (33 + 37 * r + 4)) + (sTakes (σ.1 20 (33 + 37 * r + 0)) (σ.1 20 (33 + 37 * r + (7 + y))))) + 0)) (33 + 37 * r + 5) ((σ.1 20 (33 + 37 * r + 5)) - 1))) (st' := []) (by first | rfl | (simp (disch := omega) only [setR_at, setR_twice, setL_at, setL_twice, setR_2, setL_1, setR_ne, setL_ne, ne_eq, Nat.reduceEqDiff, not_false_eq_true, pk_us, pk_un]; done) | ((try simp (disch := omega) only [setR_at, setR_twice, setL_at, setL_twice, setR_2, setL_1, setR_ne, setL_ne, ne_eq, Nat.reduceEqDiff, not_false_eq_true, pk_us, pk_un]); refine Prod.ext (funext fun z => ?_) rfl; simp only [setR]; (repeat' split) <;> first | rfl | (exfalso; omega))) rfl (by first | rfl | (simp (disch := omega) only [setR_at, setR_twice, setL_at, setL_twice, setR_2, setL_1, setR_ne, setL_ne, ne_eq, Nat.reduceEqDiff, not_false_eq_true, pk_us, pk_un]; done) | ((try simp (disch := omega) only [setR_at, setR_twice, setL_at, setL_twice, setR_2, setL_1, setR_ne, setL_ne, ne_eq, Nat.reduceEqDiff, not_false_eq_true, pk_us, pk_un]); refine Prod.ext (funext fun z => ?_) rfl; simp only [setR]; (repeat' split) <;> first | rfl | (exfalso; omega))) ?_
        refine aw_aload_n (pc := 111) C 4 dX9_step_111 rfl ?_
        refine aw_iload_n (pc := 112) C 5 dX9_step_112 rfl ?_
        refine aw_bipush (pc := 113) (v := 6) C dX9_step_113 rfl ?_
        refine aw_aload_n (pc := 115) C 4 dX9_step_115 rfl ?_
        refine aw_iload_n (pc := 116) C 5 dX9_step_116 rfl ?_
        refine aw_bipush (pc := 117) (v := 6) C dX9_step_117 rfl ?_
        refine aw_cVI (pc := 119) C (c_X9_is _ r 6 (by omega)) lk_X9_62 sh73 rfl dX9_step_119 (by decide) (Nat.le_of_ble_eq_true rfl) rfl rfl ?_
        refine aw_conv (σ' := setR σ 20 (upd (upd (upd (σ.1 20) 1 (drawZ (σ.1 20))) (33 + 37 * r + 4) (((σ.1 20 (33 + 37 * r + 4)) + (sTakes (σ.1 20 (33 + 37 * r + 0)) (σ.1 20 (33 + 37 * r + (7 + y))))) + 0)) (33 + 37 * r + 5) ((σ.1 20 (33 + 37 * r + 5)) - 1))) (st' := [.int (σ.1 20 (33 + 37 * r + 6)), .int 6, .int (nI r), .ref 73]) (by first | rfl | (simp (disch := omega) only [setR_at, setR_twice, setL_at, setL_twice, setR_2, setL_1, setR_ne, setL_ne, ne_eq, Nat.reduceEqDiff, not_false_eq_true, pk_us, pk_un]; done) | ((try simp (disch := omega) only [setR_at, setR_twice, setL_at, setL_twice, setR_2, setL_1, setR_ne, setL_ne, ne_eq, Nat.reduceEqDiff, not_false_eq_true, pk_us, pk_un]); refine Prod.ext (funext fun z => ?_) rfl; simp only [setR]; (repeat' split) <;> first | rfl | (exfalso; omega))) rfl (by first | rfl | (simp (disch := omega) only [setR_at, setR_twice, setL_at, setL_twice, setR_2, setL_1, setR_ne, setL_ne, ne_eq, Nat.reduceEqDiff, not_false_eq_true, pk_us, pk_un]; done) | ((try simp (disch := omega) only [setR_at, setR_twice, setL_at, setL_twice, setR_2, setL_1, setR_ne, setL_ne, ne_eq, Nat.reduceEqDiff, not_false_eq_true, pk_us, pk_un]); refine Prod.ext (funext fun z => ?_) rfl; simp only [setR]; (repeat' split) <;> first | rfl | (exfalso; omega))) ?_
        refine aw_iload (pc := 122) C 1 dX9_step_122 rfl ?_
        refine aw_if_eq (pc := 124) C 131 dX9_step_124 (by decide) (fun h124 => ?_) (fun h124 => absurd h124 (by decide))
        refine aw_iconst (pc := 131) (v := 0) C dX9_step_131 rfl ?_
        refine aw_iadd (pc := 132) C dX9_step_132 ?_
        refine aw_cV0 (pc := 133) C (c_X9_makes _ r 6 ((σ.1 20 (33 + 37 * r + 6)) + 0) (by omega)) lk_X9_77 sh73 rfl dX9_step_133 (by decide) (Nat.le_of_ble_eq_true rfl) rfl rfl ?_
        refine aw_conv (σ' := setR σ 20 (upd (upd (upd (upd (σ.1 20) 1 (drawZ (σ.1 20))) (33 + 37 * r + 4) (((σ.1 20 (33 + 37 * r + 4)) + (sTakes (σ.1 20 (33 + 37 * r + 0)) (σ.1 20 (33 + 37 * r + (7 + y))))) + 0)) (33 + 37 * r + 5) ((σ.1 20 (33 + 37 * r + 5)) - 1)) (33 + 37 * r + 6) ((σ.1 20 (33 + 37 * r + 6)) + 0))) (st' := []) (by first | rfl | (simp (disch := omega) only [setR_at, setR_twice, setL_at, setL_twice, setR_2, setL_1, setR_ne, setL_ne, ne_eq, Nat.reduceEqDiff, not_false_eq_true, pk_us, pk_un]; done) | ((try simp (disch := omega) only [setR_at, setR_twice, setL_at, setL_twice, setR_2, setL_1, setR_ne, setL_ne, ne_eq, Nat.reduceEqDiff, not_false_eq_true, pk_us, pk_un]); refine Prod.ext (funext fun z => ?_) rfl; simp only [setR]; (repeat' split) <;> first | rfl | (exfalso; omega))) rfl (by first | rfl | (simp (disch := omega) only [setR_at, setR_twice, setL_at, setL_twice, setR_2, setL_1, setR_ne, setL_ne, ne_eq, Nat.reduceEqDiff, not_false_eq_true, pk_us, pk_un]; done) | ((try simp (disch := omega) only [setR_at, setR_twice, setL_at, setL_twice, setR_2, setL_1, setR_ne, setL_ne, ne_eq, Nat.reduceEqDiff, not_false_eq_true, pk_us, pk_un]); refine Prod.ext (funext fun z => ?_) rfl; simp only [setR]; (repeat' split) <;> first | rfl | (exfalso; omega))) ?_
        refine aw_aload_n (pc := 136) C 4 dX9_step_136 rfl ?_
        refine aw_iload_n (pc := 137) C 5 dX9_step_137 rfl ?_
        refine aw_iconst (pc := 138) (v := 3) C dX9_step_138 rfl ?_
        refine aw_iload_n (pc := 139) C 3 dX9_step_139 rfl ?_
        refine aw_iconst (pc := 140) (v := 1) C dX9_step_140 rfl ?_
        refine aw_iaddN (pc := 141) C y 1 rfl rfl dX9_step_141 ?_
        refine aw_cV0 (pc := 142) C (c_X9_makes _ r 3 (nI (y + 1)) (by omega)) lk_X9_77 sh73 rfl dX9_step_142 (by decide) (Nat.le_of_ble_eq_true rfl) rfl rfl ?_
        refine aw_conv (σ' := setR σ 20 (upd (upd (upd (upd (upd (σ.1 20) 1 (drawZ (σ.1 20))) (33 + 37 * r + 4) (((σ.1 20 (33 + 37 * r + 4)) + (sTakes (σ.1 20 (33 + 37 * r + 0)) (σ.1 20 (33 + 37 * r + (7 + y))))) + 0)) (33 + 37 * r + 5) ((σ.1 20 (33 + 37 * r + 5)) - 1)) (33 + 37 * r + 6) ((σ.1 20 (33 + 37 * r + 6)) + 0)) (33 + 37 * r + 3) (nI (y + 1)))) (st' := []) (by first | rfl | (simp (disch := omega) only [setR_at, setR_twice, setL_at, setL_twice, setR_2, setL_1, setR_ne, setL_ne, ne_eq, Nat.reduceEqDiff, not_false_eq_true, pk_us, pk_un]; done) | ((try simp (disch := omega) only [setR_at, setR_twice, setL_at, setL_twice, setR_2, setL_1, setR_ne, setL_ne, ne_eq, Nat.reduceEqDiff, not_false_eq_true, pk_us, pk_un]); refine Prod.ext (funext fun z => ?_) rfl; simp only [setR]; (repeat' split) <;> first | rfl | (exfalso; omega))) rfl (by first | rfl | (simp (disch := omega) only [setR_at, setR_twice, setL_at, setL_twice, setR_2, setL_1, setR_ne, setL_ne, ne_eq, Nat.reduceEqDiff, not_false_eq_true, pk_us, pk_un]; done) | ((try simp (disch := omega) only [setR_at, setR_twice, setL_at, setL_twice, setR_2, setL_1, setR_ne, setL_ne, ne_eq, Nat.reduceEqDiff, not_false_eq_true, pk_us, pk_un]); refine Prod.ext (funext fun z => ?_) rfl; simp only [setR]; (repeat' split) <;> first | rfl | (exfalso; omega))) ?_
        refine aw_iload (pc := 145) C 1 dX9_step_145 rfl ?_
        refine aw_if_eq (pc := 147) C 154 dX9_step_147 (by decide) (fun h147 => ?_) (fun h147 => absurd h147 (by decide))
        refine aw_iconst (pc := 154) (v := 0) C dX9_step_154 rfl ?_
        exact aw_iret (pc := 155) C rfl dX9_step_155 (by have hd : ¬ dropP (σ.1 20) n r := (fun z => Int32.not_lt.mpr h25 z.2); rw [stepD, if_neg hd]) (by have hd : ¬ dropP (σ.1 20) n r := (fun z => Int32.not_lt.mpr h25 z.2); simp only [stepM, drawn, if_neg hd, if_pos (Int32.not_le.mp h14), if_pos (Int32.not_le.mp h97), hy, nI_1, cl_nI (show y < 2147483648 by omega)])
    · refine aw_iconst (pc := 28) (v := 1) C dX9_step_28 rfl ?_
      refine aw_goto (pc := 29) C 33 dX9_step_29 (by decide) ?_
      refine aw_istore (pc := 33) C [(4, .int 1), (3, .int (oddsN (σ.1 20) n r)), (2, .int (nI y)), (0, .ref 73), (1, .int (nI r))] dX9_step_33 (Nat.le_of_ble_eq_true rfl) rfl ?_
      refine aw_aload_n (pc := 35) C 3 dX9_step_35 rfl ?_
      refine aw_iload_n (pc := 36) C 4 dX9_step_36 rfl ?_
      refine aw_iconst (pc := 37) (v := 5) C dX9_step_37 rfl ?_
      refine aw_cVI (pc := 38) C (c_X9_is _ r 5 (by omega)) lk_X9_62 sh73 rfl dX9_step_38 (by decide) (Nat.le_of_ble_eq_true rfl) rfl rfl ?_
      refine aw_conv (σ' := setR σ 20 (upd (σ.1 20) 1 (drawZ (σ.1 20)))) (st' := [.int (σ.1 20 (33 + 37 * r + 5))]) (by first | rfl | (simp (disch := omega) only [setR_at, setR_twice, setL_at, setL_twice, setR_2, setL_1, setR_ne, setL_ne, ne_eq, Nat.reduceEqDiff, not_false_eq_true, pk_us, pk_un]; done) | ((try simp (disch := omega) only [setR_at, setR_twice, setL_at, setL_twice, setR_2, setL_1, setR_ne, setL_ne, ne_eq, Nat.reduceEqDiff, not_false_eq_true, pk_us, pk_un]); refine Prod.ext (funext fun z => ?_) rfl; simp only [setR]; (repeat' split) <;> first | rfl | (exfalso; omega))) rfl (by first | rfl | (simp (disch := omega) only [setR_at, setR_twice, setL_at, setL_twice, setR_2, setL_1, setR_ne, setL_ne, ne_eq, Nat.reduceEqDiff, not_false_eq_true, pk_us, pk_un]; done) | ((try simp (disch := omega) only [setR_at, setR_twice, setL_at, setL_twice, setR_2, setL_1, setR_ne, setL_ne, ne_eq, Nat.reduceEqDiff, not_false_eq_true, pk_us, pk_un]); refine Prod.ext (funext fun z => ?_) rfl; simp only [setR]; (repeat' split) <;> first | rfl | (exfalso; omega))) ?_
      refine aw_istore (pc := 41) C [(5, .int (σ.1 20 (33 + 37 * r + 5))), (4, .int 1), (3, .int (oddsN (σ.1 20) n r)), (2, .int (nI y)), (0, .ref 73), (1, .int (nI r))] dX9_step_41 (Nat.le_of_ble_eq_true rfl) rfl ?_
      refine aw_aload_n (pc := 43) C 4 dX9_step_43 rfl ?_
      refine aw_iload_n (pc := 44) C 5 dX9_step_44 rfl ?_
      refine aw_iconst (pc := 45) (v := 4) C dX9_step_45 rfl ?_
      refine aw_aload_n (pc := 46) C 4 dX9_step_46 rfl ?_
      refine aw_iload_n (pc := 47) C 5 dX9_step_47 rfl ?_
      refine aw_iconst (pc := 48) (v := 4) C dX9_step_48 rfl ?_
      refine aw_cVI (pc := 49) C (c_X9_is _ r 4 (by omega)) lk_X9_62 sh73 rfl dX9_step_49 (by decide) (Nat.le_of_ble_eq_true rfl) rfl rfl ?_
      refine aw_conv (σ' := setR σ 20 (upd (σ.1 20) 1 (drawZ (σ.1 20)))) (st' := [.int (σ.1 20 (33 + 37 * r + 4)), .int 4, .int (nI r), .ref 73]) (by first | rfl | (simp (disch := omega) only [setR_at, setR_twice, setL_at, setL_twice, setR_2, setL_1, setR_ne, setL_ne, ne_eq, Nat.reduceEqDiff, not_false_eq_true, pk_us, pk_un]; done) | ((try simp (disch := omega) only [setR_at, setR_twice, setL_at, setL_twice, setR_2, setL_1, setR_ne, setL_ne, ne_eq, Nat.reduceEqDiff, not_false_eq_true, pk_us, pk_un]); refine Prod.ext (funext fun z => ?_) rfl; simp only [setR]; (repeat' split) <;> first | rfl | (exfalso; omega))) rfl (by first | rfl | (simp (disch := omega) only [setR_at, setR_twice, setL_at, setL_twice, setR_2, setL_1, setR_ne, setL_ne, ne_eq, Nat.reduceEqDiff, not_false_eq_true, pk_us, pk_un]; done) | ((try simp (disch := omega) only [setR_at, setR_twice, setL_at, setL_twice, setR_2, setL_1, setR_ne, setL_ne, ne_eq, Nat.reduceEqDiff, not_false_eq_true, pk_us, pk_un]); refine Prod.ext (funext fun z => ?_) rfl; simp only [setR]; (repeat' split) <;> first | rfl | (exfalso; omega))) ?_
      refine aw_aload_n (pc := 52) C 4 dX9_step_52 rfl ?_
      refine aw_iload_n (pc := 53) C 5 dX9_step_53 rfl ?_
      refine aw_aload_n (pc := 54) C 4 dX9_step_54 rfl ?_
      refine aw_iload_n (pc := 55) C 5 dX9_step_55 rfl ?_
      refine aw_iload_n (pc := 56) C 3 dX9_step_56 rfl ?_
      refine aw_cVI (pc := 57) C (c_X9_paceAt _ r y (by omega) (by omega)) lk_X9_110 sh73 rfl dX9_step_57 (by decide) (Nat.le_of_ble_eq_true rfl) rfl rfl ?_
      refine aw_conv (σ' := setR σ 20 (upd (σ.1 20) 1 (drawZ (σ.1 20)))) (st' := [.int ((σ.1 20 (33 + 37 * r + (7 + y)))), .int (nI r), .ref 73, .int (σ.1 20 (33 + 37 * r + 4)), .int 4, .int (nI r), .ref 73]) (by first | rfl | (simp (disch := omega) only [setR_at, setR_twice, setL_at, setL_twice, setR_2, setL_1, setR_ne, setL_ne, ne_eq, Nat.reduceEqDiff, not_false_eq_true, pk_us, pk_un]; done) | ((try simp (disch := omega) only [setR_at, setR_twice, setL_at, setL_twice, setR_2, setL_1, setR_ne, setL_ne, ne_eq, Nat.reduceEqDiff, not_false_eq_true, pk_us, pk_un]); refine Prod.ext (funext fun z => ?_) rfl; simp only [setR]; (repeat' split) <;> first | rfl | (exfalso; omega))) rfl (by first | rfl | (simp (disch := omega) only [setR_at, setR_twice, setL_at, setL_twice, setR_2, setL_1, setR_ne, setL_ne, ne_eq, Nat.reduceEqDiff, not_false_eq_true, pk_us, pk_un]; done) | ((try simp (disch := omega) only [setR_at, setR_twice, setL_at, setL_twice, setR_2, setL_1, setR_ne, setL_ne, ne_eq, Nat.reduceEqDiff, not_false_eq_true, pk_us, pk_un]); refine Prod.ext (funext fun z => ?_) rfl; simp only [setR]; (repeat' split) <;> first | rfl | (exfalso; omega))) ?_
      refine aw_cVI (pc := 60) C (c_X9_takes _ r (σ.1 20 (33 + 37 * r + (7 + y))) (by omega)) lk_X9_119 sh73 rfl dX9_step_60 (by decide) (Nat.le_of_ble_eq_true rfl) rfl rfl ?_
      refine aw_conv (σ' := setR σ 20 (upd (σ.1 20) 1 (drawZ (σ.1 20)))) (st' := [.int (sTakes (σ.1 20 (33 + 37 * r + 0)) (σ.1 20 (33 + 37 * r + (7 + y)))), .int (σ.1 20 (33 + 37 * r + 4)), .int 4, .int (nI r), .ref 73]) (by first | rfl | (simp (disch := omega) only [setR_at, setR_twice, setL_at, setL_twice, setR_2, setL_1, setR_ne, setL_ne, ne_eq, Nat.reduceEqDiff, not_false_eq_true, pk_us, pk_un]; done) | ((try simp (disch := omega) only [setR_at, setR_twice, setL_at, setL_twice, setR_2, setL_1, setR_ne, setL_ne, ne_eq, Nat.reduceEqDiff, not_false_eq_true, pk_us, pk_un]); refine Prod.ext (funext fun z => ?_) rfl; simp only [setR]; (repeat' split) <;> first | rfl | (exfalso; omega))) rfl (by first | rfl | (simp (disch := omega) only [setR_at, setR_twice, setL_at, setL_twice, setR_2, setL_1, setR_ne, setL_ne, ne_eq, Nat.reduceEqDiff, not_false_eq_true, pk_us, pk_un]; done) | ((try simp (disch := omega) only [setR_at, setR_twice, setL_at, setL_twice, setR_2, setL_1, setR_ne, setL_ne, ne_eq, Nat.reduceEqDiff, not_false_eq_true, pk_us, pk_un]); refine Prod.ext (funext fun z => ?_) rfl; simp only [setR]; (repeat' split) <;> first | rfl | (exfalso; omega))) ?_
      refine aw_iadd (pc := 63) C dX9_step_63 ?_
      refine aw_iload (pc := 64) C 1 dX9_step_64 rfl ?_
      refine aw_if_eq (pc := 66) C 78 dX9_step_66 (by decide) (fun h66 => absurd h66 (by decide)) (fun h66 => ?_)
      refine aw_aload_n (pc := 69) C 4 dX9_step_69 rfl ?_
      refine aw_getR (pc := 70) C fl_X9_9 sh73 rfl dX9_step_70 ?_
      refine aw_iconst (pc := 73) (v := 0) C dX9_step_73 rfl ?_
      refine aw_ild (pc := 74) (k := 0) C (0) (σ.1 20 0) sh74 dX9_step_74 rfl (by omega) rfl (by first | rfl | (simp (disch := omega) only [setR_at, setR_twice, setL_at, setL_twice, setR_2, setL_1, setR_ne, setL_ne, ne_eq, Nat.reduceEqDiff, not_false_eq_true, pk_us, pk_un]; done) | ((try simp (disch := omega) only [setR_at, setR_twice, setL_at, setL_twice, setR_2, setL_1, setR_ne, setL_ne, ne_eq, Nat.reduceEqDiff, not_false_eq_true, pk_us, pk_un]); refine Prod.ext (funext fun z => ?_) rfl; simp only [setR]; (repeat' split) <;> first | rfl | (exfalso; omega))) ?_
      refine aw_goto (pc := 75) C 79 dX9_step_75 (by decide) ?_
      refine aw_iadd (pc := 79) C dX9_step_79 ?_
      refine aw_cV0 (pc := 80) C (c_X9_makes _ r 4 (((σ.1 20 (33 + 37 * r + 4)) + (sTakes (σ.1 20 (33 + 37 * r + 0)) (σ.1 20 (33 + 37 * r + (7 + y))))) + (σ.1 20 0)) (by omega)) lk_X9_77 sh73 rfl dX9_step_80 (by decide) (Nat.le_of_ble_eq_true rfl) rfl rfl ?_
      refine aw_conv (σ' := setR σ 20 (upd (upd (σ.1 20) 1 (drawZ (σ.1 20))) (33 + 37 * r + 4) (((σ.1 20 (33 + 37 * r + 4)) + (sTakes (σ.1 20 (33 + 37 * r + 0)) (σ.1 20 (33 + 37 * r + (7 + y))))) + (σ.1 20 0)))) (st' := []) (by first | rfl | (simp (disch := omega) only [setR_at, setR_twice, setL_at, setL_twice, setR_2, setL_1, setR_ne, setL_ne, ne_eq, Nat.reduceEqDiff, not_false_eq_true, pk_us, pk_un]; done) | ((try simp (disch := omega) only [setR_at, setR_twice, setL_at, setL_twice, setR_2, setL_1, setR_ne, setL_ne, ne_eq, Nat.reduceEqDiff, not_false_eq_true, pk_us, pk_un]); refine Prod.ext (funext fun z => ?_) rfl; simp only [setR]; (repeat' split) <;> first | rfl | (exfalso; omega))) rfl (by first | rfl | (simp (disch := omega) only [setR_at, setR_twice, setL_at, setL_twice, setR_2, setL_1, setR_ne, setL_ne, ne_eq, Nat.reduceEqDiff, not_false_eq_true, pk_us, pk_un]; done) | ((try simp (disch := omega) only [setR_at, setR_twice, setL_at, setL_twice, setR_2, setL_1, setR_ne, setL_ne, ne_eq, Nat.reduceEqDiff, not_false_eq_true, pk_us, pk_un]); refine Prod.ext (funext fun z => ?_) rfl; simp only [setR]; (repeat' split) <;> first | rfl | (exfalso; omega))) ?_
      refine aw_aload_n (pc := 83) C 4 dX9_step_83 rfl ?_
      refine aw_iload_n (pc := 84) C 5 dX9_step_84 rfl ?_
      refine aw_iconst (pc := 85) (v := 5) C dX9_step_85 rfl ?_
      refine aw_iload (pc := 86) C 1 dX9_step_86 rfl ?_
      refine aw_if_eq (pc := 88) C 95 dX9_step_88 (by decide) (fun h88 => absurd h88 (by decide)) (fun h88 => ?_)
      refine aw_iconst (pc := 91) (v := 3) C dX9_step_91 rfl ?_
      refine aw_goto (pc := 92) C 108 dX9_step_92 (by decide) ?_
      refine aw_cV0 (pc := 108) C (c_X9_makes _ r 5 3 (by omega)) lk_X9_77 sh73 rfl dX9_step_108 (by decide) (Nat.le_of_ble_eq_true rfl) rfl rfl ?_
      refine aw_conv (σ' := setR σ 20 (upd (upd (upd (σ.1 20) 1 (drawZ (σ.1 20))) (33 + 37 * r + 4) (((σ.1 20 (33 + 37 * r + 4)) + (sTakes (σ.1 20 (33 + 37 * r + 0)) (σ.1 20 (33 + 37 * r + (7 + y))))) + (σ.1 20 0))) (33 + 37 * r + 5) (3))) (st' := []) (by first | rfl | (simp (disch := omega) only [setR_at, setR_twice, setL_at, setL_twice, setR_2, setL_1, setR_ne, setL_ne, ne_eq, Nat.reduceEqDiff, not_false_eq_true, pk_us, pk_un]; done) | ((try simp (disch := omega) only [setR_at, setR_twice, setL_at, setL_twice, setR_2, setL_1, setR_ne, setL_ne, ne_eq, Nat.reduceEqDiff, not_false_eq_true, pk_us, pk_un]); refine Prod.ext (funext fun z => ?_) rfl; simp only [setR]; (repeat' split) <;> first | rfl | (exfalso; omega))) rfl (by first | rfl | (simp (disch := omega) only [setR_at, setR_twice, setL_at, setL_twice, setR_2, setL_1, setR_ne, setL_ne, ne_eq, Nat.reduceEqDiff, not_false_eq_true, pk_us, pk_un]; done) | ((try simp (disch := omega) only [setR_at, setR_twice, setL_at, setL_twice, setR_2, setL_1, setR_ne, setL_ne, ne_eq, Nat.reduceEqDiff, not_false_eq_true, pk_us, pk_un]); refine Prod.ext (funext fun z => ?_) rfl; simp only [setR]; (repeat' split) <;> first | rfl | (exfalso; omega))) ?_
      refine aw_aload_n (pc := 111) C 4 dX9_step_111 rfl ?_
      refine aw_iload_n (pc := 112) C 5 dX9_step_112 rfl ?_
      refine aw_bipush (pc := 113) (v := 6) C dX9_step_113 rfl ?_
      refine aw_aload_n (pc := 115) C 4 dX9_step_115 rfl ?_
      refine aw_iload_n (pc := 116) C 5 dX9_step_116 rfl ?_
      refine aw_bipush (pc := 117) (v := 6) C dX9_step_117 rfl ?_
      refine aw_cVI (pc := 119) C (c_X9_is _ r 6 (by omega)) lk_X9_62 sh73 rfl dX9_step_119 (by decide) (Nat.le_of_ble_eq_true rfl) rfl rfl ?_
      refine aw_conv (σ' := setR σ 20 (upd (upd (upd (σ.1 20) 1 (drawZ (σ.1 20))) (33 + 37 * r + 4) (((σ.1 20 (33 + 37 * r + 4)) + (sTakes (σ.1 20 (33 + 37 * r + 0)) (σ.1 20 (33 + 37 * r + (7 + y))))) + (σ.1 20 0))) (33 + 37 * r + 5) (3))) (st' := [.int (σ.1 20 (33 + 37 * r + 6)), .int 6, .int (nI r), .ref 73]) (by first | rfl | (simp (disch := omega) only [setR_at, setR_twice, setL_at, setL_twice, setR_2, setL_1, setR_ne, setL_ne, ne_eq, Nat.reduceEqDiff, not_false_eq_true, pk_us, pk_un]; done) | ((try simp (disch := omega) only [setR_at, setR_twice, setL_at, setL_twice, setR_2, setL_1, setR_ne, setL_ne, ne_eq, Nat.reduceEqDiff, not_false_eq_true, pk_us, pk_un]); refine Prod.ext (funext fun z => ?_) rfl; simp only [setR]; (repeat' split) <;> first | rfl | (exfalso; omega))) rfl (by first | rfl | (simp (disch := omega) only [setR_at, setR_twice, setL_at, setL_twice, setR_2, setL_1, setR_ne, setL_ne, ne_eq, Nat.reduceEqDiff, not_false_eq_true, pk_us, pk_un]; done) | ((try simp (disch := omega) only [setR_at, setR_twice, setL_at, setL_twice, setR_2, setL_1, setR_ne, setL_ne, ne_eq, Nat.reduceEqDiff, not_false_eq_true, pk_us, pk_un]); refine Prod.ext (funext fun z => ?_) rfl; simp only [setR]; (repeat' split) <;> first | rfl | (exfalso; omega))) ?_
      refine aw_iload (pc := 122) C 1 dX9_step_122 rfl ?_
      refine aw_if_eq (pc := 124) C 131 dX9_step_124 (by decide) (fun h124 => absurd h124 (by decide)) (fun h124 => ?_)
      refine aw_iconst (pc := 127) (v := 1) C dX9_step_127 rfl ?_
      refine aw_goto (pc := 128) C 132 dX9_step_128 (by decide) ?_
      refine aw_iadd (pc := 132) C dX9_step_132 ?_
      refine aw_cV0 (pc := 133) C (c_X9_makes _ r 6 ((σ.1 20 (33 + 37 * r + 6)) + 1) (by omega)) lk_X9_77 sh73 rfl dX9_step_133 (by decide) (Nat.le_of_ble_eq_true rfl) rfl rfl ?_
      refine aw_conv (σ' := setR σ 20 (upd (upd (upd (upd (σ.1 20) 1 (drawZ (σ.1 20))) (33 + 37 * r + 4) (((σ.1 20 (33 + 37 * r + 4)) + (sTakes (σ.1 20 (33 + 37 * r + 0)) (σ.1 20 (33 + 37 * r + (7 + y))))) + (σ.1 20 0))) (33 + 37 * r + 5) (3)) (33 + 37 * r + 6) ((σ.1 20 (33 + 37 * r + 6)) + 1))) (st' := []) (by first | rfl | (simp (disch := omega) only [setR_at, setR_twice, setL_at, setL_twice, setR_2, setL_1, setR_ne, setL_ne, ne_eq, Nat.reduceEqDiff, not_false_eq_true, pk_us, pk_un]; done) | ((try simp (disch := omega) only [setR_at, setR_twice, setL_at, setL_twice, setR_2, setL_1, setR_ne, setL_ne, ne_eq, Nat.reduceEqDiff, not_false_eq_true, pk_us, pk_un]); refine Prod.ext (funext fun z => ?_) rfl; simp only [setR]; (repeat' split) <;> first | rfl | (exfalso; omega))) rfl (by first | rfl | (simp (disch := omega) only [setR_at, setR_twice, setL_at, setL_twice, setR_2, setL_1, setR_ne, setL_ne, ne_eq, Nat.reduceEqDiff, not_false_eq_true, pk_us, pk_un]; done) | ((try simp (disch := omega) only [setR_at, setR_twice, setL_at, setL_twice, setR_2, setL_1, setR_ne, setL_ne, ne_eq, Nat.reduceEqDiff, not_false_eq_true, pk_us, pk_un]); refine Prod.ext (funext fun z => ?_) rfl; simp only [setR]; (repeat' split) <;> first | rfl | (exfalso; omega))) ?_
      refine aw_aload_n (pc := 136) C 4 dX9_step_136 rfl ?_
      refine aw_iload_n (pc := 137) C 5 dX9_step_137 rfl ?_
      refine aw_iconst (pc := 138) (v := 3) C dX9_step_138 rfl ?_
      refine aw_iload_n (pc := 139) C 3 dX9_step_139 rfl ?_
      refine aw_iconst (pc := 140) (v := 1) C dX9_step_140 rfl ?_
      refine aw_iaddN (pc := 141) C y 1 rfl rfl dX9_step_141 ?_
      refine aw_cV0 (pc := 142) C (c_X9_makes _ r 3 (nI (y + 1)) (by omega)) lk_X9_77 sh73 rfl dX9_step_142 (by decide) (Nat.le_of_ble_eq_true rfl) rfl rfl ?_
      refine aw_conv (σ' := setR σ 20 (upd (upd (upd (upd (upd (σ.1 20) 1 (drawZ (σ.1 20))) (33 + 37 * r + 4) (((σ.1 20 (33 + 37 * r + 4)) + (sTakes (σ.1 20 (33 + 37 * r + 0)) (σ.1 20 (33 + 37 * r + (7 + y))))) + (σ.1 20 0))) (33 + 37 * r + 5) (3)) (33 + 37 * r + 6) ((σ.1 20 (33 + 37 * r + 6)) + 1)) (33 + 37 * r + 3) (nI (y + 1)))) (st' := []) (by first | rfl | (simp (disch := omega) only [setR_at, setR_twice, setL_at, setL_twice, setR_2, setL_1, setR_ne, setL_ne, ne_eq, Nat.reduceEqDiff, not_false_eq_true, pk_us, pk_un]; done) | ((try simp (disch := omega) only [setR_at, setR_twice, setL_at, setL_twice, setR_2, setL_1, setR_ne, setL_ne, ne_eq, Nat.reduceEqDiff, not_false_eq_true, pk_us, pk_un]); refine Prod.ext (funext fun z => ?_) rfl; simp only [setR]; (repeat' split) <;> first | rfl | (exfalso; omega))) rfl (by first | rfl | (simp (disch := omega) only [setR_at, setR_twice, setL_at, setL_twice, setR_2, setL_1, setR_ne, setL_ne, ne_eq, Nat.reduceEqDiff, not_false_eq_true, pk_us, pk_un]; done) | ((try simp (disch := omega) only [setR_at, setR_twice, setL_at, setL_twice, setR_2, setL_1, setR_ne, setL_ne, ne_eq, Nat.reduceEqDiff, not_false_eq_true, pk_us, pk_un]); refine Prod.ext (funext fun z => ?_) rfl; simp only [setR]; (repeat' split) <;> first | rfl | (exfalso; omega))) ?_
      refine aw_iload (pc := 145) C 1 dX9_step_145 rfl ?_
      refine aw_if_eq (pc := 147) C 154 dX9_step_147 (by decide) (fun h147 => absurd h147 (by decide)) (fun h147 => ?_)
      refine aw_iconst (pc := 150) (v := 1) C dX9_step_150 rfl ?_
      refine aw_goto (pc := 151) C 155 dX9_step_151 (by decide) ?_
      exact aw_iret (pc := 155) C rfl dX9_step_155 (by have hd : dropP (σ.1 20) n r := ⟨Int32.not_le.mp h14, Int32.not_le.mp h25⟩; rw [stepD, if_pos hd]) (by have hd : dropP (σ.1 20) n r := ⟨Int32.not_le.mp h14, Int32.not_le.mp h25⟩; simp only [stepM, drawn, if_pos hd, if_pos (Int32.not_le.mp h14), hy, nI_1, cl_nI (show y < 2147483648 by omega)])
