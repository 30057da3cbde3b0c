/-! the reference: the race -/
theorem c_X9_nervesOf (σ : St) (n : Nat) (hn : σ.1 20 2 = nI n) (hz : n ≤ 6) (r : Nat) (hr : r < n) : AMet Y_X9_nervesOf [.ref 73, .int (nI r)] σ (fz (some (.int (nrv (σ.1 20) r n))) (σ)) := by
  refine am_intro (by decide +kernel) (Nat.le_of_ble_eq_true rfl) (fun K C => ?_)
  refine aw_iconst (pc := 0) (v := 0) C dX9_nervesOf_0 rfl ?_
  refine aw_istore_n (pc := 1) C [(2, .int 0), (0, .ref 73), (1, .int (nI r))] dX9_nervesOf_1 (Nat.le_of_ble_eq_true rfl) rfl ?_
  refine aw_iconst (pc := 2) (v := 0) C dX9_nervesOf_2 rfl ?_
  refine aw_istore_n (pc := 3) C [(3, .int 0), (2, .int 0), (0, .ref 73), (1, .int (nI r))] dX9_nervesOf_3 (Nat.le_of_ble_eq_true rfl) rfl ?_
  refine aw_lvs C [0, 1, 2, 3] [(3, .int 0), (2, .int 0), (0, .ref 73), (1, .int (nI r))] rfl ?_
  refine aw_conv (σ' := σ) (lv' := [(3, .int (nI 0)), (2, .int (nrv (σ.1 20) r 0)), (0, .ref 73), (1, .int (nI r))]) rfl rfl rfl ?_
  refine loop_up (P := fun k => AW _ K _ (σ) 4 [(3, .int (nI k)), (2, .int (nrv (σ.1 20) r k)), (0, .ref 73), (1, .int (nI r))] []) n ?_ ?_ 0 (by omega) 
  · refine aw_iload_n (pc := 4) C 0 dX9_nervesOf_4 rfl ?_
    refine aw_aload_n (pc := 5) C 2 dX9_nervesOf_5 rfl ?_
    refine aw_getR (pc := 6) C fl_X9_9 sh73 rfl dX9_nervesOf_6 ?_
    refine aw_iconst (pc := 9) (v := 2) C dX9_nervesOf_9 rfl ?_
    refine aw_ild (pc := 10) (k := 2) C (2) (σ.1 20 2) sh74 dX9_nervesOf_10 rfl (by omega) rfl rfl ?_
    refine aw_top C (nI (n)) hn ?_
    refine aw_icmp_geN (pc := 11) C n n 65 rfl rfl (by omega) (by omega) dX9_nervesOf_11 (by decide) (fun h11 => ?_) (fun h11 => absurd h11 (by omega))
    refine aw_iload_n (pc := 65) C 1 dX9_nervesOf_65 rfl ?_
    exact aw_iret (pc := 66) C rfl dX9_nervesOf_66 rfl rfl
  · intro k hk4 ih4 
    refine aw_iload_n (pc := 4) C 0 dX9_nervesOf_4 rfl ?_
    refine aw_aload_n (pc := 5) C 2 dX9_nervesOf_5 rfl ?_
    refine aw_getR (pc := 6) C fl_X9_9 sh73 rfl dX9_nervesOf_6 ?_
    refine aw_iconst (pc := 9) (v := 2) C dX9_nervesOf_9 rfl ?_
    refine aw_ild (pc := 10) (k := 2) C (2) (σ.1 20 2) sh74 dX9_nervesOf_10 rfl (by omega) rfl rfl ?_
    refine aw_top C (nI (n)) hn ?_
    refine aw_icmp_geN (pc := 11) C k n 65 rfl rfl (by omega) (by omega) dX9_nervesOf_11 (by decide) (fun h11 => absurd h11 (by omega)) (fun h11 => ?_)
    refine aw_iload_n (pc := 14) C 1 dX9_nervesOf_14 rfl ?_
    refine aw_iload_n (pc := 15) C 0 dX9_nervesOf_15 rfl ?_
    refine aw_iload_n (pc := 16) C 3 dX9_nervesOf_16 rfl ?_
    refine aw_icmp_eqN (pc := 17) C k r 56 rfl rfl (by omega) (by omega) dX9_nervesOf_17 (by decide) (fun h17 => ?_) (fun h17 => ?_)
    · refine aw_iconst (pc := 56) (v := 0) C dX9_nervesOf_56 rfl ?_
      refine aw_iadd (pc := 57) C dX9_nervesOf_57 ?_
      refine aw_istore_n (pc := 58) C [(2, .int ((nrv (σ.1 20) r k) + 0)), (3, .int (nI k)), (0, .ref 73), (1, .int (nI r))] dX9_nervesOf_58 (Nat.le_of_ble_eq_true rfl) rfl ?_
      refine aw_iincN (pc := 59) C 1 k [(3, .int (nI (k + 1))), (2, .int ((nrv (σ.1 20) r k) + 0)), (0, .ref 73), (1, .int (nI r))] dX9_nervesOf_59 rfl rfl rfl (Nat.le_of_ble_eq_true rfl) rfl ?_
      refine aw_goto (pc := 62) C 4 dX9_nervesOf_62 (by decide) ?_
      refine aw_lvs C [0, 1, 2, 3] [(3, .int (nI (k + 1))), (2, .int ((nrv (σ.1 20) r k) + 0)), (0, .ref 73), (1, .int (nI r))] rfl ?_
      exact aw_conv (σ' := σ) (lv' := [(3, .int (nI (k + 1))), (2, .int (nrv (σ.1 20) r (k + 1))), (0, .ref 73), (1, .int (nI r))]) rfl (by rw [nrv, if_pos h17]) rfl ih4
    · refine aw_aload_n (pc := 20) C 2 dX9_nervesOf_20 rfl ?_
      refine aw_iload_n (pc := 21) C 0 dX9_nervesOf_21 rfl ?_
      refine aw_cVI (pc := 22) C (c_X9_isHome _ k (by omega)) lk_X9_126 sh73 rfl dX9_nervesOf_22 (by decide) (Nat.le_of_ble_eq_true rfl) rfl rfl ?_
      refine aw_if_neB (pc := 25) C 56 dX9_nervesOf_25 (by decide) (fun h25 => ?_) (fun h25 => ?_)
      · refine aw_iconst (pc := 56) (v := 0) C dX9_nervesOf_56 rfl ?_
        refine aw_iadd (pc := 57) C dX9_nervesOf_57 ?_
        refine aw_istore_n (pc := 58) C [(2, .int ((nrv (σ.1 20) r k) + 0)), (3, .int (nI k)), (0, .ref 73), (1, .int (nI r))] dX9_nervesOf_58 (Nat.le_of_ble_eq_true rfl) rfl ?_
        refine aw_iincN (pc := 59) C 1 k [(3, .int (nI (k + 1))), (2, .int ((nrv (σ.1 20) r k) + 0)), (0, .ref 73), (1, .int (nI r))] dX9_nervesOf_59 rfl rfl rfl (Nat.le_of_ble_eq_true rfl) rfl ?_
        refine aw_goto (pc := 62) C 4 dX9_nervesOf_62 (by decide) ?_
        refine aw_lvs C [0, 1, 2, 3] [(3, .int (nI (k + 1))), (2, .int ((nrv (σ.1 20) r k) + 0)), (0, .ref 73), (1, .int (nI r))] rfl ?_
        exact aw_conv (σ' := σ) (lv' := [(3, .int (nI (k + 1))), (2, .int (nrv (σ.1 20) r (k + 1))), (0, .ref 73), (1, .int (nI r))]) rfl (by rw [nrv, if_neg h17, if_pos h25]) rfl ih4
      · refine aw_aload_n (pc := 28) C 2 dX9_nervesOf_28 rfl ?_
        refine aw_iload_n (pc := 29) C 0 dX9_nervesOf_29 rfl ?_
        refine aw_iconst (pc := 30) (v := 3) C dX9_nervesOf_30 rfl ?_
        refine aw_cVI (pc := 31) C (c_X9_is _ k 3 (by omega)) lk_X9_62 sh73 rfl dX9_nervesOf_31 (by decide) (Nat.le_of_ble_eq_true rfl) rfl rfl ?_
        refine aw_aload_n (pc := 34) C 2 dX9_nervesOf_34 rfl ?_
        refine aw_iload_n (pc := 35) C 3 dX9_nervesOf_35 rfl ?_
        refine aw_iconst (pc := 36) (v := 3) C dX9_nervesOf_36 rfl ?_
        refine aw_cVI (pc := 37) C (c_X9_is _ r 3 (by omega)) lk_X9_62 sh73 rfl dX9_nervesOf_37 (by decide) (Nat.le_of_ble_eq_true rfl) rfl rfl ?_
        refine aw_isub (pc := 40) C dX9_nervesOf_40 ?_
        refine aw_i2l (pc := 41) C dX9_nervesOf_41 ?_
        refine aw_ldc2 (pc := 42) C dX9_nervesOf_42 kc_X9_129 ?_
        refine aw_lconst (pc := 45) (v := 1) C dX9_nervesOf_45 rfl ?_
        refine aw_cSI (pc := 46) C (c_X9_in _ ((σ.1 20 (33 + 37 * k + 3)) - (σ.1 20 (33 + 37 * r + 3))) (-1) 1 _ _ _ rfl (by decide) (by decide)) lk_X9_54 dX9_nervesOf_46 (by decide) (Nat.le_of_ble_eq_true rfl) rfl rfl ?_
        refine aw_if_eqB (pc := 49) C 56 dX9_nervesOf_49 (by decide) (fun h49 => ?_) (fun h49 => ?_)
        · refine aw_iconst (pc := 56) (v := 0) C dX9_nervesOf_56 rfl ?_
          refine aw_iadd (pc := 57) C dX9_nervesOf_57 ?_
          refine aw_istore_n (pc := 58) C [(2, .int ((nrv (σ.1 20) r k) + 0)), (3, .int (nI k)), (0, .ref 73), (1, .int (nI r))] dX9_nervesOf_58 (Nat.le_of_ble_eq_true rfl) rfl ?_
          refine aw_iincN (pc := 59) C 1 k [(3, .int (nI (k + 1))), (2, .int ((nrv (σ.1 20) r k) + 0)), (0, .ref 73), (1, .int (nI r))] dX9_nervesOf_59 rfl rfl rfl (Nat.le_of_ble_eq_true rfl) rfl ?_
          refine aw_goto (pc := 62) C 4 dX9_nervesOf_62 (by decide) ?_
          refine aw_lvs C [0, 1, 2, 3] [(3, .int (nI (k + 1))), (2, .int ((nrv (σ.1 20) r k) + 0)), (0, .ref 73), (1, .int (nI r))] rfl ?_
          exact aw_conv (σ' := σ) (lv' := [(3, .int (nI (k + 1))), (2, .int (nrv (σ.1 20) r (k + 1))), (0, .ref 73), (1, .int (nI r))]) rfl (by rw [nrv, if_neg h17, if_neg h25, if_neg h49]) rfl ih4
        · refine aw_iconst (pc := 52) (v := 1) C dX9_nervesOf_52 rfl ?_
          refine aw_goto (pc := 53) C 57 dX9_nervesOf_53 (by decide) ?_
          refine aw_iadd (pc := 57) C dX9_nervesOf_57 ?_
          refine aw_istore_n (pc := 58) C [(2, .int ((nrv (σ.1 20) r k) + 1)), (3, .int (nI k)), (0, .ref 73), (1, .int (nI r))] dX9_nervesOf_58 (Nat.le_of_ble_eq_true rfl) rfl ?_
          refine aw_iincN (pc := 59) C 1 k [(3, .int (nI (k + 1))), (2, .int ((nrv (σ.1 20) r k) + 1)), (0, .ref 73), (1, .int (nI r))] dX9_nervesOf_59 rfl rfl rfl (Nat.le_of_ble_eq_true rfl) rfl ?_
          refine aw_goto (pc := 62) C 4 dX9_nervesOf_62 (by decide) ?_
          refine aw_lvs C [0, 1, 2, 3] [(3, .int (nI (k + 1))), (2, .int ((nrv (σ.1 20) r k) + 1)), (0, .ref 73), (1, .int (nI r))] rfl ?_
          exact aw_conv (σ' := σ) (lv' := [(3, .int (nI (k + 1))), (2, .int (nrv (σ.1 20) r (k + 1))), (0, .ref 73), (1, .int (nI r))]) rfl (by rw [nrv, if_neg h17, if_neg h25, if_pos h49]) rfl ih4
theorem c_X9_oddsNow (σ : St) (n : Nat) (hn : σ.1 20 2 = nI n) (hz : n ≤ 6) (r : Nat) (hr : r < n) (y : Nat) (hy : fl (σ.1 20) r 3 = nI y) (hy3 : y < 30) : AMet Y_X9_oddsNow [.ref 73, .int (nI r)] σ (fz (some (.int (oddsN (σ.1 20) n r))) (σ)) := by
  refine am_intro (by decide +kernel) (Nat.le_of_ble_eq_true rfl) (fun K C => ?_)
  refine aw_aload_n (pc := 0) C 0 dX9_oddsNow_0 rfl ?_
  refine aw_iload_n (pc := 1) C 1 dX9_oddsNow_1 rfl ?_
  refine aw_aload_n (pc := 2) C 0 dX9_oddsNow_2 rfl ?_
  refine aw_iload_n (pc := 3) C 1 dX9_oddsNow_3 rfl ?_
  refine aw_iconst (pc := 4) (v := 3) C dX9_oddsNow_4 rfl ?_
  refine aw_cVI (pc := 5) C (c_X9_is _ r 3 (by omega)) lk_X9_62 sh73 rfl dX9_oddsNow_5 (by decide) (Nat.le_of_ble_eq_true rfl) rfl rfl ?_
  refine aw_top C (nI (y)) hy ?_
  refine aw_aload_n (pc := 8) C 0 dX9_oddsNow_8 rfl ?_
  refine aw_iload_n (pc := 9) C 1 dX9_oddsNow_9 rfl ?_
  refine aw_aload_n (pc := 10) C 0 dX9_oddsNow_10 rfl ?_
  refine aw_iload_n (pc := 11) C 1 dX9_oddsNow_11 rfl ?_
  refine aw_iconst (pc := 12) (v := 3) C dX9_oddsNow_12 rfl ?_
  refine aw_cVI (pc := 13) C (c_X9_is _ r 3 (by omega)) lk_X9_62 sh73 rfl dX9_oddsNow_13 (by decide) (Nat.le_of_ble_eq_true rfl) rfl rfl ?_
  refine aw_top C (nI (y)) hy ?_
  refine aw_cVI (pc := 16) C (c_X9_paceAt _ r y (by omega) (by omega)) lk_X9_110 sh73 rfl dX9_oddsNow_16 (by decide) (Nat.le_of_ble_eq_true rfl) rfl rfl ?_
  refine aw_aload_n (pc := 19) C 0 dX9_oddsNow_19 rfl ?_
  refine aw_iload_n (pc := 20) C 1 dX9_oddsNow_20 rfl ?_
  refine aw_iconst (pc := 21) (v := 5) C dX9_oddsNow_21 rfl ?_
  refine aw_cVI (pc := 22) C (c_X9_is _ r 5 (by omega)) lk_X9_62 sh73 rfl dX9_oddsNow_22 (by decide) (Nat.le_of_ble_eq_true rfl) rfl rfl ?_
  refine aw_if_le (pc := 25) C 32 dX9_oddsNow_25 (by decide) (fun h25 => ?_) (fun h25 => ?_)
  · refine aw_iconst (pc := 32) (v := 0) C dX9_oddsNow_32 rfl ?_
    refine aw_top C (b2i (0 < fl (σ.1 20) r 5)) (b2i_f (Int32.not_lt.mpr h25)).symm ?_
    refine aw_aload_n (pc := 33) C 0 dX9_oddsNow_33 rfl ?_
    refine aw_iload_n (pc := 34) C 1 dX9_oddsNow_34 rfl ?_
    refine aw_cVI (pc := 35) C (c_X9_nervesOf _ n hn hz r (by omega)) lk_X9_131 sh73 rfl dX9_oddsNow_35 (by decide) (Nat.le_of_ble_eq_true rfl) rfl rfl ?_
    refine aw_cVI (pc := 38) C (c_X9_oddsBy _ r y (σ.1 20 (33 + 37 * r + (7 + y))) (0 < fl (σ.1 20) r 5) (nrv (σ.1 20) r n) (by omega) (by omega)) lk_X9_122 sh73 rfl dX9_oddsNow_38 (by decide) (Nat.le_of_ble_eq_true rfl) rfl rfl ?_
    exact aw_iret (pc := 41) C rfl dX9_oddsNow_41 (by rw [oddsN, hy, cl_nI (by omega)]) rfl
  · refine aw_iconst (pc := 28) (v := 1) C dX9_oddsNow_28 rfl ?_
    refine aw_goto (pc := 29) C 33 dX9_oddsNow_29 (by decide) ?_
    refine aw_top C (b2i (0 < fl (σ.1 20) r 5)) (b2i_t (Int32.not_le.mp h25)).symm ?_
    refine aw_aload_n (pc := 33) C 0 dX9_oddsNow_33 rfl ?_
    refine aw_iload_n (pc := 34) C 1 dX9_oddsNow_34 rfl ?_
    refine aw_cVI (pc := 35) C (c_X9_nervesOf _ n hn hz r (by omega)) lk_X9_131 sh73 rfl dX9_oddsNow_35 (by decide) (Nat.le_of_ble_eq_true rfl) rfl rfl ?_
    refine aw_cVI (pc := 38) C (c_X9_oddsBy _ r y (σ.1 20 (33 + 37 * r + (7 + y))) (0 < fl (σ.1 20) r 5) (nrv (σ.1 20) r n) (by omega) (by omega)) lk_X9_122 sh73 rfl dX9_oddsNow_38 (by decide) (Nat.le_of_ble_eq_true rfl) rfl rfl ?_
    exact aw_iret (pc := 41) C rfl dX9_oddsNow_41 (by rw [oddsN, hy, cl_nI (by omega)]) rfl
theorem c_X9_draw (σ : St) : AMet Y_X9_draw [.ref 73] σ (fz (some (.int (drawV (σ.1 20)))) (setR σ 20 (upd (σ.1 20) 1 (drawZ (σ.1 20))))) := by
  refine am_intro (by decide +kernel) (Nat.le_of_ble_eq_true rfl) (fun K C => ?_)
  refine aw_aload_n (pc := 0) C 0 dX9_draw_0 rfl ?_
  refine aw_getR (pc := 1) C fl_X9_9 sh73 rfl dX9_draw_1 ?_
  refine aw_iconst (pc := 4) (v := 1) C dX9_draw_4 rfl ?_
  refine aw_aload_n (pc := 5) C 0 dX9_draw_5 rfl ?_
  refine aw_getR (pc := 6) C fl_X9_9 sh73 rfl dX9_draw_6 ?_
  refine aw_iconst (pc := 9) (v := 1) C dX9_draw_9 rfl ?_
  refine aw_ild (pc := 10) (k := 1) C (1) (σ.1 20 1) sh74 dX9_draw_10 rfl (by omega) rfl rfl ?_
  refine aw_ldc (pc := 11) C dX9_draw_11 kc_X9_138 ?_
  refine aw_imul (pc := 13) C dX9_draw_13 ?_
  refine aw_sipush (pc := 14) (v := 12345) C dX9_draw_14 rfl ?_
  refine aw_iadd (pc := 17) C dX9_draw_17 ?_
  refine aw_ist (pc := 18) (k := 1) C (1) (setR σ 20 (upd (σ.1 20) 1 (((σ.1 20 1) * 1103515245) + 12345))) sh74 dX9_draw_18 rfl (by omega) rfl rfl ?_
  refine aw_aload_n (pc := 19) C 0 dX9_draw_19 rfl ?_
  refine aw_getR (pc := 20) C fl_X9_9 sh73 rfl dX9_draw_20 ?_
  refine aw_iconst (pc := 23) (v := 1) C dX9_draw_23 rfl ?_
  refine aw_ild (pc := 24) (k := 1) C (1) (((σ.1 20 1) * 1103515245) + 12345) sh74 dX9_draw_24 rfl (by omega) rfl (by first | rfl | (simp (disch := omega) only [setR_at, setR_twice, setL_at, setL_twice, setR_2, setL_1, setR_ne, setL_ne, ne_eq, Nat.reduceEqDiff, not_false_eq_true, pk_us, pk_un]; done) | ((try simp (disch := omega) only [setR_at, setR_twice, setL_at, setL_twice, setR_2, setL_1, setR_ne, setL_ne, ne_eq, Nat.reduceEqDiff, not_false_eq_true, pk_us, pk_un]); refine Prod.ext (funext fun z => ?_) rfl; simp only [setR]; (repeat' split) <;> first | rfl | (exfalso; omega))) ?_
  refine aw_bipush (pc := 25) (v := 8) C dX9_draw_25 rfl ?_
  refine aw_iushr (pc := 27) C dX9_draw_27 ?_
  exact aw_iret (pc := 28) C rfl dX9_draw_28 rfl rfl
