/-! the reference: means -/
theorem c_X9_behind (σ : St) (r y s : Nat) (p : Int32) (hr : r < 6) (hy : y < 30) (hs : s < 4) : AMet Y_X9_behind [.ref 73, .int (nI r), .int (nI y), .int (nI s), .int p] σ (fz (some (.int (behS (fun j => σ.1 25 (4 * (y + 1) + j)) (σ.1 20) r y s p))) (σ)) := by
  refine am_intro (by decide +kernel) (Nat.le_of_ble_eq_true rfl) (fun K C => ?_)
  refine aw_aload_n (pc := 0) C 0 dX9_behind_0 rfl ?_
  refine aw_iload_n (pc := 1) C 1 dX9_behind_1 rfl ?_
  refine aw_iload_n (pc := 2) C 2 dX9_behind_2 rfl ?_
  refine aw_iload (pc := 3) C 4 dX9_behind_3 rfl ?_
  refine aw_iload_n (pc := 5) C 3 dX9_behind_5 rfl ?_
  refine aw_if_leN (pc := 6) C s 13 rfl (by omega) dX9_behind_6 (by decide) (fun h6 => ?_) (fun h6 => ?_)
  · refine aw_iconst (pc := 13) (v := 0) C dX9_behind_13 rfl ?_
    refine aw_top C (b2i (0 < s)) (b2i_f (by omega)).symm ?_
    refine aw_iconst (pc := 14) (v := 0) C dX9_behind_14 rfl ?_
    refine aw_cVI (pc := 15) C (c_X9_oddsBy _ r y p (0 < s) 0 (by omega) (by omega)) lk_X9_122 sh73 rfl dX9_behind_15 (by decide) (Nat.le_of_ble_eq_true rfl) rfl rfl ?_
    refine aw_istore (pc := 18) C [(5, .int (oddsM (σ.1 20) r y p (shk (0 < s)) 0)), (0, .ref 73), (1, .int (nI r)), (2, .int (nI y)), (3, .int (nI s)), (4, .int p)] dX9_behind_18 (Nat.le_of_ble_eq_true rfl) rfl ?_
    refine aw_iconst (pc := 20) (v := 4) C dX9_behind_20 rfl ?_
    refine aw_iload_n (pc := 21) C 3 dX9_behind_21 rfl ?_
    refine aw_iconst (pc := 22) (v := 1) C dX9_behind_22 rfl ?_
    refine aw_iaddN (pc := 23) C y 1 rfl rfl dX9_behind_23 ?_
    refine aw_imulN (pc := 24) C 4 (y + 1) rfl rfl dX9_behind_24 ?_
    refine aw_istore (pc := 25) C [(6, .int (nI (4 * (y + 1)))), (5, .int (oddsM (σ.1 20) r y p (shk (0 < s)) 0)), (0, .ref 73), (1, .int (nI r)), (2, .int (nI y)), (3, .int (nI s)), (4, .int p)] dX9_behind_25 (Nat.le_of_ble_eq_true rfl) rfl ?_
    refine aw_aload_n (pc := 27) C 2 dX9_behind_27 rfl ?_
    refine aw_getR (pc := 28) C fl_X9_22 sh73 rfl dX9_behind_28 ?_
    refine aw_iload (pc := 31) C 0 dX9_behind_31 rfl ?_
    refine aw_iload_n (pc := 33) C 5 dX9_behind_33 rfl ?_
    refine aw_if_leN (pc := 34) C s 43 rfl (by omega) dX9_behind_34 (by decide) (fun h34 => ?_) (fun h34 => absurd h34 (by omega))
    refine aw_iconst (pc := 43) (v := 0) C dX9_behind_43 rfl ?_
    refine aw_iaddN (pc := 44) C (4 * (y + 1)) 0 rfl rfl dX9_behind_44 ?_
    refine aw_ild (pc := 45) (k := (4 * (y + 1)) + 0) C ((4 * (y + 1)) + 0) (σ.1 25 ((4 * (y + 1)) + 0)) sh78 dX9_behind_45 rfl (by omega) rfl rfl ?_
    refine aw_istore (pc := 46) C [(7, .int (σ.1 25 ((4 * (y + 1)) + 0))), (6, .int (nI (4 * (y + 1)))), (5, .int (oddsM (σ.1 20) r y p (shk (0 < s)) 0)), (0, .ref 73), (1, .int (nI r)), (2, .int (nI y)), (3, .int (nI s)), (4, .int p)] dX9_behind_46 (Nat.le_of_ble_eq_true rfl) rfl ?_
    refine aw_sipush (pc := 48) (v := 1000) C dX9_behind_48 rfl ?_
    refine aw_aload_n (pc := 51) C 3 dX9_behind_51 rfl ?_
    refine aw_iload_n (pc := 52) C 4 dX9_behind_52 rfl ?_
    refine aw_iload (pc := 53) C 7 dX9_behind_53 rfl ?_
    refine aw_cVI (pc := 55) C (c_X9_takes _ r p (by omega)) lk_X9_119 sh73 rfl dX9_behind_55 (by decide) (Nat.le_of_ble_eq_true rfl) rfl rfl ?_
    refine aw_imul (pc := 58) C dX9_behind_58 ?_
    refine aw_bipush (pc := 59) (v := 24) C dX9_behind_59 rfl ?_
    refine aw_iload (pc := 61) C 2 dX9_behind_61 rfl ?_
    refine aw_isub (pc := 63) C dX9_behind_63 ?_
    refine aw_iload (pc := 64) C 0 dX9_behind_64 rfl ?_
    refine aw_imul (pc := 66) C dX9_behind_66 ?_
    refine aw_iload (pc := 67) C 2 dX9_behind_67 rfl ?_
    refine aw_sipush (pc := 69) (v := 1000) C dX9_behind_69 rfl ?_
    refine aw_aload_n (pc := 72) C 3 dX9_behind_72 rfl ?_
    refine aw_getR (pc := 73) C fl_X9_9 sh73 rfl dX9_behind_73 ?_
    refine aw_iconst (pc := 76) (v := 0) C dX9_behind_76 rfl ?_
    refine aw_ild (pc := 77) (k := 0) C (0) (σ.1 20 0) sh74 dX9_behind_77 rfl (by omega) rfl rfl ?_
    refine aw_imul (pc := 78) C dX9_behind_78 ?_
    refine aw_aload_n (pc := 79) C 3 dX9_behind_79 rfl ?_
    refine aw_getR (pc := 80) C fl_X9_22 sh73 rfl dX9_behind_80 ?_
    refine aw_iload (pc := 83) C 1 dX9_behind_83 rfl ?_
    refine aw_iconst (pc := 85) (v := 3) C dX9_behind_85 rfl ?_
    refine aw_iaddN (pc := 86) C (4 * (y + 1)) 3 rfl rfl dX9_behind_86 ?_
    refine aw_ild (pc := 87) (k := (4 * (y + 1)) + 3) C ((4 * (y + 1)) + 3) (σ.1 25 ((4 * (y + 1)) + 3)) sh78 dX9_behind_87 rfl (by omega) rfl rfl ?_
    refine aw_iadd (pc := 88) C dX9_behind_88 ?_
    refine aw_imul (pc := 89) C dX9_behind_89 ?_
    refine aw_iadd (pc := 90) C dX9_behind_90 ?_
    refine aw_bipush (pc := 91) (v := 24) C dX9_behind_91 rfl ?_
    refine aw_idiv (pc := 93) C dX9_behind_93 (by decide) ?_
    refine aw_iadd (pc := 94) C dX9_behind_94 ?_
    exact aw_iret (pc := 95) C rfl dX9_behind_95 (by subst h6; rfl) rfl
  · refine aw_iconst (pc := 9) (v := 1) C dX9_behind_9 rfl ?_
    refine aw_goto (pc := 10) C 14 dX9_behind_10 (by decide) ?_
    refine aw_top C (b2i (0 < s)) (b2i_t h6).symm ?_
    refine aw_iconst (pc := 14) (v := 0) C dX9_behind_14 rfl ?_
    refine aw_cVI (pc := 15) C (c_X9_oddsBy _ r y p (0 < s) 0 (by omega) (by omega)) lk_X9_122 sh73 rfl dX9_behind_15 (by decide) (Nat.le_of_ble_eq_true rfl) rfl rfl ?_
    refine aw_istore (pc := 18) C [(5, .int (oddsM (σ.1 20) r y p (shk (0 < s)) 0)), (0, .ref 73), (1, .int (nI r)), (2, .int (nI y)), (3, .int (nI s)), (4, .int p)] dX9_behind_18 (Nat.le_of_ble_eq_true rfl) rfl ?_
    refine aw_iconst (pc := 20) (v := 4) C dX9_behind_20 rfl ?_
    refine aw_iload_n (pc := 21) C 3 dX9_behind_21 rfl ?_
    refine aw_iconst (pc := 22) (v := 1) C dX9_behind_22 rfl ?_
    refine aw_iaddN (pc := 23) C y 1 rfl rfl dX9_behind_23 ?_
    refine aw_imulN (pc := 24) C 4 (y + 1) rfl rfl dX9_behind_24 ?_
    refine aw_istore (pc := 25) C [(6, .int (nI (4 * (y + 1)))), (5, .int (oddsM (σ.1 20) r y p (shk (0 < s)) 0)), (0, .ref 73), (1, .int (nI r)), (2, .int (nI y)), (3, .int (nI s)), (4, .int p)] dX9_behind_25 (Nat.le_of_ble_eq_true rfl) rfl ?_
    refine aw_aload_n (pc := 27) C 2 dX9_behind_27 rfl ?_
    refine aw_getR (pc := 28) C fl_X9_22 sh73 rfl dX9_behind_28 ?_
    refine aw_iload (pc := 31) C 0 dX9_behind_31 rfl ?_
    refine aw_iload_n (pc := 33) C 5 dX9_behind_33 rfl ?_
    refine aw_if_leN (pc := 34) C s 43 rfl (by omega) dX9_behind_34 (by decide) (fun h34 => absurd h34 (by omega)) (fun h34 => ?_)
    refine aw_iload_n (pc := 37) C 5 dX9_behind_37 rfl ?_
    refine aw_iconst (pc := 38) (v := 1) C dX9_behind_38 rfl ?_
    refine aw_isubN (pc := 39) C s 1 rfl rfl (by omega) dX9_behind_39 ?_
    refine aw_goto (pc := 40) C 44 dX9_behind_40 (by decide) ?_
    refine aw_iaddN (pc := 44) C (4 * (y + 1)) (s - 1) rfl rfl dX9_behind_44 ?_
    refine aw_ild (pc := 45) (k := (4 * (y + 1)) + (s - 1)) C ((4 * (y + 1)) + (s - 1)) (σ.1 25 ((4 * (y + 1)) + (s - 1))) sh78 dX9_behind_45 rfl (by omega) rfl rfl ?_
    refine aw_istore (pc := 46) C [(7, .int (σ.1 25 ((4 * (y + 1)) + (s - 1)))), (6, .int (nI (4 * (y + 1)))), (5, .int (oddsM (σ.1 20) r y p (shk (0 < s)) 0)), (0, .ref 73), (1, .int (nI r)), (2, .int (nI y)), (3, .int (nI s)), (4, .int p)] dX9_behind_46 (Nat.le_of_ble_eq_true rfl) rfl ?_
    refine aw_sipush (pc := 48) (v := 1000) C dX9_behind_48 rfl ?_
    refine aw_aload_n (pc := 51) C 3 dX9_behind_51 rfl ?_
    refine aw_iload_n (pc := 52) C 4 dX9_behind_52 rfl ?_
    refine aw_iload (pc := 53) C 7 dX9_behind_53 rfl ?_
    refine aw_cVI (pc := 55) C (c_X9_takes _ r p (by omega)) lk_X9_119 sh73 rfl dX9_behind_55 (by decide) (Nat.le_of_ble_eq_true rfl) rfl rfl ?_
    refine aw_imul (pc := 58) C dX9_behind_58 ?_
    refine aw_bipush (pc := 59) (v := 24) C dX9_behind_59 rfl ?_
    refine aw_iload (pc := 61) C 2 dX9_behind_61 rfl ?_
    refine aw_isub (pc := 63) C dX9_behind_63 ?_
    refine aw_iload (pc := 64) C 0 dX9_behind_64 rfl ?_
    refine aw_imul (pc := 66) C dX9_behind_66 ?_
    refine aw_iload (pc := 67) C 2 dX9_behind_67 rfl ?_
    refine aw_sipush (pc := 69) (v := 1000) C dX9_behind_69 rfl ?_
    refine aw_aload_n (pc := 72) C 3 dX9_behind_72 rfl ?_
    refine aw_getR (pc := 73) C fl_X9_9 sh73 rfl dX9_behind_73 ?_
    refine aw_iconst (pc := 76) (v := 0) C dX9_behind_76 rfl ?_
    refine aw_ild (pc := 77) (k := 0) C (0) (σ.1 20 0) sh74 dX9_behind_77 rfl (by omega) rfl rfl ?_
    refine aw_imul (pc := 78) C dX9_behind_78 ?_
    refine aw_aload_n (pc := 79) C 3 dX9_behind_79 rfl ?_
    refine aw_getR (pc := 80) C fl_X9_22 sh73 rfl dX9_behind_80 ?_
    refine aw_iload (pc := 83) C 1 dX9_behind_83 rfl ?_
    refine aw_iconst (pc := 85) (v := 3) C dX9_behind_85 rfl ?_
    refine aw_iaddN (pc := 86) C (4 * (y + 1)) 3 rfl rfl dX9_behind_86 ?_
    refine aw_ild (pc := 87) (k := (4 * (y + 1)) + 3) C ((4 * (y + 1)) + 3) (σ.1 25 ((4 * (y + 1)) + 3)) sh78 dX9_behind_87 rfl (by omega) rfl rfl ?_
    refine aw_iadd (pc := 88) C dX9_behind_88 ?_
    refine aw_imul (pc := 89) C dX9_behind_89 ?_
    refine aw_iadd (pc := 90) C dX9_behind_90 ?_
    refine aw_bipush (pc := 91) (v := 24) C dX9_behind_91 rfl ?_
    refine aw_idiv (pc := 93) C dX9_behind_93 (by decide) ?_
    refine aw_iadd (pc := 94) C dX9_behind_94 ?_
    exact aw_iret (pc := 95) C rfl dX9_behind_95 rfl rfl
theorem c_X9_means_false (σ : St) (r e : Nat) (hr : r < 6) (he : e ≤ 30) : AMet Y_X9_means [.ref 73, .int (nI r), .int (nI e), .int 0] σ (MeanZ false σ r e) := by
  refine am_intro (by decide +kernel) (Nat.le_of_ble_eq_true rfl) (fun K C => ?_)
  refine aw_iconst (pc := 0) (v := 0) C dX9_means_0 rfl ?_
  refine aw_istore (pc := 1) C [(4, .int 0), (0, .ref 73), (1, .int (nI r)), (2, .int (nI e)), (3, .int 0)] dX9_means_1 (Nat.le_of_ble_eq_true rfl) rfl ?_
  refine aw_iload (pc := 3) C 0 dX9_means_3 rfl ?_
  refine aw_iconst (pc := 5) (v := 4) C dX9_means_5 rfl ?_
  refine aw_icmp_ge (pc := 6) C 27 dX9_means_6 (by decide) (fun h6 => absurd h6 (by decide)) (fun h6 => ?_)
  refine aw_aload_n (pc := 9) C 1 dX9_means_9 rfl ?_
  refine aw_getR (pc := 10) C fl_X9_22 sh73 rfl dX9_means_10 ?_
  refine aw_iconst (pc := 13) (v := 4) C dX9_means_13 rfl ?_
  refine aw_iload_n (pc := 14) C 3 dX9_means_14 rfl ?_
  refine aw_imulN (pc := 15) C 4 e rfl rfl dX9_means_15 ?_
  refine aw_iload (pc := 16) C 0 dX9_means_16 rfl ?_
  refine aw_iaddN (pc := 18) C (4 * e) 0 rfl rfl dX9_means_18 ?_
  refine aw_iconst (pc := 19) (v := 0) C dX9_means_19 rfl ?_
  refine aw_ist (pc := 20) (k := (4 * e) + 0) C ((4 * e) + 0) (setR σ 25 (upd (σ.1 25) ((4 * e) + 0) (0))) sh78 dX9_means_20 rfl (by omega) rfl rfl ?_
  refine aw_iinc (pc := 21) C 0 1 [(4, .int 1), (0, .ref 73), (1, .int (nI r)), (2, .int (nI e)), (3, .int 0)] dX9_means_21 rfl (by decide) (Nat.le_of_ble_eq_true rfl) rfl ?_
  refine aw_goto (pc := 24) C 3 dX9_means_24 (by decide) ?_
  refine aw_iload (pc := 3) C 0 dX9_means_3 rfl ?_
  refine aw_iconst (pc := 5) (v := 4) C dX9_means_5 rfl ?_
  refine aw_icmp_ge (pc := 6) C 27 dX9_means_6 (by decide) (fun h6 => absurd h6 (by decide)) (fun h6 => ?_)
  refine aw_aload_n (pc := 9) C 1 dX9_means_9 rfl ?_
  refine aw_getR (pc := 10) C fl_X9_22 sh73 rfl dX9_means_10 ?_
  refine aw_iconst (pc := 13) (v := 4) C dX9_means_13 rfl ?_
  refine aw_iload_n (pc := 14) C 3 dX9_means_14 rfl ?_
  refine aw_imulN (pc := 15) C 4 e rfl rfl dX9_means_15 ?_
  refine aw_iload (pc := 16) C 0 dX9_means_16 rfl ?_
  refine aw_iaddN (pc := 18) C (4 * e) 1 rfl rfl dX9_means_18 ?_
  refine aw_iconst (pc := 19) (v := 0) C dX9_means_19 rfl ?_
  refine aw_ist (pc := 20) (k := (4 * e) + 1) C ((4 * e) + 1) (setR σ 25 (upd (upd (σ.1 25) ((4 * e) + 0) (0)) ((4 * e) + 1) (0))) sh78 dX9_means_20 rfl (by omega) rfl (by first | rfl | (simp (disch := omega) only [setR_at, setR_twice, setL_at, setL_twice, setR_2, setL_1, setR_ne, setL_ne, ne_eq, Nat.reduceEqDiff, not_false_eq_true, pk_us, pk_un]; done) | ((try simp (disch := omega) only [setR_at, setR_twice, setL_at, setL_twice, setR_2, setL_1, setR_ne, setL_ne, ne_eq, Nat.reduceEqDiff, not_false_eq_true, pk_us, pk_un]); refine Prod.ext (funext fun z => ?_) rfl; simp only [setR]; (repeat' split) <;> first | rfl | (exfalso; omega))) ?_
  refine aw_iinc (pc := 21) C 0 2 [(4, .int 2), (0, .ref 73), (1, .int (nI r)), (2, .int (nI e)), (3, .int 0)] dX9_means_21 rfl (by decide) (Nat.le_of_ble_eq_true rfl) rfl ?_
  refine aw_goto (pc := 24) C 3 dX9_means_24 (by decide) ?_
  refine aw_iload (pc := 3) C 0 dX9_means_3 rfl ?_
  refine aw_iconst (pc := 5) (v := 4) C dX9_means_5 rfl ?_
  refine aw_icmp_ge (pc := 6) C 27 dX9_means_6 (by decide) (fun h6 => absurd h6 (by decide)) (fun h6 => ?_)
  refine aw_aload_n (pc := 9) C 1 dX9_means_9 rfl ?_
  refine aw_getR (pc := 10) C fl_X9_22 sh73 rfl dX9_means_10 ?_
  refine aw_iconst (pc := 13) (v := 4) C dX9_means_13 rfl ?_
  refine aw_iload_n (pc := 14) C 3 dX9_means_14 rfl ?_
  refine aw_imulN (pc := 15) C 4 e rfl rfl dX9_means_15 ?_
  refine aw_iload (pc := 16) C 0 dX9_means_16 rfl ?_
  refine aw_iaddN (pc := 18) C (4 * e) 2 rfl rfl dX9_means_18 ?_
  refine aw_iconst (pc := 19) (v := 0) C dX9_means_19 rfl ?_
  refine aw_ist (pc := 20) (k := (4 * e) + 2) C ((4 * e) + 2) (setR σ 25 (upd (upd (upd (σ.1 25) ((4 * e) + 0) (0)) ((4 * e) + 1) (0)) ((4 * e) + 2) (0))) sh78 dX9_means_20 rfl (by omega) rfl (by first | rfl | (simp (disch := omega) only [setR_at, setR_twice, setL_at, setL_twice, setR_2, setL_1, setR_ne, setL_ne, ne_eq, Nat.reduceEqDiff, not_false_eq_true, pk_us, pk_un]; done) | ((try simp (disch := omega) only [setR_at, setR_twice, setL_at, setL_twice, setR_2, setL_1, setR_ne, setL_ne, ne_eq, Nat.reduceEqDiff, not_false_eq_true, pk_us, pk_un]); refine Prod.ext (funext fun z => ?_) rfl; simp only [setR]; (repeat' split) <;> first | rfl | (exfalso; omega))) ?_
  refine aw_iinc (pc := 21) C 0 3 [(4, .int 3), (0, .ref 73), (1, .int (nI r)), (2, .int (nI e)), (3, .int 0)] dX9_means_21 rfl (by decide) (Nat.le_of_ble_eq_true rfl) rfl ?_
  refine aw_goto (pc := 24) C 3 dX9_means_24 (by decide) ?_
  refine aw_iload (pc := 3) C 0 dX9_means_3 rfl ?_
  refine aw_iconst (pc := 5) (v := 4) C dX9_means_5 rfl ?_
  refine aw_icmp_ge (pc := 6) C 27 dX9_means_6 (by decide) (fun h6 => absurd h6 (by decide)) (fun h6 => ?_)
  refine aw_aload_n (pc := 9) C 1 dX9_means_9 rfl ?_
  refine aw_getR (pc := 10) C fl_X9_22 sh73 rfl dX9_means_10 ?_
  refine aw_iconst (pc := 13) (v := 4) C dX9_means_13 rfl ?_
  refine aw_iload_n (pc := 14) C 3 dX9_means_14 rfl ?_
  refine aw_imulN (pc := 15) C 4 e rfl rfl dX9_means_15 ?_
  refine aw_iload (pc := 16) C 0 dX9_means_16 rfl ?_
  refine aw_iaddN (pc := 18) C (4 * e) 3 rfl rfl dX9_means_18 ?_
  refine aw_iconst (pc := 19) (v := 0) C dX9_means_19 rfl ?_
  refine aw_ist (pc := 20) (k := (4 * e) + 3) C ((4 * e) + 3) (setR σ 25 (upd (upd (upd (upd (σ.1 25) ((4 * e) + 0) (0)) ((4 * e) + 1) (0)) ((4 * e) + 2) (0)) ((4 * e) + 3) (0))) sh78 dX9_means_20 rfl (by omega) rfl (by first | rfl | (simp (disch := omega) only [setR_at, setR_twice, setL_at, setL_twice, setR_2, setL_1, setR_ne, setL_ne, ne_eq, Nat.reduceEqDiff, not_false_eq_true, pk_us, pk_un]; done) | ((try simp (disch := omega) only [setR_at, setR_twice, setL_at, setL_twice, setR_2, setL_1, setR_ne, setL_ne, ne_eq, Nat.reduceEqDiff, not_false_eq_true, pk_us, pk_un]); refine Prod.ext (funext fun z => ?_) rfl; simp only [setR]; (repeat' split) <;> first | rfl | (exfalso; omega))) ?_
  refine aw_iinc (pc := 21) C 0 4 [(4, .int 4), (0, .ref 73), (1, .int (nI r)), (2, .int (nI e)), (3, .int 0)] dX9_means_21 rfl (by decide) (Nat.le_of_ble_eq_true rfl) rfl ?_
  refine aw_goto (pc := 24) C 3 dX9_means_24 (by decide) ?_
  refine aw_iload (pc := 3) C 0 dX9_means_3 rfl ?_
  refine aw_iconst (pc := 5) (v := 4) C dX9_means_5 rfl ?_
  refine aw_icmp_ge (pc := 6) C 27 dX9_means_6 (by decide) (fun h6 => ?_) (fun h6 => absurd h6 (by decide))
  refine aw_iload_n (pc := 27) C 3 dX9_means_27 rfl ?_
  refine aw_iconst (pc := 28) (v := 1) C dX9_means_28 rfl ?_
  refine aw_isub (pc := 29) C dX9_means_29 ?_
  refine aw_istore (pc := 30) C [(4, .int ((nI (e)) - 1)), (0, .ref 73), (1, .int (nI r)), (2, .int (nI e)), (3, .int 0)] dX9_means_30 (Nat.le_of_ble_eq_true rfl) rfl ?_
  refine aw_lvs C [0, 1, 2, 3, 4] [(4, .int ((nI (e)) - 1)), (0, .ref 73), (1, .int (nI r)), (2, .int (nI e)), (3, .int 0)] rfl ?_
  refine aw_conv (σ' := setR (setR σ 25 (upd (upd (upd (upd (σ.1 25) (4 * e + 0) 0) (4 * e + 1) 0) (4 * e + 2) 0) (4 * e + 3) 0)) 26 (σ.1 26)) (lv' := [(4, .int (dI e)), (0, .ref 73), (1, .int (nI r)), (2, .int (nI e)), (3, .int 0)]) (setR_same (setR σ 25 (upd (upd (upd (upd (σ.1 25) (4 * e + 0) 0) (4 * e + 1) 0) (4 * e + 2) 0) (4 * e + 3) 0)) 26).symm (by rw [dI_sub]) rfl ?_
  refine loop_dn (P := fun m => m ≤ e → ∀ (f g : Fl) (hI : MInv false (σ.1 20) r e m f g), AW _ K _ (setR (setR σ 25 (f)) 26 (g)) 32 [(4, .int (dI m)), (0, .ref 73), (1, .int (nI r)), (2, .int (nI e)), (3, .int 0)] []) ?_ ?_ e (by omega) (upd (upd (upd (upd (σ.1 25) (4 * e + 0) 0) (4 * e + 1) 0) (4 * e + 2) 0) (4 * e + 3) 0) (σ.1 26) MInv.first
  · intro hk32 f g hI
    refine aw_iload (pc := 32) C 0 dX9_means_32 rfl ?_
    refine aw_if_lt (pc := 34) C 164 dX9_means_34 (by decide) (fun h34 => ?_) (fun h34 => absurd h34 (by decide))
    exact aw_vretP (pc := 164) C rfl dX9_means_164 ⟨f, g, hI, rfl, rfl⟩
  · intro m ih32 hk32 f g hI
    refine aw_iload (pc := 32) C 0 dX9_means_32 rfl ?_
    refine aw_if_lt (pc := 34) C 164 dX9_means_34 (by decide) (fun h34 => absurd h34 (nI_pos (by omega))) (fun h34 => ?_)
    refine aw_iconst (pc := 37) (v := 0) C dX9_means_37 rfl ?_
    refine aw_istore (pc := 38) C [(5, .int 0), (4, .int (nI m)), (0, .ref 73), (1, .int (nI r)), (2, .int (nI e)), (3, .int 0)] dX9_means_38 (Nat.le_of_ble_eq_true rfl) rfl ?_
    refine aw_lvs C [0, 1, 2, 3, 4, 5] [(5, .int 0), (4, .int (nI m)), (0, .ref 73), (1, .int (nI r)), (2, .int (nI e)), (3, .int 0)] rfl ?_
    refine aw_conv (σ' := setR (setR σ 25 (f)) 26 (g)) (lv' := [(5, .int (nI 0)), (4, .int (nI m)), (0, .ref 73), (1, .int (nI r)), (2, .int (nI e)), (3, .int 0)]) rfl rfl rfl ?_
    refine loop_up (P := fun s => ∀ (f g : Fl) (hI : MInv2 false (σ.1 20) r e m s f g), AW _ K _ (setR (setR σ 25 (f)) 26 (g)) 40 [(5, .int (nI s)), (4, .int (nI m)), (0, .ref 73), (1, .int (nI r)), (2, .int (nI e)), (3, .int 0)] []) 4 ?_ ?_ 0 (by omega) f g (MInv2.beg hI)
    · intro f g hI
      refine aw_iload (pc := 40) C 0 dX9_means_40 rfl ?_
      refine aw_iconst (pc := 42) (v := 4) C dX9_means_42 rfl ?_
      refine aw_icmp_geN (pc := 43) C 4 4 158 rfl rfl (by omega) (by omega) dX9_means_43 (by decide) (fun h43 => ?_) (fun h43 => absurd h43 (by omega))
      refine aw_iinc (pc := 158) C 1 ((nI (m)) + (-1)) [(4, .int ((nI (m)) + (-1))), (5, .int (nI 4)), (0, .ref 73), (1, .int (nI r)), (2, .int (nI e)), (3, .int 0)] dX9_means_158 rfl rfl (Nat.le_of_ble_eq_true rfl) rfl ?_
      refine aw_goto (pc := 161) C 32 dX9_means_161 (by decide) ?_
      refine aw_lvs C [0, 2, 3, 4, 5] [(4, .int ((nI (m)) + (-1))), (0, .ref 73), (1, .int (nI r)), (2, .int (nI e)), (3, .int 0)] rfl ?_
      exact aw_conv (σ' := setR (setR σ 25 (f)) 26 (g)) (lv' := [(4, .int (dI m)), (0, .ref 73), (1, .int (nI r)), (2, .int (nI e)), (3, .int 0)]) rfl (by rw [dI_dec]) rfl (ih32 (by omega) f g hI.done)
    · intro s hk40 ih40 f g hI
      refine aw_iload (pc := 40) C 0 dX9_means_40 rfl ?_
      refine aw_iconst (pc := 42) (v := 4) C dX9_means_42 rfl ?_
      refine aw_icmp_geN (pc := 43) C s 4 158 rfl rfl (by omega) (by omega) dX9_means_43 (by decide) (fun h43 => absurd h43 (by omega)) (fun h43 => ?_)
      refine aw_aload_n (pc := 46) C 2 dX9_means_46 rfl ?_
      refine aw_iload_n (pc := 47) C 3 dX9_means_47 rfl ?_
      refine aw_iload (pc := 48) C 1 dX9_means_48 rfl ?_
      refine aw_cVI (pc := 50) C (c_X9_paceAt _ r m (by omega) (by omega)) lk_X9_110 sh73 rfl dX9_means_50 (by decide) (Nat.le_of_ble_eq_true rfl) rfl rfl ?_
      refine aw_conv (σ' := setR (setR σ 25 (f)) 26 (g)) (st' := [.int ((σ.1 20 (33 + 37 * r + (7 + m))))]) (by first | rfl | (simp (disch := omega) only [setR_at, setR_twice, setL_at, setL_twice, setR_2, setL_1, setR_ne, setL_ne, ne_eq, Nat.reduceEqDiff, not_false_eq_true, pk_us, pk_un]; done) | ((try simp (disch := omega) only [setR_at, setR_twice, setL_at, setL_twice, setR_2, setL_1, setR_ne, setL_ne, ne_eq, Nat.reduceEqDiff, not_false_eq_true, pk_us, pk_un]); refine Prod.ext (funext fun z => ?_) rfl; simp only [setR]; (repeat' split) <;> first | rfl | (exfalso; omega))) rfl (by first | rfl | (simp (disch := omega) only [setR_at, setR_twice, setL_at, setL_twice, setR_2, setL_1, setR_ne, setL_ne, ne_eq, Nat.reduceEqDiff, not_false_eq_true, pk_us, pk_un]; done) | ((try simp (disch := omega) only [setR_at, setR_twice, setL_at, setL_twice, setR_2, setL_1, setR_ne, setL_ne, ne_eq, Nat.reduceEqDiff, not_false_eq_true, pk_us, pk_un]); refine Prod.ext (funext fun z => ?_) rfl; simp only [setR]; (repeat' split) <;> first | rfl | (exfalso; omega))) ?_
      refine aw_istore (pc := 53) C [(6, .int ((σ.1 20 (33 + 37 * r + (7 + m))))), (5, .int (nI s)), (4, .int (nI m)), (0, .ref 73), (1, .int (nI r)), (2, .int (nI e)), (3, .int 0)] dX9_means_53 (Nat.le_of_ble_eq_true rfl) rfl ?_
      refine aw_iconst (pc := 55) (v := 1) C dX9_means_55 rfl ?_
      refine aw_istore (pc := 56) C [(7, .int 1), (6, .int ((σ.1 20 (33 + 37 * r + (7 + m))))), (5, .int (nI s)), (4, .int (nI m)), (0, .ref 73), (1, .int (nI r)), (2, .int (nI e)), (3, .int 0)] dX9_means_56 (Nat.le_of_ble_eq_true rfl) rfl ?_
      refine aw_iload (pc := 58) C 0 dX9_means_58 rfl ?_
      refine aw_bipush (pc := 60) (v := 9) C dX9_means_60 rfl ?_
      refine aw_icmp_gt (pc := 62) C 115 dX9_means_62 (by decide) (fun h62 => absurd h62 (by decide)) (fun h62 => ?_)
      refine aw_iload_n (pc := 65) C 7 dX9_means_65 rfl ?_
      refine aw_if_eq (pc := 66) C 115 dX9_means_66 (by decide) (fun h66 => ?_) (fun h66 => absurd h66 (by decide))
      refine aw_aload_n (pc := 115) C 4 dX9_means_115 rfl ?_
      refine aw_getR (pc := 116) C fl_X9_22 sh73 rfl dX9_means_116 ?_
      refine aw_iconst (pc := 119) (v := 4) C dX9_means_119 rfl ?_
      refine aw_iload (pc := 120) C 3 dX9_means_120 rfl ?_
      refine aw_imulN (pc := 122) C 4 m rfl rfl dX9_means_122 ?_
      refine aw_iload (pc := 123) C 2 dX9_means_123 rfl ?_
      refine aw_iaddN (pc := 125) C (4 * m) s rfl rfl dX9_means_125 ?_
      refine aw_aload_n (pc := 126) C 4 dX9_means_126 rfl ?_
      refine aw_iload_n (pc := 127) C 5 dX9_means_127 rfl ?_
      refine aw_iload (pc := 128) C 3 dX9_means_128 rfl ?_
      refine aw_iload (pc := 130) C 2 dX9_means_130 rfl ?_
      refine aw_iload (pc := 132) C 1 dX9_means_132 rfl ?_
      refine aw_cVI (pc := 134) C (c_X9_behind _ r m s (σ.1 20 (33 + 37 * r + (7 + m))) (by omega) (by omega) (by omega)) lk_X9_193 sh73 rfl dX9_means_134 (by decide) (Nat.le_of_ble_eq_true rfl) rfl rfl ?_
      refine aw_conv (σ' := setR (setR σ 25 (f)) 26 (g)) (st' := [.int (behS (fun j => f (4 * (m + 1) + j)) (σ.1 20) r m s (σ.1 20 (33 + 37 * r + (7 + m)))), .int (nI ((4 * m) + s)), .ref 78]) (by first | rfl | (simp (disch := omega) only [setR_at, setR_twice, setL_at, setL_twice, setR_2, setL_1, setR_ne, setL_ne, ne_eq, Nat.reduceEqDiff, not_false_eq_true, pk_us, pk_un]; done) | ((try simp (disch := omega) only [setR_at, setR_twice, setL_at, setL_twice, setR_2, setL_1, setR_ne, setL_ne, ne_eq, Nat.reduceEqDiff, not_false_eq_true, pk_us, pk_un]); refine Prod.ext (funext fun z => ?_) rfl; simp only [setR]; (repeat' split) <;> first | rfl | (exfalso; omega))) rfl (by first | rfl | (simp (disch := omega) only [setR_at, setR_twice, setL_at, setL_twice, setR_2, setL_1, setR_ne, setL_ne, ne_eq, Nat.reduceEqDiff, not_false_eq_true, pk_us, pk_un]; done) | ((try simp (disch := omega) only [setR_at, setR_twice, setL_at, setL_twice, setR_2, setL_1, setR_ne, setL_ne, ne_eq, Nat.reduceEqDiff, not_false_eq_true, pk_us, pk_un]); refine Prod.ext (funext fun z => ?_) rfl; simp only [setR]; (repeat' split) <;> first | rfl | (exfalso; omega))) ?_
      refine aw_top C (behS (mRow false (σ.1 20) r e (m + 1)) (σ.1 20) r m s (σ.1 20 (33 + 37 * r + (7 + m)))) (behS_congr (hI.1.row (by omega)) (by omega)) ?_
      have hvv : behS (mRow false (σ.1 20) r e (m + 1)) (σ.1 20) r m s (σ.1 20 (33 + 37 * r + (7 + m))) = mRow false (σ.1 20) r e m s := (mRow_s (by omega)).symm
      refine aw_ist (pc := 137) (k := (4 * m) + s) C ((4 * m) + s) (setR (setR σ 25 (upd f ((4 * m) + s) (behS (mRow false (σ.1 20) r e (m + 1)) (σ.1 20) r m s (σ.1 20 (33 + 37 * r + (7 + m)))))) 26 (g)) sh78 dX9_means_137 rfl (by omega) rfl (by first | rfl | (simp (disch := omega) only [setR_at, setR_twice, setL_at, setL_twice, setR_2, setL_1, setR_ne, setL_ne, ne_eq, Nat.reduceEqDiff, not_false_eq_true, pk_us, pk_un]; done) | ((try simp (disch := omega) only [setR_at, setR_twice, setL_at, setL_twice, setR_2, setL_1, setR_ne, setL_ne, ne_eq, Nat.reduceEqDiff, not_false_eq_true, pk_us, pk_un]); refine Prod.ext (funext fun z => ?_) rfl; simp only [setR]; (repeat' split) <;> first | rfl | (exfalso; omega))) ?_
      refine aw_aload_n (pc := 138) C 4 dX9_means_138 rfl ?_
      refine aw_getR (pc := 139) C fl_X9_25 sh73 rfl dX9_means_139 ?_
      refine aw_iconst (pc := 142) (v := 4) C dX9_means_142 rfl ?_
      refine aw_iload (pc := 143) C 3 dX9_means_143 rfl ?_
      refine aw_imulN (pc := 145) C 4 m rfl rfl dX9_means_145 ?_
      refine aw_iload (pc := 146) C 2 dX9_means_146 rfl ?_
      refine aw_iaddN (pc := 148) C (4 * m) s rfl rfl dX9_means_148 ?_
      refine aw_iload (pc := 149) C 1 dX9_means_149 rfl ?_
      refine aw_ist (pc := 151) (k := (4 * m) + s) C ((4 * m) + s) (setR (setR σ 25 (upd f ((4 * m) + s) (behS (mRow false (σ.1 20) r e (m + 1)) (σ.1 20) r m s (σ.1 20 (33 + 37 * r + (7 + m)))))) 26 (upd g ((4 * m) + s) ((σ.1 20 (33 + 37 * r + (7 + m)))))) sh79 dX9_means_151 rfl (by omega) rfl (by first | rfl | (simp (disch := omega) only [setR_at, setR_twice, setL_at, setL_twice, setR_2, setL_1, setR_ne, setL_ne, ne_eq, Nat.reduceEqDiff, not_false_eq_true, pk_us, pk_un]; done) | ((try simp (disch := omega) only [setR_at, setR_twice, setL_at, setL_twice, setR_2, setL_1, setR_ne, setL_ne, ne_eq, Nat.reduceEqDiff, not_false_eq_true, pk_us, pk_un]); refine Prod.ext (funext fun z => ?_) rfl; simp only [setR]; (repeat' split) <;> first | rfl | (exfalso; omega))) ?_
      refine aw_iincN (pc := 152) C 2 s [(5, .int (nI (s + 1))), (7, .int 1), (6, .int ((σ.1 20 (33 + 37 * r + (7 + m))))), (4, .int (nI m)), (0, .ref 73), (1, .int (nI r)), (2, .int (nI e)), (3, .int 0)] dX9_means_152 rfl rfl rfl (Nat.le_of_ble_eq_true rfl) rfl ?_
      refine aw_goto (pc := 155) C 40 dX9_means_155 (by decide) ?_
      refine aw_lvs C [0, 3, 4, 5, 6, 7] [(5, .int (nI (s + 1))), (4, .int (nI m)), (0, .ref 73), (1, .int (nI r)), (2, .int (nI e)), (3, .int 0)] rfl ?_
      exact aw_conv (σ' := setR (setR σ 25 (upd f ((4 * m) + s) (behS (mRow false (σ.1 20) r e (m + 1)) (σ.1 20) r m s (σ.1 20 (33 + 37 * r + (7 + m)))))) 26 (upd g ((4 * m) + s) ((σ.1 20 (33 + 37 * r + (7 + m)))))) (lv' := [(5, .int (nI (s + 1))), (4, .int (nI m)), (0, .ref 73), (1, .int (nI r)), (2, .int (nI e)), (3, .int 0)]) rfl rfl rfl (ih40 _ _ (hI.put (by omega) hvv rfl))
theorem c_X9_means_true (σ : St) (r e : Nat) (hr : r < 6) (he : e ≤ 30) : AMet Y_X9_means [.ref 73, .int (nI r), .int (nI e), .int 1] σ (MeanZ true σ r e) := by
  refine am_intro (by decide +kernel) (Nat.le_of_ble_eq_true rfl) (fun K C => ?_)
  refine aw_iconst (pc := 0) (v := 0) C dX9_means_0 rfl ?_
  refine aw_istore (pc := 1) C [(4, .int 0), (0, .ref 73), (1, .int (nI r)), (2, .int (nI e)), (3, .int 1)] dX9_means_1 (Nat.le_of_ble_eq_true rfl) rfl ?_
  refine aw_iload (pc := 3) C 0 dX9_means_3 rfl ?_
  refine aw_iconst (pc := 5) (v := 4) C dX9_means_5 rfl ?_
  refine aw_icmp_ge (pc := 6) C 27 dX9_means_6 (by decide) (fun h6 => absurd h6 (by decide)) (fun h6 => ?_)
  refine aw_aload_n (pc := 9) C 1 dX9_means_9 rfl ?_
  refine aw_getR (pc := 10) C fl_X9_22 sh73 rfl dX9_means_10 ?_
  refine aw_iconst (pc := 13) (v := 4) C dX9_means_13 rfl ?_
  refine aw_iload_n (pc := 14) C 3 dX9_means_14 rfl ?_
  refine aw_imulN (pc := 15) C 4 e rfl rfl dX9_means_15 ?_
  refine aw_iload (pc := 16) C 0 dX9_means_16 rfl ?_
  refine aw_iaddN (pc := 18) C (4 * e) 0 rfl rfl dX9_means_18 ?_
  refine aw_iconst (pc := 19) (v := 0) C dX9_means_19 rfl ?_
  refine aw_ist (pc := 20) (k := (4 * e) + 0) C ((4 * e) + 0) (setR σ 25 (upd (σ.1 25) ((4 * e) + 0) (0))) sh78 dX9_means_20 rfl (by omega) rfl rfl ?_
  refine aw_iinc (pc := 21) C 0 1 [(4, .int 1), (0, .ref 73), (1, .int (nI r)), (2, .int (nI e)), (3, .int 1)] dX9_means_21 rfl (by decide) (Nat.le_of_ble_eq_true rfl) rfl ?_
  refine aw_goto (pc := 24) C 3 dX9_means_24 (by decide) ?_
  refine aw_iload (pc := 3) C 0 dX9_means_3 rfl ?_
  refine aw_iconst (pc := 5) (v := 4) C dX9_means_5 rfl ?_
  refine aw_icmp_ge (pc := 6) C 27 dX9_means_6 (by decide) (fun h6 => absurd h6 (by decide)) (fun h6 => ?_)
  refine aw_aload_n (pc := 9) C 1 dX9_means_9 rfl ?_
  refine aw_getR (pc := 10) C fl_X9_22 sh73 rfl dX9_means_10 ?_
  refine aw_iconst (pc := 13) (v := 4) C dX9_means_13 rfl ?_
  refine aw_iload_n (pc := 14) C 3 dX9_means_14 rfl ?_
  refine aw_imulN (pc := 15) C 4 e rfl rfl dX9_means_15 ?_
  refine aw_iload (pc := 16) C 0 dX9_means_16 rfl ?_
  refine aw_iaddN (pc := 18) C (4 * e) 1 rfl rfl dX9_means_18 ?_
  refine aw_iconst (pc := 19) (v := 0) C dX9_means_19 rfl ?_
  refine aw_ist (pc := 20) (k := (4 * e) + 1) C ((4 * e) + 1) (setR σ 25 (upd (upd (σ.1 25) ((4 * e) + 0) (0)) ((4 * e) + 1) (0))) sh78 dX9_means_20 rfl (by omega) rfl (by first | rfl | (simp (disch := omega) only [setR_at, setR_twice, setL_at, setL_twice, setR_2, setL_1, setR_ne, setL_ne, ne_eq, Nat.reduceEqDiff, not_false_eq_true, pk_us, pk_un]; done) | ((try simp (disch := omega) only [setR_at, setR_twice, setL_at, setL_twice, setR_2, setL_1, setR_ne, setL_ne, ne_eq, Nat.reduceEqDiff, not_false_eq_true, pk_us, pk_un]); refine Prod.ext (funext fun z => ?_) rfl; simp only [setR]; (repeat' split) <;> first | rfl | (exfalso; omega))) ?_
  refine aw_iinc (pc := 21) C 0 2 [(4, .int 2), (0, .ref 73), (1, .int (nI r)), (2, .int (nI e)), (3, .int 1)] dX9_means_21 rfl (by decide) (Nat.le_of_ble_eq_true rfl) rfl ?_
  refine aw_goto (pc := 24) C 3 dX9_means_24 (by decide) ?_
  refine aw_iload (pc := 3) C 0 dX9_means_3 rfl ?_
  refine aw_iconst (pc := 5) (v := 4) C dX9_means_5 rfl ?_
  refine aw_icmp_ge (pc := 6) C 27 dX9_means_6 (by decide) (fun h6 => absurd h6 (by decide)) (fun h6 => ?_)
  refine aw_aload_n (pc := 9) C 1 dX9_means_9 rfl ?_
  refine aw_getR (pc := 10) C fl_X9_22 sh73 rfl dX9_means_10 ?_
  refine aw_iconst (pc := 13) (v := 4) C dX9_means_13 rfl ?_
  refine aw_iload_n (pc := 14) C 3 dX9_means_14 rfl ?_
  refine aw_imulN (pc := 15) C 4 e rfl rfl dX9_means_15 ?_
  refine aw_iload (pc := 16) C 0 dX9_means_16 rfl ?_
  refine aw_iaddN (pc := 18) C (4 * e) 2 rfl rfl dX9_means_18 ?_
  refine aw_iconst (pc := 19) (v := 0) C dX9_means_19 rfl ?_
  refine aw_ist (pc := 20) (k := (4 * e) + 2) C ((4 * e) + 2) (setR σ 25 (upd (upd (upd (σ.1 25) ((4 * e) + 0) (0)) ((4 * e) + 1) (0)) ((4 * e) + 2) (0))) sh78 dX9_means_20 rfl (by omega) rfl (by first | rfl | (simp (disch := omega) only [setR_at, setR_twice, setL_at, setL_twice, setR_2, setL_1, setR_ne, setL_ne, ne_eq, Nat.reduceEqDiff, not_false_eq_true, pk_us, pk_un]; done) | ((try simp (disch := omega) only [setR_at, setR_twice, setL_at, setL_twice, setR_2, setL_1, setR_ne, setL_ne, ne_eq, Nat.reduceEqDiff, not_false_eq_true, pk_us, pk_un]); refine Prod.ext (funext fun z => ?_) rfl; simp only [setR]; (repeat' split) <;> first | rfl | (exfalso; omega))) ?_
  refine aw_iinc (pc := 21) C 0 3 [(4, .int 3), (0, .ref 73), (1, .int (nI r)), (2, .int (nI e)), (3, .int 1)] dX9_means_21 rfl (by decide) (Nat.le_of_ble_eq_true rfl) rfl ?_
  refine aw_goto (pc := 24) C 3 dX9_means_24 (by decide) ?_
  refine aw_iload (pc := 3) C 0 dX9_means_3 rfl ?_
  refine aw_iconst (pc := 5) (v := 4) C dX9_means_5 rfl ?_
  refine aw_icmp_ge (pc := 6) C 27 dX9_means_6 (by decide) (fun h6 => absurd h6 (by decide)) (fun h6 => ?_)
  refine aw_aload_n (pc := 9) C 1 dX9_means_9 rfl ?_
  refine aw_getR (pc := 10) C fl_X9_22 sh73 rfl dX9_means_10 ?_
  refine aw_iconst (pc := 13) (v := 4) C dX9_means_13 rfl ?_
  refine aw_iload_n (pc := 14) C 3 dX9_means_14 rfl ?_
  refine aw_imulN (pc := 15) C 4 e rfl rfl dX9_means_15 ?_
  refine aw_iload (pc := 16) C 0 dX9_means_16 rfl ?_
  refine aw_iaddN (pc := 18) C (4 * e) 3 rfl rfl dX9_means_18 ?_
  refine aw_iconst (pc := 19) (v := 0) C dX9_means_19 rfl ?_
  refine aw_ist (pc := 20) (k := (4 * e) + 3) C ((4 * e) + 3) (setR σ 25 (upd (upd (upd (upd (σ.1 25) ((4 * e) + 0) (0)) ((4 * e) + 1) (0)) ((4 * e) + 2) (0)) ((4 * e) + 3) (0))) sh78 dX9_means_20 rfl (by omega) rfl (by first | rfl | (simp (disch := omega) only [setR_at, setR_twice, setL_at, setL_twice, setR_2, setL_1, setR_ne, setL_ne, ne_eq, Nat.reduceEqDiff, not_false_eq_true, pk_us, pk_un]; done) | ((try simp (disch := omega) only [setR_at, setR_twice, setL_at, setL_twice, setR_2, setL_1, setR_ne, setL_ne, ne_eq, Nat.reduceEqDiff, not_false_eq_true, pk_us, pk_un]); refine Prod.ext (funext fun z => ?_) rfl; simp only [setR]; (repeat' split) <;> first | rfl | (exfalso; omega))) ?_
  refine aw_iinc (pc := 21) C 0 4 [(4, .int 4), (0, .ref 73), (1, .int (nI r)), (2, .int (nI e)), (3, .int 1)] dX9_means_21 rfl (by decide) (Nat.le_of_ble_eq_true rfl) rfl ?_
  refine aw_goto (pc := 24) C 3 dX9_means_24 (by decide) ?_
  refine aw_iload (pc := 3) C 0 dX9_means_3 rfl ?_
  refine aw_iconst (pc := 5) (v := 4) C dX9_means_5 rfl ?_
  refine aw_icmp_ge (pc := 6) C 27 dX9_means_6 (by decide) (fun h6 => ?_) (fun h6 => absurd h6 (by decide))
  refine aw_iload_n (pc := 27) C 3 dX9_means_27 rfl ?_
  refine aw_iconst (pc := 28) (v := 1) C dX9_means_28 rfl ?_
  refine aw_isub (pc := 29) C dX9_means_29 ?_
  refine aw_istore (pc := 30) C [(4, .int ((nI (e)) - 1)), (0, .ref 73), (1, .int (nI r)), (2, .int (nI e)), (3, .int 1)] dX9_means_30 (Nat.le_of_ble_eq_true rfl) rfl ?_
  refine aw_lvs C [0, 1, 2, 3, 4] [(4, .int ((nI (e)) - 1)), (0, .ref 73), (1, .int (nI r)), (2, .int (nI e)), (3, .int 1)] rfl ?_
  refine aw_conv (σ' := setR (setR σ 25 (upd (upd (upd (upd (σ.1 25) (4 * e + 0) 0) (4 * e + 1) 0) (4 * e + 2) 0) (4 * e + 3) 0)) 26 (σ.1 26)) (lv' := [(4, .int (dI e)), (0, .ref 73), (1, .int (nI r)), (2, .int (nI e)), (3, .int 1)]) (setR_same (setR σ 25 (upd (upd (upd (upd (σ.1 25) (4 * e + 0) 0) (4 * e + 1) 0) (4 * e + 2) 0) (4 * e + 3) 0)) 26).symm (by rw [dI_sub]) rfl ?_
  refine loop_dn (P := fun m => m ≤ e → ∀ (f g : Fl) (hI : MInv true (σ.1 20) r e m f g), AW _ K _ (setR (setR σ 25 (f)) 26 (g)) 32 [(4, .int (dI m)), (0, .ref 73), (1, .int (nI r)), (2, .int (nI e)), (3, .int 1)] []) ?_ ?_ e (by omega) (upd (upd (upd (upd (σ.1 25) (4 * e + 0) 0) (4 * e + 1) 0) (4 * e + 2) 0) (4 * e + 3) 0) (σ.1 26) MInv.first
  · intro hk32 f g hI
    refine aw_iload (pc := 32) C 0 dX9_means_32 rfl ?_
    refine aw_if_lt (pc := 34) C 164 dX9_means_34 (by decide) (fun h34 => ?_) (fun h34 => absurd h34 (by decide))
    exact aw_vretP (pc := 164) C rfl dX9_means_164 ⟨f, g, hI, rfl, rfl⟩
  · intro m ih32 hk32 f g hI
    refine aw_iload (pc := 32) C 0 dX9_means_32 rfl ?_
    refine aw_if_lt (pc := 34) C 164 dX9_means_34 (by decide) (fun h34 => absurd h34 (nI_pos (by omega))) (fun h34 => ?_)
    refine aw_iconst (pc := 37) (v := 0) C dX9_means_37 rfl ?_
    refine aw_istore (pc := 38) C [(5, .int 0), (4, .int (nI m)), (0, .ref 73), (1, .int (nI r)), (2, .int (nI e)), (3, .int 1)] dX9_means_38 (Nat.le_of_ble_eq_true rfl) rfl ?_
    refine aw_lvs C [0, 1, 2, 3, 4, 5] [(5, .int 0), (4, .int (nI m)), (0, .ref 73), (1, .int (nI r)), (2, .int (nI e)), (3, .int 1)] rfl ?_
    refine aw_conv (σ' := setR (setR σ 25 (f)) 26 (g)) (lv' := [(5, .int (nI 0)), (4, .int (nI m)), (0, .ref 73), (1, .int (nI r)), (2, .int (nI e)), (3, .int 1)]) rfl rfl rfl ?_
    refine loop_up (P := fun s => ∀ (f g : Fl) (hI : MInv2 true (σ.1 20) r e m s f g), AW _ K _ (setR (setR σ 25 (f)) 26 (g)) 40 [(5, .int (nI s)), (4, .int (nI m)), (0, .ref 73), (1, .int (nI r)), (2, .int (nI e)), (3, .int 1)] []) 4 ?_ ?_ 0 (by omega) f g (MInv2.beg hI)
    · intro f g hI
      refine aw_iload (pc := 40) C 0 dX9_means_40 rfl ?_
      refine aw_iconst (pc := 42) (v := 4) C dX9_means_42 rfl ?_
      refine aw_icmp_geN (pc := 43) C 4 4 158 rfl rfl (by omega) (by omega) dX9_means_43 (by decide) (fun h43 => ?_) (fun h43 => absurd h43 (by omega))
      refine aw_iinc (pc := 158) C 1 ((nI (m)) + (-1)) [(4, .int ((nI (m)) + (-1))), (5, .int (nI 4)), (0, .ref 73), (1, .int (nI r)), (2, .int (nI e)), (3, .int 1)] dX9_means_158 rfl rfl (Nat.le_of_ble_eq_true rfl) rfl ?_
      refine aw_goto (pc := 161) C 32 dX9_means_161 (by decide) ?_
      refine aw_lvs C [0, 2, 3, 4, 5] [(4, .int ((nI (m)) + (-1))), (0, .ref 73), (1, .int (nI r)), (2, .int (nI e)), (3, .int 1)] rfl ?_
      exact aw_conv (σ' := setR (setR σ 25 (f)) 26 (g)) (lv' := [(4, .int (dI m)), (0, .ref 73), (1, .int (nI r)), (2, .int (nI e)), (3, .int 1)]) rfl (by rw [dI_dec]) rfl (ih32 (by omega) f g hI.done)
    · intro s hk40 ih40 f g hI
      refine aw_iload (pc := 40) C 0 dX9_means_40 rfl ?_
      refine aw_iconst (pc := 42) (v := 4) C dX9_means_42 rfl ?_
      refine aw_icmp_geN (pc := 43) C s 4 158 rfl rfl (by omega) (by omega) dX9_means_43 (by decide) (fun h43 => absurd h43 (by omega)) (fun h43 => ?_)
      refine aw_aload_n (pc := 46) C 2 dX9_means_46 rfl ?_
      refine aw_iload_n (pc := 47) C 3 dX9_means_47 rfl ?_
      refine aw_iload (pc := 48) C 1 dX9_means_48 rfl ?_
      refine aw_cVI (pc := 50) C (c_X9_paceAt _ r m (by omega) (by omega)) lk_X9_110 sh73 rfl dX9_means_50 (by decide) (Nat.le_of_ble_eq_true rfl) rfl rfl ?_
      refine aw_conv (σ' := setR (setR σ 25 (f)) 26 (g)) (st' := [.int ((σ.1 20 (33 + 37 * r + (7 + m))))]) (by first | rfl | (simp (disch := omega) only [setR_at, setR_twice, setL_at, setL_twice, setR_2, setL_1, setR_ne, setL_ne, ne_eq, Nat.reduceEqDiff, not_false_eq_true, pk_us, pk_un]; done) | ((try simp (disch := omega) only [setR_at, setR_twice, setL_at, setL_twice, setR_2, setL_1, setR_ne, setL_ne, ne_eq, Nat.reduceEqDiff, not_false_eq_true, pk_us, pk_un]); refine Prod.ext (funext fun z => ?_) rfl; simp only [setR]; (repeat' split) <;> first | rfl | (exfalso; omega))) rfl (by first | rfl | (simp (disch := omega) only [setR_at, setR_twice, setL_at, setL_twice, setR_2, setL_1, setR_ne, setL_ne, ne_eq, Nat.reduceEqDiff, not_false_eq_true, pk_us, pk_un]; done) | ((try simp (disch := omega) only [setR_at, setR_twice, setL_at, setL_twice, setR_2, setL_1, setR_ne, setL_ne, ne_eq, Nat.reduceEqDiff, not_false_eq_true, pk_us, pk_un]); refine Prod.ext (funext fun z => ?_) rfl; simp only [setR]; (repeat' split) <;> first | rfl | (exfalso; omega))) ?_
      refine aw_istore (pc := 53) C [(6, .int ((σ.1 20 (33 + 37 * r + (7 + m))))), (5, .int (nI s)), (4, .int (nI m)), (0, .ref 73), (1, .int (nI r)), (2, .int (nI e)), (3, .int 1)] dX9_means_53 (Nat.le_of_ble_eq_true rfl) rfl ?_
      refine aw_iconst (pc := 55) (v := 1) C dX9_means_55 rfl ?_
      refine aw_istore (pc := 56) C [(7, .int 1), (6, .int ((σ.1 20 (33 + 37 * r + (7 + m))))), (5, .int (nI s)), (4, .int (nI m)), (0, .ref 73), (1, .int (nI r)), (2, .int (nI e)), (3, .int 1)] dX9_means_56 (Nat.le_of_ble_eq_true rfl) rfl ?_
      refine aw_lvs C [0, 1, 2, 3, 4, 5, 6, 7] [(7, .int 1), (6, .int ((σ.1 20 (33 + 37 * r + (7 + m))))), (5, .int (nI s)), (4, .int (nI m)), (0, .ref 73), (1, .int (nI r)), (2, .int (nI e)), (3, .int 1)] rfl ?_
      refine aw_conv (σ' := setR (setR σ 25 (f)) 26 (g)) (lv' := [(7, .int (nI (0 + 1))), (6, .int (pcq (mRow true (σ.1 20) r e (m + 1)) (σ.1 20) r m s (fl (σ.1 20) r (7 + m)) 0)), (5, .int (nI s)), (4, .int (nI m)), (0, .ref 73), (1, .int (nI r)), (2, .int (nI e)), (3, .int 1)]) rfl rfl rfl ?_
      refine loop_up (P := fun q => AW _ K _ (setR (setR σ 25 (f)) 26 (g)) 58 [(7, .int (nI (q + 1))), (6, .int (pcq (mRow true (σ.1 20) r e (m + 1)) (σ.1 20) r m s (fl (σ.1 20) r (7 + m)) q)), (5, .int (nI s)), (4, .int (nI m)), (0, .ref 73), (1, .int (nI r)), (2, .int (nI e)), (3, .int 1)] []) 9 ?_ ?_ 0 (by omega) 
      · refine aw_iload (pc := 58) C 0 dX9_means_58 rfl ?_
        refine aw_bipush (pc := 60) (v := 9) C dX9_means_60 rfl ?_
        refine aw_icmp_gtN (pc := 62) C (9 + 1) 9 115 rfl rfl (by omega) (by omega) dX9_means_62 (by decide) (fun h62 => ?_) (fun h62 => absurd h62 (by omega))
        refine aw_aload_n (pc := 115) C 4 dX9_means_115 rfl ?_
        refine aw_getR (pc := 116) C fl_X9_22 sh73 rfl dX9_means_116 ?_
        refine aw_iconst (pc := 119) (v := 4) C dX9_means_119 rfl ?_
        refine aw_iload (pc := 120) C 3 dX9_means_120 rfl ?_
        refine aw_imulN (pc := 122) C 4 m rfl rfl dX9_means_122 ?_
        refine aw_iload (pc := 123) C 2 dX9_means_123 rfl ?_
        refine aw_iaddN (pc := 125) C (4 * m) s rfl rfl dX9_means_125 ?_
        refine aw_aload_n (pc := 126) C 4 dX9_means_126 rfl ?_
        refine aw_iload_n (pc := 127) C 5 dX9_means_127 rfl ?_
        refine aw_iload (pc := 128) C 3 dX9_means_128 rfl ?_
        refine aw_iload (pc := 130) C 2 dX9_means_130 rfl ?_
        refine aw_iload (pc := 132) C 1 dX9_means_132 rfl ?_
        refine aw_cVI (pc := 134) C (c_X9_behind _ r m s (pcq (mRow true (σ.1 20) r e (m + 1)) (σ.1 20) r m s (fl (σ.1 20) r (7 + m)) 9) (by omega) (by omega) (by omega)) lk_X9_193 sh73 rfl dX9_means_134 (by decide) (Nat.le_of_ble_eq_true rfl) rfl rfl ?_
        refine aw_conv (σ' := setR (setR σ 25 (f)) 26 (g)) (st' := [.int (behS (fun j => f (4 * (m + 1) + j)) (σ.1 20) r m s (pcq (mRow true (σ.1 20) r e (m + 1)) (σ.1 20) r m s (fl (σ.1 20) r (7 + m)) 9)), .int (nI ((4 * m) + s)), .ref 78]) (by first | rfl | (simp (disch := omega) only [setR_at, setR_twice, setL_at, setL_twice, setR_2, setL_1, setR_ne, setL_ne, ne_eq, Nat.reduceEqDiff, not_false_eq_true, pk_us, pk_un]; done) | ((try simp (disch := omega) only [setR_at, setR_twice, setL_at, setL_twice, setR_2, setL_1, setR_ne, setL_ne, ne_eq, Nat.reduceEqDiff, not_false_eq_true, pk_us, pk_un]); refine Prod.ext (funext fun z => ?_) rfl; simp only [setR]; (repeat' split) <;> first | rfl | (exfalso; omega))) rfl (by first | rfl | (simp (disch := omega) only [setR_at, setR_twice, setL_at, setL_twice, setR_2, setL_1, setR_ne, setL_ne, ne_eq, Nat.reduceEqDiff, not_false_eq_true, pk_us, pk_un]; done) | ((try simp (disch := omega) only [setR_at, setR_twice, setL_at, setL_twice, setR_2, setL_1, setR_ne, setL_ne, ne_eq, Nat.reduceEqDiff, not_false_eq_true, pk_us, pk_un]); refine Prod.ext (funext fun z => ?_) rfl; simp only [setR]; (repeat' split) <;> first | rfl | (exfalso; omega))) ?_
        refine aw_top C (behS (mRow true (σ.1 20) r e (m + 1)) (σ.1 20) r m s (pcq (mRow true (σ.1 20) r e (m + 1)) (σ.1 20) r m s (fl (σ.1 20) r (7 + m)) 9)) (behS_congr (hI.1.row (by omega)) (by omega)) ?_
        have hvv : behS (mRow true (σ.1 20) r e (m + 1)) (σ.1 20) r m s (pcq (mRow true (σ.1 20) r e (m + 1)) (σ.1 20) r m s (fl (σ.1 20) r (7 + m)) 9) = mRow true (σ.1 20) r e m s := (mRow_s (by omega)).symm
        refine aw_ist (pc := 137) (k := (4 * m) + s) C ((4 * m) + s) (setR (setR σ 25 (upd f ((4 * m) + s) (behS (mRow true (σ.1 20) r e (m + 1)) (σ.1 20) r m s (pcq (mRow true (σ.1 20) r e (m + 1)) (σ.1 20) r m s (fl (σ.1 20) r (7 + m)) 9)))) 26 (g)) sh78 dX9_means_137 rfl (by omega) rfl (by first | rfl | (simp (disch := omega) only [setR_at, setR_twice, setL_at, setL_twice, setR_2, setL_1, setR_ne, setL_ne, ne_eq, Nat.reduceEqDiff, not_false_eq_true, pk_us, pk_un]; done) | ((try simp (disch := omega) only [setR_at, setR_twice, setL_at, setL_twice, setR_2, setL_1, setR_ne, setL_ne, ne_eq, Nat.reduceEqDiff, not_false_eq_true, pk_us, pk_un]); refine Prod.ext (funext fun z => ?_) rfl; simp only [setR]; (repeat' split) <;> first | rfl | (exfalso; omega))) ?_
        refine aw_aload_n (pc := 138) C 4 dX9_means_138 rfl ?_
        refine aw_getR (pc := 139) C fl_X9_25 sh73 rfl dX9_means_139 ?_
        refine aw_iconst (pc := 142) (v := 4) C dX9_means_142 rfl ?_
        refine aw_iload (pc := 143) C 3 dX9_means_143 rfl ?_
        refine aw_imulN (pc := 145) C 4 m rfl rfl dX9_means_145 ?_
        refine aw_iload (pc := 146) C 2 dX9_means_146 rfl ?_
        refine aw_iaddN (pc := 148) C (4 * m) s rfl rfl dX9_means_148 ?_
        refine aw_iload (pc := 149) C 1 dX9_means_149 rfl ?_
        refine aw_ist (pc := 151) (k := (4 * m) + s) C ((4 * m) + s) (setR (setR σ 25 (upd f ((4 * m) + s) (behS (mRow true (σ.1 20) r e (m + 1)) (σ.1 20) r m s (pcq (mRow true (σ.1 20) r e (m + 1)) (σ.1 20) r m s (fl (σ.1 20) r (7 + m)) 9)))) 26 (upd g ((4 * m) + s) (pcq (mRow true (σ.1 20) r e (m + 1)) (σ.1 20) r m s (fl (σ.1 20) r (7 + m)) 9))) sh79 dX9_means_151 rfl (by omega) rfl (by first | rfl | (simp (disch := omega) only [setR_at, setR_twice, setL_at, setL_twice, setR_2, setL_1, setR_ne, setL_ne, ne_eq, Nat.reduceEqDiff, not_false_eq_true, pk_us, pk_un]; done) | ((try simp (disch := omega) only [setR_at, setR_twice, setL_at, setL_twice, setR_2, setL_1, setR_ne, setL_ne, ne_eq, Nat.reduceEqDiff, not_false_eq_true, pk_us, pk_un]); refine Prod.ext (funext fun z => ?_) rfl; simp only [setR]; (repeat' split) <;> first | rfl | (exfalso; omega))) ?_
        refine aw_iincN (pc := 152) C 2 s [(5, .int (nI (s + 1))), (7, .int (nI (9 + 1))), (6, .int (pcq (mRow true (σ.1 20) r e (m + 1)) (σ.1 20) r m s (fl (σ.1 20) r (7 + m)) 9)), (4, .int (nI m)), (0, .ref 73), (1, .int (nI r)), (2, .int (nI e)), (3, .int 1)] dX9_means_152 rfl rfl rfl (Nat.le_of_ble_eq_true rfl) rfl ?_
        refine aw_goto (pc := 155) C 40 dX9_means_155 (by decide) ?_
        refine aw_lvs C [0, 3, 4, 5, 6, 7] [(5, .int (nI (s + 1))), (4, .int (nI m)), (0, .ref 73), (1, .int (nI r)), (2, .int (nI e)), (3, .int 1)] rfl ?_
        exact aw_conv (σ' := setR (setR σ 25 (upd f ((4 * m) + s) (behS (mRow true (σ.1 20) r e (m + 1)) (σ.1 20) r m s (pcq (mRow true (σ.1 20) r e (m + 1)) (σ.1 20) r m s (fl (σ.1 20) r (7 + m)) 9)))) 26 (upd g ((4 * m) + s) (pcq (mRow true (σ.1 20) r e (m + 1)) (σ.1 20) r m s (fl (σ.1 20) r (7 + m)) 9))) (lv' := [(5, .int (nI (s + 1))), (4, .int (nI m)), (0, .ref 73), (1, .int (nI r)), (2, .int (nI e)), (3, .int 1)]) rfl rfl rfl (ih40 _ _ (hI.put (by omega) hvv rfl))
      · intro q hk58 ih58 
        refine aw_iload (pc := 58) C 0 dX9_means_58 rfl ?_
        refine aw_bipush (pc := 60) (v := 9) C dX9_means_60 rfl ?_
        refine aw_icmp_gtN (pc := 62) C (q + 1) 9 115 rfl rfl (by omega) (by omega) dX9_means_62 (by decide) (fun h62 => absurd h62 (by omega)) (fun h62 => ?_)
        refine aw_iload_n (pc := 65) C 7 dX9_means_65 rfl ?_
        refine aw_if_eq (pc := 66) C 115 dX9_means_66 (by decide) (fun h66 => absurd h66 (by decide)) (fun h66 => ?_)
        refine aw_iload (pc := 69) C 0 dX9_means_69 rfl ?_
        refine aw_iconst (pc := 71) (v := 1) C dX9_means_71 rfl ?_
        refine aw_icmp_eqN (pc := 72) C (q + 1) 1 100 rfl rfl (by omega) (by omega) dX9_means_72 (by decide) (fun h72 => ?_) (fun h72 => ?_)
        · refine aw_iload (pc := 100) C 0 dX9_means_100 rfl ?_
          refine aw_goto (pc := 102) C 107 dX9_means_102 (by decide) ?_
          refine aw_istore (pc := 107) C [(6, .int (nI (q + 1))), (7, .int (nI (q + 1))), (5, .int (nI s)), (4, .int (nI m)), (0, .ref 73), (1, .int (nI r)), (2, .int (nI e)), (3, .int 1)] dX9_means_107 (Nat.le_of_ble_eq_true rfl) rfl ?_
          refine aw_iincN (pc := 109) C 1 (q + 1) [(7, .int (nI (q + 1 + 1))), (6, .int (nI (q + 1))), (5, .int (nI s)), (4, .int (nI m)), (0, .ref 73), (1, .int (nI r)), (2, .int (nI e)), (3, .int 1)] dX9_means_109 rfl rfl rfl (Nat.le_of_ble_eq_true rfl) rfl ?_
          refine aw_goto (pc := 112) C 58 dX9_means_112 (by decide) ?_
          refine aw_lvs C [0, 1, 2, 3, 4, 5, 6, 7] [(7, .int (nI (q + 1 + 1))), (6, .int (nI (q + 1))), (5, .int (nI s)), (4, .int (nI m)), (0, .ref 73), (1, .int (nI r)), (2, .int (nI e)), (3, .int 1)] rfl ?_
          exact aw_conv (σ' := setR (setR σ 25 (f)) 26 (g)) (lv' := [(7, .int (nI (q + 1 + 1))), (6, .int (pcq (mRow true (σ.1 20) r e (m + 1)) (σ.1 20) r m s (fl (σ.1 20) r (7 + m)) (q + 1))), (5, .int (nI s)), (4, .int (nI m)), (0, .ref 73), (1, .int (nI r)), (2, .int (nI e)), (3, .int 1)]) rfl (by have hq : q = 0 := (by omega); subst hq; rfl) rfl ih58
        · obtain ⟨q, rfl⟩ : ∃ q', q = q' + 1 := ⟨q - 1, by omega⟩
          refine aw_aload_n (pc := 75) C 4 dX9_means_75 rfl ?_
          refine aw_iload_n (pc := 76) C 5 dX9_means_76 rfl ?_
          refine aw_iload (pc := 77) C 3 dX9_means_77 rfl ?_
          refine aw_iload (pc := 79) C 2 dX9_means_79 rfl ?_
          refine aw_iload (pc := 81) C 0 dX9_means_81 rfl ?_
          refine aw_cVI (pc := 83) C (c_X9_behind _ r m s (nI (q + 1 + 1)) (by omega) (by omega) (by omega)) lk_X9_193 sh73 rfl dX9_means_83 (by decide) (Nat.le_of_ble_eq_true rfl) rfl rfl ?_
          refine aw_conv (σ' := setR (setR σ 25 (f)) 26 (g)) (st' := [.int (behS (fun j => f (4 * (m + 1) + j)) (σ.1 20) r m s (nI (q + 1 + 1)))]) (by first | rfl | (simp (disch := omega) only [setR_at, setR_twice, setL_at, setL_twice, setR_2, setL_1, setR_ne, setL_ne, ne_eq, Nat.reduceEqDiff, not_false_eq_true, pk_us, pk_un]; done) | ((try simp (disch := omega) only [setR_at, setR_twice, setL_at, setL_twice, setR_2, setL_1, setR_ne, setL_ne, ne_eq, Nat.reduceEqDiff, not_false_eq_true, pk_us, pk_un]); refine Prod.ext (funext fun z => ?_) rfl; simp only [setR]; (repeat' split) <;> first | rfl | (exfalso; omega))) rfl (by first | rfl | (simp (disch := omega) only [setR_at, setR_twice, setL_at, setL_twice, setR_2, setL_1, setR_ne, setL_ne, ne_eq, Nat.reduceEqDiff, not_false_eq_true, pk_us, pk_un]; done) | ((try simp (disch := omega) only [setR_at, setR_twice, setL_at, setL_twice, setR_2, setL_1, setR_ne, setL_ne, ne_eq, Nat.reduceEqDiff, not_false_eq_true, pk_us, pk_un]); refine Prod.ext (funext fun z => ?_) rfl; simp only [setR]; (repeat' split) <;> first | rfl | (exfalso; omega))) ?_
          refine aw_top C (behS (mRow true (σ.1 20) r e (m + 1)) (σ.1 20) r m s (nI (q + 1 + 1))) (behS_congr (hI.1.row (by omega)) (by omega)) ?_
          refine aw_aload_n (pc := 86) C 4 dX9_means_86 rfl ?_
          refine aw_iload_n (pc := 87) C 5 dX9_means_87 rfl ?_
          refine aw_iload (pc := 88) C 3 dX9_means_88 rfl ?_
          refine aw_iload (pc := 90) C 2 dX9_means_90 rfl ?_
          refine aw_iload (pc := 92) C 1 dX9_means_92 rfl ?_
          refine aw_cVI (pc := 94) C (c_X9_behind _ r m s (pcq (mRow true (σ.1 20) r e (m + 1)) (σ.1 20) r m s (fl (σ.1 20) r (7 + m)) (q + 1)) (by omega) (by omega) (by omega)) lk_X9_193 sh73 rfl dX9_means_94 (by decide) (Nat.le_of_ble_eq_true rfl) rfl rfl ?_
          refine aw_conv (σ' := setR (setR σ 25 (f)) 26 (g)) (st' := [.int (behS (fun j => f (4 * (m + 1) + j)) (σ.1 20) r m s (pcq (mRow true (σ.1 20) r e (m + 1)) (σ.1 20) r m s (fl (σ.1 20) r (7 + m)) (q + 1))), .int (behS (mRow true (σ.1 20) r e (m + 1)) (σ.1 20) r m s (nI (q + 1 + 1)))]) (by first | rfl | (simp (disch := omega) only [setR_at, setR_twice, setL_at, setL_twice, setR_2, setL_1, setR_ne, setL_ne, ne_eq, Nat.reduceEqDiff, not_false_eq_true, pk_us, pk_un]; done) | ((try simp (disch := omega) only [setR_at, setR_twice, setL_at, setL_twice, setR_2, setL_1, setR_ne, setL_ne, ne_eq, Nat.reduceEqDiff, not_false_eq_true, pk_us, pk_un]); refine Prod.ext (funext fun z => ?_) rfl; simp only [setR]; (repeat' split) <;> first | rfl | (exfalso; omega))) rfl (by first | rfl | (simp (disch := omega) only [setR_at, setR_twice, setL_at, setL_twice, setR_2, setL_1, setR_ne, setL_ne, ne_eq, Nat.reduceEqDiff, not_false_eq_true, pk_us, pk_un]; done) | ((try simp (disch := omega) only [setR_at, setR_twice, setL_at, setL_twice, setR_2, setL_1, setR_ne, setL_ne, ne_eq, Nat.reduceEqDiff, not_false_eq_true, pk_us, pk_un]); refine Prod.ext (funext fun z => ?_) rfl; simp only [setR]; (repeat' split) <;> first | rfl | (exfalso; omega))) ?_
          refine aw_top C (behS (mRow true (σ.1 20) r e (m + 1)) (σ.1 20) r m s (pcq (mRow true (σ.1 20) r e (m + 1)) (σ.1 20) r m s (fl (σ.1 20) r (7 + m)) (q + 1))) (behS_congr (hI.1.row (by omega)) (by omega)) ?_
          refine aw_icmp_ge (pc := 97) C 105 dX9_means_97 (by decide) (fun h97 => ?_) (fun h97 => ?_)
          · refine aw_iload (pc := 105) C 1 dX9_means_105 rfl ?_
            refine aw_istore (pc := 107) C [(6, .int (pcq (mRow true (σ.1 20) r e (m + 1)) (σ.1 20) r m s (fl (σ.1 20) r (7 + m)) (q + 1))), (7, .int (nI (q + 1 + 1))), (5, .int (nI s)), (4, .int (nI m)), (0, .ref 73), (1, .int (nI r)), (2, .int (nI e)), (3, .int 1)] dX9_means_107 (Nat.le_of_ble_eq_true rfl) rfl ?_
            refine aw_iincN (pc := 109) C 1 (q + 1 + 1) [(7, .int (nI (q + 1 + 1 + 1))), (6, .int (pcq (mRow true (σ.1 20) r e (m + 1)) (σ.1 20) r m s (fl (σ.1 20) r (7 + m)) (q + 1))), (5, .int (nI s)), (4, .int (nI m)), (0, .ref 73), (1, .int (nI r)), (2, .int (nI e)), (3, .int 1)] dX9_means_109 rfl rfl rfl (Nat.le_of_ble_eq_true rfl) rfl ?_
            refine aw_goto (pc := 112) C 58 dX9_means_112 (by decide) ?_
            refine aw_lvs C [0, 1, 2, 3, 4, 5, 6, 7] [(7, .int (nI (q + 1 + 1 + 1))), (6, .int (pcq (mRow true (σ.1 20) r e (m + 1)) (σ.1 20) r m s (fl (σ.1 20) r (7 + m)) (q + 1))), (5, .int (nI s)), (4, .int (nI m)), (0, .ref 73), (1, .int (nI r)), (2, .int (nI e)), (3, .int 1)] rfl ?_
            exact aw_conv (σ' := setR (setR σ 25 (f)) 26 (g)) (lv' := [(7, .int (nI (q + 1 + 1 + 1))), (6, .int (pcq (mRow true (σ.1 20) r e (m + 1)) (σ.1 20) r m s (fl (σ.1 20) r (7 + m)) (q + 1 + 1))), (5, .int (nI s)), (4, .int (nI m)), (0, .ref 73), (1, .int (nI r)), (2, .int (nI e)), (3, .int 1)]) rfl (by rw [pcq_more (Int32.not_lt.mpr h97)]) rfl ih58
          · refine aw_iload (pc := 100) C 0 dX9_means_100 rfl ?_
            refine aw_goto (pc := 102) C 107 dX9_means_102 (by decide) ?_
            refine aw_istore (pc := 107) C [(6, .int (nI (q + 1 + 1))), (7, .int (nI (q + 1 + 1))), (5, .int (nI s)), (4, .int (nI m)), (0, .ref 73), (1, .int (nI r)), (2, .int (nI e)), (3, .int 1)] dX9_means_107 (Nat.le_of_ble_eq_true rfl) rfl ?_
            refine aw_iincN (pc := 109) C 1 (q + 1 + 1) [(7, .int (nI (q + 1 + 1 + 1))), (6, .int (nI (q + 1 + 1))), (5, .int (nI s)), (4, .int (nI m)), (0, .ref 73), (1, .int (nI r)), (2, .int (nI e)), (3, .int 1)] dX9_means_109 rfl rfl rfl (Nat.le_of_ble_eq_true rfl) rfl ?_
            refine aw_goto (pc := 112) C 58 dX9_means_112 (by decide) ?_
            refine aw_lvs C [0, 1, 2, 3, 4, 5, 6, 7] [(7, .int (nI (q + 1 + 1 + 1))), (6, .int (nI (q + 1 + 1))), (5, .int (nI s)), (4, .int (nI m)), (0, .ref 73), (1, .int (nI r)), (2, .int (nI e)), (3, .int 1)] rfl ?_
            exact aw_conv (σ' := setR (setR σ 25 (f)) 26 (g)) (lv' := [(7, .int (nI (q + 1 + 1 + 1))), (6, .int (pcq (mRow true (σ.1 20) r e (m + 1)) (σ.1 20) r m s (fl (σ.1 20) r (7 + m)) (q + 1 + 1))), (5, .int (nI s)), (4, .int (nI m)), (0, .ref 73), (1, .int (nI r)), (2, .int (nI e)), (3, .int 1)]) rfl (by rw [pcq_less (Int32.not_le.mp h97)]) rfl ih58
