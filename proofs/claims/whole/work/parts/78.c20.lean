/-! the class: train, later, as, counts, images -/
theorem c_X8_train (σ : St) (n : Nat) (hok : Ok n (σ.1 0)) (r : Int32) : AMet Y_X8_train [.ref 0, .int r] σ (PC σ (sTrain (σ.1 0) n r)) := by
  refine am_intro (by decide +kernel) (Nat.le_of_ble_eq_true rfl) (fun K C => ?_)
  have hz := hok.1
  have hn := hok.2.1
  refine aw_aload_n (pc := 0) C 0 dX8_train_0 rfl ?_
  refine aw_iload_n (pc := 1) C 1 dX8_train_1 rfl ?_
  refine aw_cVI (pc := 2) C (c_X8_isRunner _ n hn hz r ) lk_X8_96 sh0 rfl dX8_train_2 (by decide) (Nat.le_of_ble_eq_true rfl) rfl rfl ?_
  refine aw_if_neB (pc := 5) C 14 dX8_train_5 (by decide) (fun h5 => ?_) (fun h5 => ?_)
  · obtain ⟨rr, rfl, hrr⟩ := rgR h5 hz
    refine aw_aload_n (pc := 14) C 0 dX8_train_14 rfl ?_
    refine aw_getR (pc := 15) C fl_X8_29 sh0 rfl dX8_train_15 ?_
    refine aw_aload_n (pc := 18) C 0 dX8_train_18 rfl ?_
    refine aw_getR (pc := 19) C fl_X8_16 sh0 rfl dX8_train_19 ?_
    refine aw_iload_n (pc := 22) C 1 dX8_train_22 rfl ?_
    refine aw_iconst (pc := 23) (v := 0) C dX8_train_23 rfl ?_
    refine aw_iconst (pc := 24) (v := 0) C dX8_train_24 rfl ?_
    refine aw_callV (pc := 25) C (c_X1_atBest _  0 (by decide : 0 < 3) n hok rr 0 0 (by omega) (by omega) (by omega)) lk_X8_184 sh2 rfl (by decide) rfl (Nat.le_of_ble_eq_true rfl) dX8_train_25 rfl (fun w s hq => ?_)
    obtain ⟨f25, g25, h25x, hC25, rfl, rfl⟩ := hq
    refine aw_conv (σ' := setR (setR (setR σ 5 (f25)) 6 (g25)) 7 (h25x)) (st' := [.int (mRow true (σ.1 0) rr 30 0 0)]) (by first | with_reducible rfl | (simp (disch := omega) only [setR_at, setR_twice, setL_at, setL_twice, setR_2, setL_1, setR_ne, setL_ne, ne_eq, Nat.reduceEqDiff, not_false_eq_true, pk_us, pk_un]; done) | (simp (disch := omega) only [setR_at, setR_twice, setL_at, setL_twice, setR_2, setL_1, setR_ne, setL_ne, ne_eq, Nat.reduceEqDiff, not_false_eq_true, pk_us, pk_un, Option.toList_some, Option.toList_none, List.cons_append, List.nil_append]; done) | ((try simp (disch := omega) only [setR_at, setR_twice, setL_at, setL_twice, setR_2, setL_1, setR_ne, setL_ne, ne_eq, Nat.reduceEqDiff, not_false_eq_true, pk_us, pk_un]); refine Prod.ext (funext fun z => ?_) rfl; simp only [setR]; (repeat' split) <;> first | with_reducible rfl | (exfalso; omega)) | rfl) rfl (by first | with_reducible rfl | (simp (disch := omega) only [setR_at, setR_twice, setL_at, setL_twice, setR_2, setL_1, setR_ne, setL_ne, ne_eq, Nat.reduceEqDiff, not_false_eq_true, pk_us, pk_un]; done) | (simp (disch := omega) only [setR_at, setR_twice, setL_at, setL_twice, setR_2, setL_1, setR_ne, setL_ne, ne_eq, Nat.reduceEqDiff, not_false_eq_true, pk_us, pk_un, Option.toList_some, Option.toList_none, List.cons_append, List.nil_append]; done) | ((try simp (disch := omega) only [setR_at, setR_twice, setL_at, setL_twice, setR_2, setL_1, setR_ne, setL_ne, ne_eq, Nat.reduceEqDiff, not_false_eq_true, pk_us, pk_un]); refine Prod.ext (funext fun z => ?_) rfl; simp only [setR]; (repeat' split) <;> first | with_reducible rfl | (exfalso; omega)) | rfl) ?_
    refine aw_pop (pc := 28) C dX8_train_28 rfl ?_
    refine aw_aload_n (pc := 29) C 0 dX8_train_29 rfl ?_
    refine aw_getR (pc := 30) C fl_X8_16 sh0 rfl dX8_train_30 ?_
    refine aw_getR (pc := 33) C fl_X8_99 (shM (by decide : 0 < 3)) rfl dX8_train_33 ?_
    refine aw_iload_n (pc := 36) C 1 dX8_train_36 rfl ?_
    refine aw_aald (pc := 37) (k := rr) C (shRs (by decide : 0 < 3)) dX8_train_37 rfl (by omega) ?_
    refine aw_getR (pc := 38) C fl_X8_118 (shR (by decide : 0 < 3) (by omega)) rfl dX8_train_38 ?_
    refine aw_astore_n (pc := 41) C [(2, .ref (30 + 2 * rr)), (0, .ref 0), (1, .int (nI rr))] dX8_train_41 (Nat.le_of_ble_eq_true rfl) rfl ?_
    refine aw_iconst (pc := 42) (v := 0) C dX8_train_42 rfl ?_
    refine aw_istore_n (pc := 43) C [(3, .int 0), (2, .ref (30 + 2 * rr)), (0, .ref 0), (1, .int (nI rr))] dX8_train_43 (Nat.le_of_ble_eq_true rfl) rfl ?_
    refine aw_iconst (pc := 44) (v := 0) C dX8_train_44 rfl ?_
    refine aw_istore (pc := 45) C [(4, .int 0), (3, .int 0), (2, .ref (30 + 2 * rr)), (0, .ref 0), (1, .int (nI rr))] dX8_train_45 (Nat.le_of_ble_eq_true rfl) rfl ?_
    refine aw_lvs C [0, 1, 2, 3, 4] [(4, .int 0), (3, .int 0), (2, .ref (30 + 2 * rr)), (0, .ref 0), (1, .int (nI rr))] rfl ?_
    refine aw_conv (σ' := setR (setR (setR (setR σ 5 (f25)) 6 (g25)) 7 (h25x)) 0 (trainM (σ.1 0) rr 0)) (lv' := [(4, .int (nI 0)), (3, .int (trainC (σ.1 0) rr 0)), (2, .ref (30 + 2 * rr)), (0, .ref 0), (1, .int (nI rr))]) (setR_same (setR (setR (setR σ 5 f25) 6 g25) 7 h25x) 0).symm rfl rfl ?_
    refine loop_up (P := fun k => AW _ K _ (setR (setR (setR (setR σ 5 (f25)) 6 (g25)) 7 (h25x)) 0 (trainM (σ.1 0) rr k)) 47 [(4, .int (nI k)), (3, .int (trainC (σ.1 0) rr k)), (2, .ref (30 + 2 * rr)), (0, .ref 0), (1, .int (nI rr))] []) 30 ?_ ?_ 0 (by omega) 
    · refine aw_iload (pc := 47) C 0 dX8_train_47 rfl ?_
      refine aw_bipush (pc := 49) (v := 30) C dX8_train_49 rfl ?_
      refine aw_icmp_geN (pc := 51) C 30 30 95 rfl rfl (by omega) (by omega) dX8_train_51 (by decide) (fun h51 => ?_) (fun h51 => absurd h51 (by omega))
      refine aw_iload_n (pc := 95) C 1 dX8_train_95 rfl ?_
      exact aw_iretP (pc := 96) C rfl dX8_train_96 (pc_scr (an' := .inr (trainC (σ.1 0) rr 30, trainM (σ.1 0) rr 30)) (by rw [sTrain, if_pos h5, cl_nI (show rr < 2147483648 by omega)]) rfl (fun r hr => by simp only [anS, setR]; (repeat' split) <;> first | rfl | (subst_vars; first | rfl | exact absurd (by decide) hr)))
    · intro k hk47 ih47 
      refine aw_iload (pc := 47) C 0 dX8_train_47 rfl ?_
      refine aw_bipush (pc := 49) (v := 30) C dX8_train_49 rfl ?_
      refine aw_icmp_geN (pc := 51) C k 30 95 rfl rfl (by omega) (by omega) dX8_train_51 (by decide) (fun h51 => absurd h51 (by omega)) (fun h51 => ?_)
      refine aw_aload_n (pc := 54) C 3 dX8_train_54 rfl ?_
      refine aw_getR (pc := 55) C fl_X8_29 sh0 rfl dX8_train_55 ?_
      refine aw_iload (pc := 58) C 0 dX8_train_58 rfl ?_
      refine aw_iconst (pc := 60) (v := 0) C dX8_train_60 rfl ?_
      refine aw_cVI (pc := 61) C (c_X1_chosenPace _ k 0 (by omega) (by omega)) lk_X8_188 sh2 rfl dX8_train_61 (by decide) (Nat.le_of_ble_eq_true rfl) rfl rfl ?_
      refine aw_conv (σ' := setR (setR (setR (setR σ 5 (f25)) 6 (g25)) 7 (h25x)) 0 (trainM (σ.1 0) rr k)) (st' := [.int (h25x (k * 4 + 0))]) (by first | with_reducible rfl | (simp (disch := omega) only [setR_at, setR_twice, setL_at, setL_twice, setR_2, setL_1, setR_ne, setL_ne, ne_eq, Nat.reduceEqDiff, not_false_eq_true, pk_us, pk_un]; done) | (simp (disch := omega) only [setR_at, setR_twice, setL_at, setL_twice, setR_2, setL_1, setR_ne, setL_ne, ne_eq, Nat.reduceEqDiff, not_false_eq_true, pk_us, pk_un, Option.toList_some, Option.toList_none, List.cons_append, List.nil_append]; done) | ((try simp (disch := omega) only [setR_at, setR_twice, setL_at, setL_twice, setR_2, setL_1, setR_ne, setL_ne, ne_eq, Nat.reduceEqDiff, not_false_eq_true, pk_us, pk_un]); refine Prod.ext (funext fun z => ?_) rfl; simp only [setR]; (repeat' split) <;> first | with_reducible rfl | (exfalso; omega)) | rfl) rfl (by first | with_reducible rfl | (simp (disch := omega) only [setR_at, setR_twice, setL_at, setL_twice, setR_2, setL_1, setR_ne, setL_ne, ne_eq, Nat.reduceEqDiff, not_false_eq_true, pk_us, pk_un]; done) | (simp (disch := omega) only [setR_at, setR_twice, setL_at, setL_twice, setR_2, setL_1, setR_ne, setL_ne, ne_eq, Nat.reduceEqDiff, not_false_eq_true, pk_us, pk_un, Option.toList_some, Option.toList_none, List.cons_append, List.nil_append]; done) | ((try simp (disch := omega) only [setR_at, setR_twice, setL_at, setL_twice, setR_2, setL_1, setR_ne, setL_ne, ne_eq, Nat.reduceEqDiff, not_false_eq_true, pk_us, pk_un]); refine Prod.ext (funext fun z => ?_) rfl; simp only [setR]; (repeat' split) <;> first | with_reducible rfl | (exfalso; omega)) | rfl) ?_
      refine aw_top C (mPc true (σ.1 0) rr 30 k 0) (by rw [show k * 4 + 0 = 4 * k + 0 by omega]; exact hC25 k (by omega) (by omega) 0 (by omega)) ?_
      refine aw_istore (pc := 64) C [(5, .int (mPc true (σ.1 0) rr 30 k 0)), (4, .int (nI k)), (3, .int (trainC (σ.1 0) rr k)), (2, .ref (30 + 2 * rr)), (0, .ref 0), (1, .int (nI rr))] dX8_train_64 (Nat.le_of_ble_eq_true rfl) rfl ?_
      refine aw_iload_n (pc := 66) C 2 dX8_train_66 rfl ?_
      refine aw_aload_n (pc := 67) C 3 dX8_train_67 rfl ?_
      refine aw_iload (pc := 68) C 1 dX8_train_68 rfl ?_
      refine aw_ild (pc := 70) (k := k) C (33 + 37 * rr + (7 + k)) ((trainM (σ.1 0) rr k) (33 + 37 * rr + (7 + k))) (shP (by decide : 0 < 3) (by omega)) dX8_train_70 rfl (by omega) (by omega) (by first | with_reducible rfl | (simp (disch := omega) only [setR_at, setR_twice, setL_at, setL_twice, setR_2, setL_1, setR_ne, setL_ne, ne_eq, Nat.reduceEqDiff, not_false_eq_true, pk_us, pk_un]; done) | (simp (disch := omega) only [setR_at, setR_twice, setL_at, setL_twice, setR_2, setL_1, setR_ne, setL_ne, ne_eq, Nat.reduceEqDiff, not_false_eq_true, pk_us, pk_un, Option.toList_some, Option.toList_none, List.cons_append, List.nil_append]; done) | ((try simp (disch := omega) only [setR_at, setR_twice, setL_at, setL_twice, setR_2, setL_1, setR_ne, setL_ne, ne_eq, Nat.reduceEqDiff, not_false_eq_true, pk_us, pk_un]); refine Prod.ext (funext fun z => ?_) rfl; simp only [setR]; (repeat' split) <;> first | with_reducible rfl | (exfalso; omega)) | rfl) ?_
      refine aw_top C (σ.1 0 (33 + 37 * rr + 7 + k)) ((trainM_off (by omega)).trans (by rw [show 33 + 37 * rr + (7 + k) = 33 + 37 * rr + 7 + k by omega])) ?_
      refine aw_iload (pc := 71) C 0 dX8_train_71 rfl ?_
      refine aw_icmp_ne (pc := 73) C 80 dX8_train_73 (by decide) (fun h73 => ?_) (fun h73 => ?_)
      · refine aw_iconst (pc := 80) (v := 1) C dX8_train_80 rfl ?_
        refine aw_iadd (pc := 81) C dX8_train_81 ?_
        refine aw_istore_n (pc := 82) C [(3, .int ((trainC (σ.1 0) rr k) + 1)), (5, .int (mPc true (σ.1 0) rr 30 k 0)), (4, .int (nI k)), (2, .ref (30 + 2 * rr)), (0, .ref 0), (1, .int (nI rr))] dX8_train_82 (Nat.le_of_ble_eq_true rfl) rfl ?_
        refine aw_aload_n (pc := 83) C 3 dX8_train_83 rfl ?_
        refine aw_iload (pc := 84) C 2 dX8_train_84 rfl ?_
        refine aw_iload (pc := 86) C 1 dX8_train_86 rfl ?_
        refine aw_ist (pc := 88) (k := k) C (33 + 37 * rr + (7 + k)) (setR (setR (setR (setR σ 5 (f25)) 6 (g25)) 7 (h25x)) 0 (upd (trainM (σ.1 0) rr k) (33 + 37 * rr + (7 + k)) (mPc true (σ.1 0) rr 30 k 0))) (shP (by decide : 0 < 3) (by omega)) dX8_train_88 rfl (by omega) (by omega) (by first | with_reducible rfl | (simp (disch := omega) only [setR_at, setR_twice, setL_at, setL_twice, setR_2, setL_1, setR_ne, setL_ne, ne_eq, Nat.reduceEqDiff, not_false_eq_true, pk_us, pk_un]; done) | (simp (disch := omega) only [setR_at, setR_twice, setL_at, setL_twice, setR_2, setL_1, setR_ne, setL_ne, ne_eq, Nat.reduceEqDiff, not_false_eq_true, pk_us, pk_un, Option.toList_some, Option.toList_none, List.cons_append, List.nil_append]; done) | ((try simp (disch := omega) only [setR_at, setR_twice, setL_at, setL_twice, setR_2, setL_1, setR_ne, setL_ne, ne_eq, Nat.reduceEqDiff, not_false_eq_true, pk_us, pk_un]); refine Prod.ext (funext fun z => ?_) rfl; simp only [setR]; (repeat' split) <;> first | with_reducible rfl | (exfalso; omega)) | rfl) ?_
        refine aw_iincN (pc := 89) C 2 k [(4, .int (nI (k + 1))), (3, .int ((trainC (σ.1 0) rr k) + 1)), (5, .int (mPc true (σ.1 0) rr 30 k 0)), (2, .ref (30 + 2 * rr)), (0, .ref 0), (1, .int (nI rr))] dX8_train_89 rfl rfl rfl (Nat.le_of_ble_eq_true rfl) rfl ?_
        refine aw_goto (pc := 92) C 47 dX8_train_92 (by decide) ?_
        refine aw_lvs C [0, 1, 3, 4, 5] [(4, .int (nI (k + 1))), (3, .int ((trainC (σ.1 0) rr k) + 1)), (2, .ref (30 + 2 * rr)), (0, .ref 0), (1, .int (nI rr))] rfl ?_
        exact aw_conv (σ' := setR (setR (setR (setR σ 5 (f25)) 6 (g25)) 7 (h25x)) 0 (trainM (σ.1 0) rr (k + 1))) (lv' := [(4, .int (nI (k + 1))), (3, .int (trainC (σ.1 0) rr (k + 1))), (2, .ref (30 + 2 * rr)), (0, .ref 0), (1, .int (nI rr))]) (by rw [trainM, show 33 + 37 * rr + 7 + k = 33 + 37 * rr + (7 + k) by omega]) (by rw [trainC, if_neg h73]) rfl ih47
      · refine aw_iconst (pc := 76) (v := 0) C dX8_train_76 rfl ?_
        refine aw_goto (pc := 77) C 81 dX8_train_77 (by decide) ?_
        refine aw_iadd (pc := 81) C dX8_train_81 ?_
        refine aw_istore_n (pc := 82) C [(3, .int ((trainC (σ.1 0) rr k) + 0)), (5, .int (mPc true (σ.1 0) rr 30 k 0)), (4, .int (nI k)), (2, .ref (30 + 2 * rr)), (0, .ref 0), (1, .int (nI rr))] dX8_train_82 (Nat.le_of_ble_eq_true rfl) rfl ?_
        refine aw_aload_n (pc := 83) C 3 dX8_train_83 rfl ?_
        refine aw_iload (pc := 84) C 2 dX8_train_84 rfl ?_
        refine aw_iload (pc := 86) C 1 dX8_train_86 rfl ?_
        refine aw_ist (pc := 88) (k := k) C (33 + 37 * rr + (7 + k)) (setR (setR (setR (setR σ 5 (f25)) 6 (g25)) 7 (h25x)) 0 (upd (trainM (σ.1 0) rr k) (33 + 37 * rr + (7 + k)) (mPc true (σ.1 0) rr 30 k 0))) (shP (by decide : 0 < 3) (by omega)) dX8_train_88 rfl (by omega) (by omega) (by first | with_reducible rfl | (simp (disch := omega) only [setR_at, setR_twice, setL_at, setL_twice, setR_2, setL_1, setR_ne, setL_ne, ne_eq, Nat.reduceEqDiff, not_false_eq_true, pk_us, pk_un]; done) | (simp (disch := omega) only [setR_at, setR_twice, setL_at, setL_twice, setR_2, setL_1, setR_ne, setL_ne, ne_eq, Nat.reduceEqDiff, not_false_eq_true, pk_us, pk_un, Option.toList_some, Option.toList_none, List.cons_append, List.nil_append]; done) | ((try simp (disch := omega) only [setR_at, setR_twice, setL_at, setL_twice, setR_2, setL_1, setR_ne, setL_ne, ne_eq, Nat.reduceEqDiff, not_false_eq_true, pk_us, pk_un]); refine Prod.ext (funext fun z => ?_) rfl; simp only [setR]; (repeat' split) <;> first | with_reducible rfl | (exfalso; omega)) | rfl) ?_
        refine aw_iincN (pc := 89) C 2 k [(4, .int (nI (k + 1))), (3, .int ((trainC (σ.1 0) rr k) + 0)), (5, .int (mPc true (σ.1 0) rr 30 k 0)), (2, .ref (30 + 2 * rr)), (0, .ref 0), (1, .int (nI rr))] dX8_train_89 rfl rfl rfl (Nat.le_of_ble_eq_true rfl) rfl ?_
        refine aw_goto (pc := 92) C 47 dX8_train_92 (by decide) ?_
        refine aw_lvs C [0, 1, 3, 4, 5] [(4, .int (nI (k + 1))), (3, .int ((trainC (σ.1 0) rr k) + 0)), (2, .ref (30 + 2 * rr)), (0, .ref 0), (1, .int (nI rr))] rfl ?_
        exact aw_conv (σ' := setR (setR (setR (setR σ 5 (f25)) 6 (g25)) 7 (h25x)) 0 (trainM (σ.1 0) rr (k + 1))) (lv' := [(4, .int (nI (k + 1))), (3, .int (trainC (σ.1 0) rr (k + 1))), (2, .ref (30 + 2 * rr)), (0, .ref 0), (1, .int (nI rr))]) (by rw [trainM, show 33 + 37 * rr + 7 + k = 33 + 37 * rr + (7 + k) by omega]) (by rw [trainC, if_pos h73]) rfl ih47
  · refine aw_aload_n (pc := 8) C 0 dX8_train_8 rfl ?_
    refine aw_iconst (pc := 9) (v := 0) C dX8_train_9 rfl ?_
    refine aw_cVI (pc := 10) C (c_X8_found _ 0 (by omega)) lk_X8_78 sh0 rfl dX8_train_10 (by decide) (Nat.le_of_ble_eq_true rfl) rfl rfl ?_
    exact aw_iretP (pc := 13) C rfl dX8_train_13 (pc_of (an' := .inl 0) (by rw [sTrain, if_neg (fun z => h5 (z))]) rfl rfl)
theorem c_X8_later (σ : St) (n : Nat) (hok : Ok n (σ.1 0)) (r : Int32) : AMet Y_X8_later [.ref 0, .int r] σ (PC σ (sLater (σ.1 0) n r)) := by
  refine am_intro (by decide +kernel) (Nat.le_of_ble_eq_true rfl) (fun K C => ?_)
  have hz := hok.1
  have hn := hok.2.1
  refine aw_aload_n (pc := 0) C 0 dX8_later_0 rfl ?_
  refine aw_iload_n (pc := 1) C 1 dX8_later_1 rfl ?_
  refine aw_cVI (pc := 2) C (c_X8_isRunner _ n hn hz r ) lk_X8_96 sh0 rfl dX8_later_2 (by decide) (Nat.le_of_ble_eq_true rfl) rfl rfl ?_
  refine aw_if_neB (pc := 5) C 14 dX8_later_5 (by decide) (fun h5 => ?_) (fun h5 => ?_)
  · obtain ⟨rr, rfl, hrr⟩ := rgR h5 hz
    refine aw_iconst (pc := 14) (v := 0) C dX8_later_14 rfl ?_
    refine aw_istore_n (pc := 15) C [(2, .int 0), (0, .ref 0), (1, .int (nI rr))] dX8_later_15 (Nat.le_of_ble_eq_true rfl) rfl ?_
    refine aw_iconst (pc := 16) (v := 0) C dX8_later_16 rfl ?_
    refine aw_istore_n (pc := 17) C [(3, .int 0), (2, .int 0), (0, .ref 0), (1, .int (nI rr))] dX8_later_17 (Nat.le_of_ble_eq_true rfl) rfl ?_
    refine aw_lvs C [0, 1, 2, 3] [(3, .int 0), (2, .int 0), (0, .ref 0), (1, .int (nI rr))] rfl ?_
    refine aw_conv (σ' := setR (setR σ 5 (σ.1 5)) 6 (σ.1 6)) (lv' := [(3, .int (nI 0)), (2, .int (latS (σ.1 0) 0)), (0, .ref 0), (1, .int (nI rr))]) (by rw [setR_same, setR_same]) rfl rfl ?_
    refine loop_up (P := fun k => ∀ (f g : Fl), AW _ K _ (setR (setR σ 5 (f)) 6 (g)) 18 [(3, .int (nI k)), (2, .int (latS (σ.1 0) k)), (0, .ref 0), (1, .int (nI rr))] []) n ?_ ?_ 0 (by omega) (σ.1 5) (σ.1 6)
    · intro f g
      refine aw_iload_n (pc := 18) C 0 dX8_later_18 rfl ?_
      refine aw_aload_n (pc := 19) C 2 dX8_later_19 rfl ?_
      refine aw_getR (pc := 20) C fl_X8_16 sh0 rfl dX8_later_20 ?_
      refine aw_gld (pc := 23) C (σ.1 0 2) fl_X8_89 (shM (by decide : 0 < 3)) rfl dX8_later_23 (by first | with_reducible rfl | (simp (disch := omega) only [setR_at, setR_twice, setL_at, setL_twice, setR_2, setL_1, setR_ne, setL_ne, ne_eq, Nat.reduceEqDiff, not_false_eq_true, pk_us, pk_un]; done) | (simp (disch := omega) only [setR_at, setR_twice, setL_at, setL_twice, setR_2, setL_1, setR_ne, setL_ne, ne_eq, Nat.reduceEqDiff, not_false_eq_true, pk_us, pk_un, Option.toList_some, Option.toList_none, List.cons_append, List.nil_append]; done) | ((try simp (disch := omega) only [setR_at, setR_twice, setL_at, setL_twice, setR_2, setL_1, setR_ne, setL_ne, ne_eq, Nat.reduceEqDiff, not_false_eq_true, pk_us, pk_un]); refine Prod.ext (funext fun z => ?_) rfl; simp only [setR]; (repeat' split) <;> first | with_reducible rfl | (exfalso; omega)) | rfl) ?_
      refine aw_top C (nI (n)) hn ?_
      refine aw_icmp_geN (pc := 26) C n n 49 rfl rfl (by omega) (by omega) dX8_later_26 (by decide) (fun h26 => ?_) (fun h26 => absurd h26 (by omega))
      refine aw_iload_n (pc := 49) C 1 dX8_later_49 rfl ?_
      refine aw_aload_n (pc := 50) C 2 dX8_later_50 rfl ?_
      refine aw_aload_n (pc := 51) C 2 dX8_later_51 rfl ?_
      refine aw_getR (pc := 52) C fl_X8_16 sh0 rfl dX8_later_52 ?_
      refine aw_iload_n (pc := 55) C 3 dX8_later_55 rfl ?_
      refine aw_callV (pc := 56) C (c_X8_wholeMean _ 0 (by decide : 0 < 3) n (by simp (disch := omega) only [setR_at, setR_twice, setL_at, setL_twice, setR_2, setL_1, setR_ne, setL_ne, ne_eq, Nat.reduceEqDiff, not_false_eq_true, pk_us, pk_un]; exact hok) rr (by omega)) lk_X8_199 sh0 rfl (by decide) rfl (Nat.le_of_ble_eq_true rfl) dX8_later_56 rfl (fun w s hq => ?_)
      obtain ⟨f56, g56, rfl, rfl⟩ := hq
      refine aw_conv (σ' := setR (setR σ 5 (f56)) 6 (g56)) (st' := [.int (meanS (σ.1 0) rr), .int (latS (σ.1 0) n)]) (by first | with_reducible rfl | (simp (disch := omega) only [setR_at, setR_twice, setL_at, setL_twice, setR_2, setL_1, setR_ne, setL_ne, ne_eq, Nat.reduceEqDiff, not_false_eq_true, pk_us, pk_un]; done) | (simp (disch := omega) only [setR_at, setR_twice, setL_at, setL_twice, setR_2, setL_1, setR_ne, setL_ne, ne_eq, Nat.reduceEqDiff, not_false_eq_true, pk_us, pk_un, Option.toList_some, Option.toList_none, List.cons_append, List.nil_append]; done) | ((try simp (disch := omega) only [setR_at, setR_twice, setL_at, setL_twice, setR_2, setL_1, setR_ne, setL_ne, ne_eq, Nat.reduceEqDiff, not_false_eq_true, pk_us, pk_un]); refine Prod.ext (funext fun z => ?_) rfl; simp only [setR]; (repeat' split) <;> first | with_reducible rfl | (exfalso; omega)) | rfl) rfl (by first | with_reducible rfl | (simp (disch := omega) only [setR_at, setR_twice, setL_at, setL_twice, setR_2, setL_1, setR_ne, setL_ne, ne_eq, Nat.reduceEqDiff, not_false_eq_true, pk_us, pk_un]; done) | (simp (disch := omega) only [setR_at, setR_twice, setL_at, setL_twice, setR_2, setL_1, setR_ne, setL_ne, ne_eq, Nat.reduceEqDiff, not_false_eq_true, pk_us, pk_un, Option.toList_some, Option.toList_none, List.cons_append, List.nil_append]; done) | ((try simp (disch := omega) only [setR_at, setR_twice, setL_at, setL_twice, setR_2, setL_1, setR_ne, setL_ne, ne_eq, Nat.reduceEqDiff, not_false_eq_true, pk_us, pk_un]); refine Prod.ext (funext fun z => ?_) rfl; simp only [setR]; (repeat' split) <;> first | with_reducible rfl | (exfalso; omega)) | rfl) ?_
      refine aw_isub (pc := 59) C dX8_later_59 ?_
      refine aw_sipush (pc := 60) (v := 1000) C dX8_later_60 rfl ?_
      refine aw_idiv (pc := 63) C dX8_later_63 (by decide) ?_
      exact aw_iretP (pc := 64) C rfl dX8_later_64 (pc_scr (an' := .inr (((latS (σ.1 0) n) - (meanS (σ.1 0) rr)) / 1000, σ.1 0)) (by rw [sLater, if_pos h5, cl_nI (show rr < 2147483648 by omega)]) rfl (fun r hr => by simp only [anS, setR]; (repeat' split) <;> first | rfl | (subst_vars; first | rfl | exact absurd (by decide) hr)))
    · intro k hk18 ih18 f g
      refine aw_iload_n (pc := 18) C 0 dX8_later_18 rfl ?_
      refine aw_aload_n (pc := 19) C 2 dX8_later_19 rfl ?_
      refine aw_getR (pc := 20) C fl_X8_16 sh0 rfl dX8_later_20 ?_
      refine aw_gld (pc := 23) C (σ.1 0 2) fl_X8_89 (shM (by decide : 0 < 3)) rfl dX8_later_23 (by first | with_reducible rfl | (simp (disch := omega) only [setR_at, setR_twice, setL_at, setL_twice, setR_2, setL_1, setR_ne, setL_ne, ne_eq, Nat.reduceEqDiff, not_false_eq_true, pk_us, pk_un]; done) | (simp (disch := omega) only [setR_at, setR_twice, setL_at, setL_twice, setR_2, setL_1, setR_ne, setL_ne, ne_eq, Nat.reduceEqDiff, not_false_eq_true, pk_us, pk_un, Option.toList_some, Option.toList_none, List.cons_append, List.nil_append]; done) | ((try simp (disch := omega) only [setR_at, setR_twice, setL_at, setL_twice, setR_2, setL_1, setR_ne, setL_ne, ne_eq, Nat.reduceEqDiff, not_false_eq_true, pk_us, pk_un]); refine Prod.ext (funext fun z => ?_) rfl; simp only [setR]; (repeat' split) <;> first | with_reducible rfl | (exfalso; omega)) | rfl) ?_
      refine aw_top C (nI (n)) hn ?_
      refine aw_icmp_geN (pc := 26) C k n 49 rfl rfl (by omega) (by omega) dX8_later_26 (by decide) (fun h26 => absurd h26 (by omega)) (fun h26 => ?_)
      refine aw_iload_n (pc := 29) C 1 dX8_later_29 rfl ?_
      refine aw_aload_n (pc := 30) C 2 dX8_later_30 rfl ?_
      refine aw_aload_n (pc := 31) C 2 dX8_later_31 rfl ?_
      refine aw_getR (pc := 32) C fl_X8_16 sh0 rfl dX8_later_32 ?_
      refine aw_iload_n (pc := 35) C 0 dX8_later_35 rfl ?_
      refine aw_callV (pc := 36) C (c_X8_wholeMean _ 0 (by decide : 0 < 3) n (by simp (disch := omega) only [setR_at, setR_twice, setL_at, setL_twice, setR_2, setL_1, setR_ne, setL_ne, ne_eq, Nat.reduceEqDiff, not_false_eq_true, pk_us, pk_un]; exact hok) k (by omega)) lk_X8_199 sh0 rfl (by decide) rfl (Nat.le_of_ble_eq_true rfl) dX8_later_36 rfl (fun w s hq => ?_)
      obtain ⟨f36, g36, rfl, rfl⟩ := hq
      refine aw_conv (σ' := setR (setR σ 5 (f36)) 6 (g36)) (st' := [.int (meanS (σ.1 0) k), .int (latS (σ.1 0) k)]) (by first | with_reducible rfl | (simp (disch := omega) only [setR_at, setR_twice, setL_at, setL_twice, setR_2, setL_1, setR_ne, setL_ne, ne_eq, Nat.reduceEqDiff, not_false_eq_true, pk_us, pk_un]; done) | (simp (disch := omega) only [setR_at, setR_twice, setL_at, setL_twice, setR_2, setL_1, setR_ne, setL_ne, ne_eq, Nat.reduceEqDiff, not_false_eq_true, pk_us, pk_un, Option.toList_some, Option.toList_none, List.cons_append, List.nil_append]; done) | ((try simp (disch := omega) only [setR_at, setR_twice, setL_at, setL_twice, setR_2, setL_1, setR_ne, setL_ne, ne_eq, Nat.reduceEqDiff, not_false_eq_true, pk_us, pk_un]); refine Prod.ext (funext fun z => ?_) rfl; simp only [setR]; (repeat' split) <;> first | with_reducible rfl | (exfalso; omega)) | rfl) rfl (by first | with_reducible rfl | (simp (disch := omega) only [setR_at, setR_twice, setL_at, setL_twice, setR_2, setL_1, setR_ne, setL_ne, ne_eq, Nat.reduceEqDiff, not_false_eq_true, pk_us, pk_un]; done) | (simp (disch := omega) only [setR_at, setR_twice, setL_at, setL_twice, setR_2, setL_1, setR_ne, setL_ne, ne_eq, Nat.reduceEqDiff, not_false_eq_true, pk_us, pk_un, Option.toList_some, Option.toList_none, List.cons_append, List.nil_append]; done) | ((try simp (disch := omega) only [setR_at, setR_twice, setL_at, setL_twice, setR_2, setL_1, setR_ne, setL_ne, ne_eq, Nat.reduceEqDiff, not_false_eq_true, pk_us, pk_un]); refine Prod.ext (funext fun z => ?_) rfl; simp only [setR]; (repeat' split) <;> first | with_reducible rfl | (exfalso; omega)) | rfl) ?_
      refine aw_mmax (pc := 39) C lk_X8_210 (by decide) (Nat.le_of_ble_eq_true rfl) dX8_later_39 ?_
      refine aw_top C (latS (σ.1 0) (k + 1)) (rfl) ?_
      refine aw_istore_n (pc := 42) C [(2, .int (latS (σ.1 0) (k + 1))), (3, .int (nI k)), (0, .ref 0), (1, .int (nI rr))] dX8_later_42 (Nat.le_of_ble_eq_true rfl) rfl ?_
      refine aw_iincN (pc := 43) C 1 k [(3, .int (nI (k + 1))), (2, .int (latS (σ.1 0) (k + 1))), (0, .ref 0), (1, .int (nI rr))] dX8_later_43 rfl rfl rfl (Nat.le_of_ble_eq_true rfl) rfl ?_
      refine aw_goto (pc := 46) C 18 dX8_later_46 (by decide) ?_
      refine aw_lvs C [0, 1, 2, 3] [(3, .int (nI (k + 1))), (2, .int (latS (σ.1 0) (k + 1))), (0, .ref 0), (1, .int (nI rr))] rfl ?_
      exact aw_conv (σ' := setR (setR σ 5 (f36)) 6 (g36)) (lv' := [(3, .int (nI (k + 1))), (2, .int (latS (σ.1 0) (k + 1))), (0, .ref 0), (1, .int (nI rr))]) rfl rfl rfl (ih18 _ _)
  · refine aw_aload_n (pc := 8) C 0 dX8_later_8 rfl ?_
    refine aw_iconst (pc := 9) (v := 0) C dX8_later_9 rfl ?_
    refine aw_cVI (pc := 10) C (c_X8_found _ 0 (by omega)) lk_X8_78 sh0 rfl dX8_later_10 (by decide) (Nat.le_of_ble_eq_true rfl) rfl rfl ?_
    exact aw_iretP (pc := 13) C rfl dX8_later_13 (pc_of (an' := .inl 0) (by rw [sLater, if_neg (fun z => h5 (z))]) rfl rfl)
theorem c_X8_as (σ : St) (n : Nat) (hok : Ok n (σ.1 0)) (s k : Int32) : AMet Y_X8_as [.ref 0, .int s, .int k] σ (PC σ (sAs (σ.1 0) s k)) := by
  refine am_intro (by decide +kernel) (Nat.le_of_ble_eq_true rfl) (fun K C => ?_)
  have hz := hok.1
  have hn := hok.2.1
  refine aw_iload_n (pc := 0) C 1 dX8_as_0 rfl ?_
  refine aw_cSI (pc := 1) C (c_X8_isSpot _ s ) lk_X8_246 dX8_as_1 (by decide) (Nat.le_of_ble_eq_true rfl) rfl rfl ?_
  refine aw_if_eqB (pc := 4) C 17 dX8_as_4 (by decide) (fun h4 => ?_) (fun h4 => ?_)
  · refine aw_aload_n (pc := 17) C 0 dX8_as_17 rfl ?_
    refine aw_iconst (pc := 18) (v := 0) C dX8_as_18 rfl ?_
    refine aw_cVI (pc := 19) C (c_X8_found _ 0 (by omega)) lk_X8_78 sh0 rfl dX8_as_19 (by decide) (Nat.le_of_ble_eq_true rfl) rfl rfl ?_
    exact aw_iretP (pc := 22) C rfl dX8_as_22 (pc_of (an' := .inl 0) (by rw [sAs, if_neg (fun z => h4 z.1)]) rfl rfl)
  · refine aw_iload_n (pc := 7) C 2 dX8_as_7 rfl ?_
    refine aw_iconst (pc := 8) (v := 0) C dX8_as_8 rfl ?_
    refine aw_bipush (pc := 9) (v := 6) C dX8_as_9 rfl ?_
    refine aw_cSI (pc := 11) C (c_X8_within _ k 0 6 ) lk_X8_74 dX8_as_11 (by decide) (Nat.le_of_ble_eq_true rfl) rfl rfl ?_
    refine aw_if_neB (pc := 14) C 23 dX8_as_14 (by decide) (fun h14 => ?_) (fun h14 => ?_)
    · obtain ⟨ss, rfl, hss0, hss⟩ := rg 0 9 h4 (by omega) (by omega)
      refine aw_aload_n (pc := 23) C 0 dX8_as_23 rfl ?_
      refine aw_getR (pc := 24) C fl_X8_16 sh0 rfl dX8_as_24 ?_
      refine aw_getR (pc := 27) C fl_X8_249 (shM (by decide : 0 < 3)) rfl dX8_as_27 ?_
      refine aw_iload_n (pc := 30) C 1 dX8_as_30 rfl ?_
      refine aw_ild (pc := 31) (k := ss) C (255 + ss) (σ.1 0 (255 + ss)) (shSp (by decide : 0 < 3)) dX8_as_31 rfl (by omega) (by omega) rfl ?_
      refine aw_istore_n (pc := 32) C [(3, .int (σ.1 0 (255 + ss))), (0, .ref 0), (1, .int (nI ss)), (2, .int k)] dX8_as_32 (Nat.le_of_ble_eq_true rfl) rfl ?_
      rcases hok.2.2.2.2.2 ss (by omega) with he | ⟨q, hq, he⟩
      · refine aw_conv (σ' := σ) (lv' := [(3, .int ((-1))), (0, .ref 0), (1, .int (nI ss)), (2, .int k)]) rfl (by rw [he]) rfl ?_
        refine aw_aload_n (pc := 33) C 1 dX8_as_33 rfl ?_
        refine aw_iload_n (pc := 34) C 0 dX8_as_34 rfl ?_
        refine aw_cVI (pc := 35) C (c_X8_isRunner _ n hn hz (-1) ) lk_X8_96 sh0 rfl dX8_as_35 (by decide) (Nat.le_of_ble_eq_true rfl) rfl rfl ?_
        refine aw_if_neB (pc := 38) C 47 dX8_as_38 (by decide) (fun h38 => absurd h38 (fun z => absurd z.1 (by decide))) (fun h38 => ?_)
        refine aw_aload_n (pc := 41) C 1 dX8_as_41 rfl ?_
        refine aw_iconst (pc := 42) (v := 5) C dX8_as_42 rfl ?_
        refine aw_cVI (pc := 43) C (c_X8_found _ 5 (by omega)) lk_X8_78 sh0 rfl dX8_as_43 (by decide) (Nat.le_of_ble_eq_true rfl) rfl rfl ?_
        exact aw_iretP (pc := 46) C rfl dX8_as_46 (pc_of (an' := .inl 5) (by rw [sAs, if_pos ⟨h4, h14⟩, cl_nI (show ss < 2147483648 by omega), he, if_pos (by decide)]) rfl rfl)
      · refine aw_conv (σ' := σ) (lv' := [(3, .int (nI q)), (0, .ref 0), (1, .int (nI ss)), (2, .int k)]) rfl (by rw [he]) rfl ?_
        refine aw_aload_n (pc := 33) C 1 dX8_as_33 rfl ?_
        refine aw_iload_n (pc := 34) C 0 dX8_as_34 rfl ?_
        refine aw_cVI (pc := 35) C (c_X8_isRunner _ n hn hz (nI (q)) ) lk_X8_96 sh0 rfl dX8_as_35 (by decide) (Nat.le_of_ble_eq_true rfl) rfl rfl ?_
        refine aw_if_neB (pc := 38) C 47 dX8_as_38 (by decide) (fun h38 => ?_) (fun h38 => absurd h38 (fun z => z (isR_of hq hz)))
        obtain ⟨k0, hk7, hk⟩ := (hok.2.2.2.2.1 q hq).1
        refine aw_aload_n (pc := 47) C 1 dX8_as_47 rfl ?_
        refine aw_getR (pc := 48) C fl_X8_16 sh0 rfl dX8_as_48 ?_
        refine aw_getR (pc := 51) C fl_X8_99 (shM (by decide : 0 < 3)) rfl dX8_as_51 ?_
        refine aw_iload_n (pc := 54) C 0 dX8_as_54 rfl ?_
        refine aw_aald (pc := 55) (k := q) C (shRs (by decide : 0 < 3)) dX8_as_55 rfl (by omega) ?_
        refine aw_iload_n (pc := 56) C 3 dX8_as_56 rfl ?_
        refine aw_cVI (pc := 57) C (c_X4_isOfKind _ 0 (by decide : 0 < 3) q (by omega) k0 hk hk7 k) lk_X8_252 (shR (by decide : 0 < 3) (by omega)) rfl dX8_as_57 (by decide) (Nat.le_of_ble_eq_true rfl) rfl rfl ?_
        refine aw_if_eqB (pc := 60) C 67 dX8_as_60 (by decide) (fun h60 => ?_) (fun h60 => ?_)
        · refine aw_aload_n (pc := 67) C 1 dX8_as_67 rfl ?_
          refine aw_iconst (pc := 68) (v := 2) C dX8_as_68 rfl ?_
          refine aw_cVI (pc := 69) C (c_X8_found _ 2 (by omega)) lk_X8_78 sh0 rfl dX8_as_69 (by decide) (Nat.le_of_ble_eq_true rfl) rfl rfl ?_
          exact aw_iretP (pc := 72) C rfl dX8_as_72 (pc_of (an' := .inl 2) (by rw [sAs, if_pos ⟨h4, h14⟩, cl_nI (show ss < 2147483648 by omega), he, if_neg (nI_pos (show q < 2147483648 by omega)), cl_nI (show q < 2147483648 by omega), if_neg h60]) rfl rfl)
        · refine aw_iload_n (pc := 63) C 0 dX8_as_63 rfl ?_
          refine aw_goto (pc := 64) C 72 dX8_as_64 (by decide) ?_
          exact aw_iretP (pc := 72) C rfl dX8_as_72 (pc_of (an' := .inr (nI q, σ.1 0)) (by rw [sAs, if_pos ⟨h4, h14⟩, cl_nI (show ss < 2147483648 by omega), he, if_neg (nI_pos (show q < 2147483648 by omega)), cl_nI (show q < 2147483648 by omega), if_pos h60]) rfl (setR_same σ 0).symm)
    · refine aw_aload_n (pc := 17) C 0 dX8_as_17 rfl ?_
      refine aw_iconst (pc := 18) (v := 0) C dX8_as_18 rfl ?_
      refine aw_cVI (pc := 19) C (c_X8_found _ 0 (by omega)) lk_X8_78 sh0 rfl dX8_as_19 (by decide) (Nat.le_of_ble_eq_true rfl) rfl rfl ?_
      exact aw_iretP (pc := 22) C rfl dX8_as_22 (pc_of (an' := .inl 0) (by rw [sAs, if_neg (fun z => h14 z.2)]) rfl rfl)
theorem c_X8_count (σ : St) (n : Nat) (hok : Ok n (σ.1 0)) (t : Nat) (ht : σ.1 13 0 = nI t) (w : Int32) : AMet Y_X8_count [.ref 0, .int w] σ (PC σ (sCount (σ.1 0) n t w)) := by
  refine am_intro (by decide +kernel) (Nat.le_of_ble_eq_true rfl) (fun K C => ?_)
  have hz := hok.1
  have hn := hok.2.1
  refine aw_iload_n (pc := 0) C 1 dX8_count_0 rfl ?_
  by_cases h1_0 : w = 0
  · refine aw_tableIn (pc := 1) C 48 dX8_count_1 (by rw [h1_0]; decide) (by rw [h1_0]; decide) (by rw [h1_0]; rfl) (by decide) ?_
    refine aw_aload_n (pc := 48) C 0 dX8_count_48 rfl ?_
    refine aw_getR (pc := 49) C fl_X8_16 sh0 rfl dX8_count_49 ?_
    refine aw_gld (pc := 52) C (σ.1 0 2) fl_X8_89 (shM (by decide : 0 < 3)) rfl dX8_count_52 rfl ?_
    refine aw_top C (nI (n)) hn ?_
    exact aw_iretP (pc := 55) C rfl dX8_count_55 (pc_of (an' := .inr (nI (n), σ.1 0)) (by rw [sCount, if_pos h1_0]) rfl (setR_same _ 0).symm)
  by_cases h1_1 : w = 1
  · refine aw_tableIn (pc := 1) C 56 dX8_count_1 (by rw [h1_1]; decide) (by rw [h1_1]; decide) (by rw [h1_1]; rfl) (by decide) ?_
    refine aw_aload_n (pc := 56) C 0 dX8_count_56 rfl ?_
    refine aw_getR (pc := 57) C fl_X8_16 sh0 rfl dX8_count_57 ?_
    refine aw_cVI (pc := 60) C (c_X2_homeSet _ 0 (by decide : 0 < 3) n hok) lk_X8_155 (shM (by decide : 0 < 3)) rfl dX8_count_60 (by decide) (Nat.le_of_ble_eq_true rfl) rfl rfl ?_
    refine aw_cSI (pc := 63) C (c_J6_bitCount _ (homeS (σ.1 0) n) ) lk_X8_288 dX8_count_63 (by decide) (Nat.le_of_ble_eq_true rfl) rfl rfl ?_
    refine aw_top C (manyS (homeS (σ.1 0) n) 6) (home_many hz) ?_
    exact aw_iretP (pc := 66) C rfl dX8_count_66 (pc_of (an' := .inr (manyS (homeS (σ.1 0) n) 6, σ.1 0)) (by rw [sCount, if_neg h1_0, if_pos h1_1]) rfl (setR_same _ 0).symm)
  by_cases h1_2 : w = 2
  · refine aw_tableIn (pc := 1) C 67 dX8_count_1 (by rw [h1_2]; decide) (by rw [h1_2]; decide) (by rw [h1_2]; rfl) (by decide) ?_
    refine aw_aload_n (pc := 67) C 0 dX8_count_67 rfl ?_
    refine aw_getR (pc := 68) C fl_X8_16 sh0 rfl dX8_count_68 ?_
    refine aw_cVI (pc := 71) C (c_X2_countDrops _ 0 (by decide : 0 < 3) n hok) lk_X8_293 (shM (by decide : 0 < 3)) rfl dX8_count_71 (by decide) (Nat.le_of_ble_eq_true rfl) rfl rfl ?_
    exact aw_iretP (pc := 74) C rfl dX8_count_74 (pc_of (an' := .inr (adS (σ.1 0) n, σ.1 0)) (by rw [sCount, if_neg h1_0, if_neg h1_1, if_pos h1_2]) rfl (setR_same _ 0).symm)
  by_cases h1_3 : w = 3
  · refine aw_tableIn (pc := 1) C 75 dX8_count_1 (by rw [h1_3]; decide) (by rw [h1_3]; decide) (by rw [h1_3]; rfl) (by decide) ?_
    refine aw_aload_n (pc := 75) C 0 dX8_count_75 rfl ?_
    refine aw_getR (pc := 76) C fl_X8_16 sh0 rfl dX8_count_76 ?_
    refine aw_cVI (pc := 79) C (c_X2_countGrass _ 0 (by decide : 0 < 3) ) lk_X8_234 (shM (by decide : 0 < 3)) rfl dX8_count_79 (by decide) (Nat.le_of_ble_eq_true rfl) rfl rfl ?_
    exact aw_iretP (pc := 82) C rfl dX8_count_82 (pc_of (an' := .inr (grS (σ.1 0) 30, σ.1 0)) (by rw [sCount, if_neg h1_0, if_neg h1_1, if_neg h1_2, if_pos h1_3]) rfl (setR_same _ 0).symm)
  by_cases h1_4 : w = 4
  · refine aw_tableIn (pc := 1) C 83 dX8_count_1 (by rw [h1_4]; decide) (by rw [h1_4]; decide) (by rw [h1_4]; rfl) (by decide) ?_
    refine aw_aload_n (pc := 83) C 0 dX8_count_83 rfl ?_
    refine aw_getR (pc := 84) C fl_X8_16 sh0 rfl dX8_count_84 ?_
    refine aw_gld (pc := 87) C (σ.1 0 0) fl_X8_85 (shM (by decide : 0 < 3)) rfl dX8_count_87 rfl ?_
    exact aw_iretP (pc := 90) C rfl dX8_count_90 (pc_of (an' := .inr (σ.1 0 0, σ.1 0)) (by rw [sCount, if_neg h1_0, if_neg h1_1, if_neg h1_2, if_neg h1_3, if_pos h1_4]) rfl (setR_same _ 0).symm)
  by_cases h1_5 : w = 5
  · refine aw_tableIn (pc := 1) C 91 dX8_count_1 (by rw [h1_5]; decide) (by rw [h1_5]; decide) (by rw [h1_5]; rfl) (by decide) ?_
    refine aw_aload_n (pc := 91) C 0 dX8_count_91 rfl ?_
    refine aw_getR (pc := 92) C fl_X8_58 sh0 rfl dX8_count_92 ?_
    refine aw_gld (pc := 95) C (σ.1 13 0) fl_X8_237 sh13 rfl dX8_count_95 rfl ?_
    refine aw_top C (nI (t)) ht ?_
    exact aw_iretP (pc := 98) C rfl dX8_count_98 (pc_of (an' := .inr (nI (t), σ.1 0)) (by rw [sCount, if_neg h1_0, if_neg h1_1, if_neg h1_2, if_neg h1_3, if_neg h1_4, if_pos h1_5]) rfl (setR_same _ 0).symm)
  by_cases h1_6 : w = 6
  · refine aw_tableIn (pc := 1) C 99 dX8_count_1 (by rw [h1_6]; decide) (by rw [h1_6]; decide) (by rw [h1_6]; rfl) (by decide) ?_
    refine aw_aload_n (pc := 99) C 0 dX8_count_99 rfl ?_
    refine aw_getR (pc := 100) C fl_X8_16 sh0 rfl dX8_count_100 ?_
    refine aw_gld (pc := 103) C (σ.1 0 1) fl_X8_170 (shM (by decide : 0 < 3)) rfl dX8_count_103 rfl ?_
    exact aw_iretP (pc := 106) C rfl dX8_count_106 (pc_of (an' := .inr (σ.1 0 1, σ.1 0)) (by rw [sCount, if_neg h1_0, if_neg h1_1, if_neg h1_2, if_neg h1_3, if_neg h1_4, if_neg h1_5, if_pos h1_6]) rfl (setR_same _ 0).symm)
  by_cases h1_7 : w = 7
  · refine aw_tableIn (pc := 1) C 107 dX8_count_1 (by rw [h1_7]; decide) (by rw [h1_7]; decide) (by rw [h1_7]; rfl) (by decide) ?_
    refine aw_aload_n (pc := 107) C 0 dX8_count_107 rfl ?_
    refine aw_getR (pc := 108) C fl_X8_16 sh0 rfl dX8_count_108 ?_
    refine aw_cVI (pc := 111) C (c_X2_countHolding _ 0 (by decide : 0 < 3) ) lk_X8_296 (shM (by decide : 0 < 3)) rfl dX8_count_111 (by decide) (Nat.le_of_ble_eq_true rfl) rfl rfl ?_
    exact aw_iretP (pc := 114) C rfl dX8_count_114 (pc_of (an' := .inr (hgS (σ.1 0) 10, σ.1 0)) (by rw [sCount, if_neg h1_0, if_neg h1_1, if_neg h1_2, if_neg h1_3, if_neg h1_4, if_neg h1_5, if_neg h1_6, if_pos h1_7]) rfl (setR_same _ 0).symm)
  refine aw_tableOut (pc := 1) C 115 dX8_count_1 (by have q0 := lv_neT (k := 0) h1_0 (a := 0) (by decide); have q1 := lv_neT (k := 1) h1_1 (a := 1) (by decide); have q2 := lv_neT (k := 2) h1_2 (a := 2) (by decide); have q3 := lv_neT (k := 3) h1_3 (a := 3) (by decide); have q4 := lv_neT (k := 4) h1_4 (a := 4) (by decide); have q5 := lv_neT (k := 5) h1_5 (a := 5) (by decide); have q6 := lv_neT (k := 6) h1_6 (a := 6) (by decide); have q7 := lv_neT (k := 7) h1_7 (a := 7) (by decide); omega) (by decide) ?_
  refine aw_aload_n (pc := 115) C 0 dX8_count_115 rfl ?_
  refine aw_iconst (pc := 116) (v := 0) C dX8_count_116 rfl ?_
  refine aw_cVI (pc := 117) C (c_X8_found _ 0 (by omega)) lk_X8_78 sh0 rfl dX8_count_117 (by decide) (Nat.le_of_ble_eq_true rfl) rfl rfl ?_
  exact aw_iretP (pc := 120) C rfl dX8_count_120 (pc_of (an' := .inl 0) (by rw [sCount, if_neg h1_0, if_neg h1_1, if_neg h1_2, if_neg h1_3, if_neg h1_4, if_neg h1_5, if_neg h1_6, if_neg h1_7]) rfl rfl)
theorem c_X8_status (σ : St) (w : Int32) : AMet Y_X8_status [.ref 0, .int w] σ (PC σ (sStatus (σ.1 0) (σ.1 3) w)) := by
  refine am_intro (by decide +kernel) (Nat.le_of_ble_eq_true rfl) (fun K C => ?_)
  refine aw_iload_n (pc := 0) C 1 dX8_status_0 rfl ?_
  refine aw_iconst (pc := 1) (v := (-1)) C dX8_status_1 rfl ?_
  refine aw_bipush (pc := 2) (v := 6) C dX8_status_2 rfl ?_
  refine aw_cSI (pc := 4) C (c_X8_within _ w (-1) 6 ) lk_X8_74 dX8_status_4 (by decide) (Nat.le_of_ble_eq_true rfl) rfl rfl ?_
  refine aw_if_neB (pc := 7) C 16 dX8_status_7 (by decide) (fun h7 => ?_) (fun h7 => ?_)
  · refine aw_iload_n (pc := 16) C 1 dX8_status_16 rfl ?_
    refine aw_if_lt (pc := 17) C 27 dX8_status_17 (by decide) (fun h17 => ?_) (fun h17 => ?_)
    · refine aw_iconst (pc := 27) (v := 0) C dX8_status_27 rfl ?_
      refine aw_istore_n (pc := 28) C [(2, .int 0), (0, .ref 0), (1, .int w)] dX8_status_28 (Nat.le_of_ble_eq_true rfl) rfl ?_
      refine aw_iconst (pc := 29) (v := 0) C dX8_status_29 rfl ?_
      refine aw_istore_n (pc := 30) C [(3, .int 0), (2, .int 0), (0, .ref 0), (1, .int w)] dX8_status_30 (Nat.le_of_ble_eq_true rfl) rfl ?_
      refine aw_lvs C [0, 1, 2, 3] [(3, .int 0), (2, .int 0), (0, .ref 0), (1, .int w)] rfl ?_
      refine aw_conv (σ' := σ) (lv' := [(3, .int (nI 0)), (2, .int (stS (σ.1 3) w 0)), (0, .ref 0), (1, .int w)]) rfl rfl rfl ?_
      refine loop_up (P := fun k => AW _ K _ (σ) 31 [(3, .int (nI k)), (2, .int (stS (σ.1 3) w k)), (0, .ref 0), (1, .int w)] []) 7 ?_ ?_ 0 (by omega) 
      · refine aw_iload_n (pc := 31) C 0 dX8_status_31 rfl ?_
        refine aw_bipush (pc := 32) (v := 7) C dX8_status_32 rfl ?_
        refine aw_icmp_geN (pc := 34) C 7 7 52 rfl rfl (by omega) (by omega) dX8_status_34 (by decide) (fun h34 => ?_) (fun h34 => absurd h34 (by omega))
        refine aw_iload_n (pc := 52) C 1 dX8_status_52 rfl ?_
        exact aw_iretP (pc := 53) C rfl dX8_status_53 (pc_of (an' := .inr (stS (σ.1 3) w 7, σ.1 0)) (by rw [sStatus, if_pos h7]) rfl (setR_same σ 0).symm)
      · intro k hk31 ih31 
        refine aw_iload_n (pc := 31) C 0 dX8_status_31 rfl ?_
        refine aw_bipush (pc := 32) (v := 7) C dX8_status_32 rfl ?_
        refine aw_icmp_geN (pc := 34) C k 7 52 rfl rfl (by omega) (by omega) dX8_status_34 (by decide) (fun h34 => absurd h34 (by omega)) (fun h34 => ?_)
        refine aw_iload_n (pc := 37) C 1 dX8_status_37 rfl ?_
        refine aw_aload_n (pc := 38) C 2 dX8_status_38 rfl ?_
        refine aw_getR (pc := 39) C fl_X8_9 sh0 rfl dX8_status_39 ?_
        refine aw_iload_n (pc := 42) C 0 dX8_status_42 rfl ?_
        refine aw_ild (pc := 43) (k := k) C (k) (σ.1 3 k) sh1 dX8_status_43 rfl (by omega) rfl rfl ?_
        refine aw_iadd (pc := 44) C dX8_status_44 ?_
        refine aw_istore_n (pc := 45) C [(2, .int ((stS (σ.1 3) w k) + (σ.1 3 k))), (3, .int (nI k)), (0, .ref 0), (1, .int w)] dX8_status_45 (Nat.le_of_ble_eq_true rfl) rfl ?_
        refine aw_iincN (pc := 46) C 1 k [(3, .int (nI (k + 1))), (2, .int ((stS (σ.1 3) w k) + (σ.1 3 k))), (0, .ref 0), (1, .int w)] dX8_status_46 rfl rfl rfl (Nat.le_of_ble_eq_true rfl) rfl ?_
        refine aw_goto (pc := 49) C 31 dX8_status_49 (by decide) ?_
        refine aw_lvs C [0, 1, 2, 3] [(3, .int (nI (k + 1))), (2, .int ((stS (σ.1 3) w k) + (σ.1 3 k))), (0, .ref 0), (1, .int w)] rfl ?_
        exact aw_conv (σ' := σ) (lv' := [(3, .int (nI (k + 1))), (2, .int (stS (σ.1 3) w (k + 1))), (0, .ref 0), (1, .int w)]) rfl (by rw [stS, if_pos (Or.inl h17)]) rfl ih31
    · obtain ⟨ww, rfl, hww0, hww⟩ := rg 0 6 ⟨Int32.not_lt.mp h17, h7.2⟩ (by omega) (by omega)
      refine aw_aload_n (pc := 20) C 0 dX8_status_20 rfl ?_
      refine aw_getR (pc := 21) C fl_X8_9 sh0 rfl dX8_status_21 ?_
      refine aw_iload_n (pc := 24) C 1 dX8_status_24 rfl ?_
      refine aw_ild (pc := 25) (k := ww) C (ww) (σ.1 3 ww) sh1 dX8_status_25 rfl (by omega) rfl rfl ?_
      exact aw_iretP (pc := 26) C rfl dX8_status_26 (pc_of (an' := .inr (stS (σ.1 3) (nI ww) 7, σ.1 0)) (by rw [sStatus, if_pos h7]) (stS_one (by omega)).symm (setR_same σ 0).symm)
  · refine aw_aload_n (pc := 10) C 0 dX8_status_10 rfl ?_
    refine aw_iconst (pc := 11) (v := 0) C dX8_status_11 rfl ?_
    refine aw_cVI (pc := 12) C (c_X8_found _ 0 (by omega)) lk_X8_78 sh0 rfl dX8_status_12 (by decide) (Nat.le_of_ble_eq_true rfl) rfl rfl ?_
    exact aw_iretP (pc := 15) C rfl dX8_status_15 (pc_of (an' := .inl 0) (by rw [sStatus, if_neg (fun z => h7 z)]) rfl rfl)
theorem c_X8_tear (σ : St) : AMet Y_X8_tear [.ref 0] σ (fz (some (.int (sTear (σ.1 4 0)))) (setR σ 4 (upd (σ.1 4) 0 0))) := by
  refine am_intro (by decide +kernel) (Nat.le_of_ble_eq_true rfl) (fun K C => ?_)
  refine aw_aload_n (pc := 0) C 0 dX8_tear_0 rfl ?_
  refine aw_gld (pc := 1) C (σ.1 4 0) fl_X8_65 sh0 rfl dX8_tear_1 rfl ?_
  refine aw_if_eq (pc := 4) C 11 dX8_tear_4 (by decide) (fun h4 => ?_) (fun h4 => ?_)
  · refine aw_iconst (pc := 11) (v := 0) C dX8_tear_11 rfl ?_
    refine aw_istore_n (pc := 12) C [(1, .int 0), (0, .ref 0)] dX8_tear_12 (Nat.le_of_ble_eq_true rfl) rfl ?_
    refine aw_aload_n (pc := 13) C 1 dX8_tear_13 rfl ?_
    refine aw_iconst (pc := 14) (v := 0) C dX8_tear_14 rfl ?_
    refine aw_pstZ (pc := 15) C (setR σ 4 (upd (σ.1 4) 0 (0))) fp_X8_65 sh0 rfl rfl rfl dX8_tear_15 rfl ?_
    refine aw_iload_n (pc := 18) C 0 dX8_tear_18 rfl ?_
    exact aw_iret (pc := 19) C rfl dX8_tear_19 (if_pos h4).symm rfl
  · refine aw_iconst (pc := 7) (v := 1) C dX8_tear_7 rfl ?_
    refine aw_goto (pc := 8) C 12 dX8_tear_8 (by decide) ?_
    refine aw_istore_n (pc := 12) C [(1, .int 1), (0, .ref 0)] dX8_tear_12 (Nat.le_of_ble_eq_true rfl) rfl ?_
    refine aw_aload_n (pc := 13) C 1 dX8_tear_13 rfl ?_
    refine aw_iconst (pc := 14) (v := 0) C dX8_tear_14 rfl ?_
    refine aw_pstZ (pc := 15) C (setR σ 4 (upd (σ.1 4) 0 (0))) fp_X8_65 sh0 rfl rfl rfl dX8_tear_15 rfl ?_
    refine aw_iload_n (pc := 18) C 0 dX8_tear_18 rfl ?_
    exact aw_iret (pc := 19) C rfl dX8_tear_19 (if_neg h4).symm rfl
theorem c_X8_image (σ : St) (n : Nat) (hn : σ.1 0 2 = nI n) (hz : n ≤ 6) : AMet Y_X8_image [.ref 0] σ (fz (some (.int 1)) (setR (setR σ 1 (bcm (σ.1 1) (σ.1 0) n)) 4 (upd (σ.1 4) 0 1))) := by
  refine am_intro (by decide +kernel) (Nat.le_of_ble_eq_true rfl) (fun K C => ?_)
  refine aw_aload_n (pc := 0) C 0 dX8_image_0 rfl ?_
  refine aw_getR (pc := 1) C fl_X8_20 sh0 rfl dX8_image_1 ?_
  refine aw_aload_n (pc := 4) C 0 dX8_image_4 rfl ?_
  refine aw_getR (pc := 5) C fl_X8_16 sh0 rfl dX8_image_5 ?_
  refine aw_cV0 (pc := 8) C (c_X2_become _ 1 (by decide : 1 < 3) 0 (by decide : 0 < 3) (by decide) n hn hz) lk_X8_151 (shM (by decide : 1 < 3)) rfl dX8_image_8 (by decide) (Nat.le_of_ble_eq_true rfl) rfl rfl ?_
  refine aw_aload_n (pc := 11) C 0 dX8_image_11 rfl ?_
  refine aw_iconst (pc := 12) (v := 1) C dX8_image_12 rfl ?_
  refine aw_pstZ (pc := 13) C (setR (setR σ 1 (bcm (σ.1 1) (σ.1 0) n)) 4 (upd (σ.1 4) 0 (1))) fp_X8_65 sh0 rfl rfl rfl dX8_image_13 (by first | with_reducible rfl | (simp (disch := omega) only [setR_at, setR_twice, setL_at, setL_twice, setR_2, setL_1, setR_ne, setL_ne, ne_eq, Nat.reduceEqDiff, not_false_eq_true, pk_us, pk_un]; done) | (simp (disch := omega) only [setR_at, setR_twice, setL_at, setL_twice, setR_2, setL_1, setR_ne, setL_ne, ne_eq, Nat.reduceEqDiff, not_false_eq_true, pk_us, pk_un, Option.toList_some, Option.toList_none, List.cons_append, List.nil_append]; done) | ((try simp (disch := omega) only [setR_at, setR_twice, setL_at, setL_twice, setR_2, setL_1, setR_ne, setL_ne, ne_eq, Nat.reduceEqDiff, not_false_eq_true, pk_us, pk_un]); refine Prod.ext (funext fun z => ?_) rfl; simp only [setR]; (repeat' split) <;> first | with_reducible rfl | (exfalso; omega)) | rfl) ?_
  refine aw_iconst (pc := 16) (v := 1) C dX8_image_16 rfl ?_
  exact aw_iret (pc := 17) C rfl dX8_image_17 rfl rfl
theorem c_X8_undo (σ : St) (n : Nat) (hn : σ.1 1 2 = nI n) (hz : n ≤ 6) : AMet Y_X8_undo [.ref 0] σ (PC σ (if σ.1 4 0 = 0 then .inl 3 else .inr (nI n, bcm (σ.1 0) (σ.1 1) n))) := by
  refine am_intro (by decide +kernel) (Nat.le_of_ble_eq_true rfl) (fun K C => ?_)
  refine aw_aload_n (pc := 0) C 0 dX8_undo_0 rfl ?_
  refine aw_gld (pc := 1) C (σ.1 4 0) fl_X8_65 sh0 rfl dX8_undo_1 rfl ?_
  refine aw_if_ne (pc := 4) C 13 dX8_undo_4 (by decide) (fun h4 => ?_) (fun h4 => ?_)
  · refine aw_aload_n (pc := 13) C 0 dX8_undo_13 rfl ?_
    refine aw_getR (pc := 14) C fl_X8_16 sh0 rfl dX8_undo_14 ?_
    refine aw_aload_n (pc := 17) C 0 dX8_undo_17 rfl ?_
    refine aw_getR (pc := 18) C fl_X8_20 sh0 rfl dX8_undo_18 ?_
    refine aw_cV0 (pc := 21) C (c_X2_become _ 0 (by decide : 0 < 3) 1 (by decide : 1 < 3) (by decide) n hn hz) lk_X8_151 (shM (by decide : 0 < 3)) rfl dX8_undo_21 (by decide) (Nat.le_of_ble_eq_true rfl) rfl rfl ?_
    refine aw_aload_n (pc := 24) C 0 dX8_undo_24 rfl ?_
    refine aw_getR (pc := 25) C fl_X8_16 sh0 rfl dX8_undo_25 ?_
    refine aw_gld (pc := 28) C ((bcm (σ.1 0) (σ.1 1) n) 2) fl_X8_89 (shM (by decide : 0 < 3)) rfl dX8_undo_28 (by first | with_reducible rfl | (simp (disch := omega) only [setR_at, setR_twice, setL_at, setL_twice, setR_2, setL_1, setR_ne, setL_ne, ne_eq, Nat.reduceEqDiff, not_false_eq_true, pk_us, pk_un]; done) | (simp (disch := omega) only [setR_at, setR_twice, setL_at, setL_twice, setR_2, setL_1, setR_ne, setL_ne, ne_eq, Nat.reduceEqDiff, not_false_eq_true, pk_us, pk_un, Option.toList_some, Option.toList_none, List.cons_append, List.nil_append]; done) | ((try simp (disch := omega) only [setR_at, setR_twice, setL_at, setL_twice, setR_2, setL_1, setR_ne, setL_ne, ne_eq, Nat.reduceEqDiff, not_false_eq_true, pk_us, pk_un]); refine Prod.ext (funext fun z => ?_) rfl; simp only [setR]; (repeat' split) <;> first | with_reducible rfl | (exfalso; omega)) | rfl) ?_
    refine aw_top C (nI n) ((if_pos (by omega)).trans hn) ?_
    exact aw_iretP (pc := 31) C rfl dX8_undo_31 (pc_of (an' := .inr (nI n, bcm (σ.1 0) (σ.1 1) n)) (by rw [if_neg h4]) rfl rfl)
  · refine aw_aload_n (pc := 7) C 0 dX8_undo_7 rfl ?_
    refine aw_iconst (pc := 8) (v := 3) C dX8_undo_8 rfl ?_
    refine aw_cVI (pc := 9) C (c_X8_found _ 3 (by omega)) lk_X8_78 sh0 rfl dX8_undo_9 (by decide) (Nat.le_of_ble_eq_true rfl) rfl rfl ?_
    exact aw_iretP (pc := 12) C rfl dX8_undo_12 (pc_of (an' := .inl 3) (by rw [if_pos h4]) rfl rfl)
