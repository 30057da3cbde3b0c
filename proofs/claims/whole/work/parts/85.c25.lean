/-! the class: worst, even -/
theorem c_X8_worst (σ : St) (n : Nat) (hok : Ok n (σ.1 0)) (r : Int32) : AMet Y_X8_worst [.ref 0, .int r] σ (PC σ (sWorst (σ.1 0) n r)) := by
  refine am_intro (by decide +kernel) (Nat.le_of_ble_eq_true rfl) (fun K C => ?_)
  have hz := hok.1
  have hn := hok.2.1
  have hokt : Ok n (bcm (σ.1 2) (σ.1 0) n) := hok.agr Agr.bcm.sym
  refine aw_aload_n (pc := 0) C 0 dX8_worst_0 rfl ?_
  refine aw_iload_n (pc := 1) C 1 dX8_worst_1 rfl ?_
  refine aw_cVI (pc := 2) C (c_X8_isRunner _ n hn hz r ) lk_X8_96 sh0 rfl dX8_worst_2 (by decide) (Nat.le_of_ble_eq_true rfl) rfl rfl ?_
  refine aw_if_neB (pc := 5) C 14 dX8_worst_5 (by decide) (fun h5 => ?_) (fun h5 => ?_)
  · obtain ⟨rr, rfl, hrr⟩ := rgR h5 hz
    refine aw_aload_n (pc := 14) C 0 dX8_worst_14 rfl ?_
    refine aw_getR (pc := 15) C fl_X8_23 sh0 rfl dX8_worst_15 ?_
    refine aw_aload_n (pc := 18) C 0 dX8_worst_18 rfl ?_
    refine aw_getR (pc := 19) C fl_X8_16 sh0 rfl dX8_worst_19 ?_
    refine aw_cV0 (pc := 22) C (c_X2_become _ 2 (by decide : 2 < 3) 0 (by decide : 0 < 3) (by decide) n hn hz) lk_X8_151 (shM (by decide : 2 < 3)) rfl dX8_worst_22 (by decide) (Nat.le_of_ble_eq_true rfl) rfl rfl ?_
    refine aw_ldc (pc := 25) C dX8_worst_25 kc_X8_192 ?_
    refine aw_istore_n (pc := 27) C [(2, .int 2147483647), (0, .ref 0), (1, .int (nI rr))] dX8_worst_27 (Nat.le_of_ble_eq_true rfl) rfl ?_
    refine aw_iconst (pc := 28) (v := 0) C dX8_worst_28 rfl ?_
    refine aw_istore_n (pc := 29) C [(3, .int 0), (2, .int 2147483647), (0, .ref 0), (1, .int (nI rr))] dX8_worst_29 (Nat.le_of_ble_eq_true rfl) rfl ?_
    refine aw_iconst (pc := 30) (v := 0) C dX8_worst_30 rfl ?_
    refine aw_istore (pc := 31) C [(4, .int 0), (3, .int 0), (2, .int 2147483647), (0, .ref 0), (1, .int (nI rr))] dX8_worst_31 (Nat.le_of_ble_eq_true rfl) rfl ?_
    refine aw_lvs C [0, 1, 2, 3, 4] [(4, .int 0), (3, .int 0), (2, .int 2147483647), (0, .ref 0), (1, .int (nI rr))] rfl ?_
    refine aw_conv (σ' := setR (setR (setR σ 2 (bcm (σ.1 2) (σ.1 0) n)) 5 (σ.1 5)) 6 (σ.1 6)) (lv' := [(4, .int (nI 0)), (3, .int (oZ (amin (wrV (σ.1 0) rr) 0))), (2, .int (lsM (wrV (σ.1 0) rr) (amin (wrV (σ.1 0) rr) 0))), (0, .ref 0), (1, .int (nI rr))]) (by show setR σ 2 (bcm (σ.1 2) (σ.1 0) n) = setR (setR (setR σ 2 (bcm (σ.1 2) (σ.1 0) n)) 5 (σ.1 5)) 6 (σ.1 6); exact ((setR_same (setR (setR σ 2 (bcm (σ.1 2) (σ.1 0) n)) 5 (σ.1 5)) 6).trans (setR_same (setR σ 2 (bcm (σ.1 2) (σ.1 0) n)) 5)).symm) rfl rfl ?_
    refine loop_up (P := fun k => ∀ (f g : Fl), AW _ K _ (setR (setR (setR σ 2 (bcm (σ.1 2) (σ.1 0) n)) 5 (f)) 6 (g)) 33 [(4, .int (nI k)), (3, .int (oZ (amin (wrV (σ.1 0) rr) k))), (2, .int (lsM (wrV (σ.1 0) rr) (amin (wrV (σ.1 0) rr) k))), (0, .ref 0), (1, .int (nI rr))] []) 30 ?_ ?_ 0 (by omega) (σ.1 5) (σ.1 6)
    · intro f g
      refine aw_iload (pc := 33) C 0 dX8_worst_33 rfl ?_
      refine aw_bipush (pc := 35) (v := 30) C dX8_worst_35 rfl ?_
      refine aw_icmp_geN (pc := 37) C 30 30 100 rfl rfl (by omega) (by omega) dX8_worst_37 (by decide) (fun h37 => ?_) (fun h37 => absurd h37 (by omega))
      refine aw_iload_n (pc := 100) C 1 dX8_worst_100 rfl ?_
      obtain ⟨b, hb⟩ := amin_some (v := wrV (σ.1 0) rr) (k := 30) (by omega)
      refine aw_top C (nI (b)) (by rw [hb]; rfl) ?_
      exact aw_iretP (pc := 101) C rfl dX8_worst_101 (pc_scr (an' := .inr (nI b, σ.1 0)) (by rw [sWorst, if_pos h5, cl_nI (show rr < 2147483648 by omega), hb]; rfl) rfl (fun r hr => by simp only [anS, setR]; (repeat' split) <;> first | rfl | (subst_vars; first | rfl | exact absurd (by decide) hr)))
    · intro k hk33 ih33 f g
      refine aw_iload (pc := 33) C 0 dX8_worst_33 rfl ?_
      refine aw_bipush (pc := 35) (v := 30) C dX8_worst_35 rfl ?_
      refine aw_icmp_geN (pc := 37) C k 30 100 rfl rfl (by omega) (by omega) dX8_worst_37 (by decide) (fun h37 => absurd h37 (by omega)) (fun h37 => ?_)
      refine aw_aload_n (pc := 40) C 3 dX8_worst_40 rfl ?_
      refine aw_getR (pc := 41) C fl_X8_23 sh0 rfl dX8_worst_41 ?_
      refine aw_getR (pc := 44) C fl_X8_82 (shM (by decide : 2 < 3)) rfl dX8_worst_44 ?_
      refine aw_iload (pc := 47) C 0 dX8_worst_47 rfl ?_
      refine aw_iconst (pc := 49) (v := 0) C dX8_worst_49 rfl ?_
      refine aw_ist (pc := 50) (k := k) C (3 + k) (setR (setR (setR σ 2 (upd (bcm (σ.1 2) (σ.1 0) n) (3 + k) (0))) 5 (f)) 6 (g)) (shG (by decide : 2 < 3)) dX8_worst_50 rfl (by omega) (by omega) (by first | with_reducible rfl | (simp (disch := omega) only [setR_at, setR_twice, setL_at, setL_twice, setR_2, setL_1, setR_ne, setL_ne, ne_eq, Nat.reduceEqDiff, not_false_eq_true, pk_us, pk_un]; done) | (simp (disch := omega) only [setR_at, setR_twice, setL_at, setL_twice, setR_2, setL_1, setR_ne, setL_ne, ne_eq, Nat.reduceEqDiff, not_false_eq_true, pk_us, pk_un, Option.toList_some, Option.toList_none, List.cons_append, List.nil_append]; done) | ((try simp (disch := omega) only [setR_at, setR_twice, setL_at, setL_twice, setR_2, setL_1, setR_ne, setL_ne, ne_eq, Nat.reduceEqDiff, not_false_eq_true, pk_us, pk_un]); refine Prod.ext (funext fun z => ?_) rfl; simp only [setR]; (repeat' split) <;> first | with_reducible rfl | (exfalso; omega)) | rfl) ?_
      have hoks : Ok n (upd (bcm (σ.1 2) (σ.1 0) n) (3 + k) 0) := hokt.grass (g := 0) (by omega) (by omega)
      refine aw_aload_n (pc := 51) C 3 dX8_worst_51 rfl ?_
      refine aw_aload_n (pc := 52) C 3 dX8_worst_52 rfl ?_
      refine aw_getR (pc := 53) C fl_X8_23 sh0 rfl dX8_worst_53 ?_
      refine aw_iload_n (pc := 56) C 4 dX8_worst_56 rfl ?_
      refine aw_callV (pc := 57) C (c_X8_wholeMean _ 2 (by decide : 2 < 3) n (by simp (disch := omega) only [setR_at, setR_twice, setL_at, setL_twice, setR_2, setL_1, setR_ne, setL_ne, ne_eq, Nat.reduceEqDiff, not_false_eq_true, pk_us, pk_un]; exact hoks) rr (by omega)) lk_X8_199 sh0 rfl (by decide) rfl (Nat.le_of_ble_eq_true rfl) dX8_worst_57 rfl (fun w s hq => ?_)
      obtain ⟨f57, g57, rfl, rfl⟩ := hq
      refine aw_conv (σ' := setR (setR (setR σ 2 (upd (bcm (σ.1 2) (σ.1 0) n) (3 + k) (0))) 5 (f57)) 6 (g57)) (st' := [.int (meanS (upd (bcm (σ.1 2) (σ.1 0) n) (3 + k) (0)) rr)]) (by first | with_reducible rfl | (simp (disch := omega) only [setR_at, setR_twice, setL_at, setL_twice, setR_2, setL_1, setR_ne, setL_ne, ne_eq, Nat.reduceEqDiff, not_false_eq_true, pk_us, pk_un]; done) | (simp (disch := omega) only [setR_at, setR_twice, setL_at, setL_twice, setR_2, setL_1, setR_ne, setL_ne, ne_eq, Nat.reduceEqDiff, not_false_eq_true, pk_us, pk_un, Option.toList_some, Option.toList_none, List.cons_append, List.nil_append]; done) | ((try simp (disch := omega) only [setR_at, setR_twice, setL_at, setL_twice, setR_2, setL_1, setR_ne, setL_ne, ne_eq, Nat.reduceEqDiff, not_false_eq_true, pk_us, pk_un]); refine Prod.ext (funext fun z => ?_) rfl; simp only [setR]; (repeat' split) <;> first | with_reducible rfl | (exfalso; omega)) | rfl) rfl (by first | with_reducible rfl | (simp (disch := omega) only [setR_at, setR_twice, setL_at, setL_twice, setR_2, setL_1, setR_ne, setL_ne, ne_eq, Nat.reduceEqDiff, not_false_eq_true, pk_us, pk_un]; done) | (simp (disch := omega) only [setR_at, setR_twice, setL_at, setL_twice, setR_2, setL_1, setR_ne, setL_ne, ne_eq, Nat.reduceEqDiff, not_false_eq_true, pk_us, pk_un, Option.toList_some, Option.toList_none, List.cons_append, List.nil_append]; done) | ((try simp (disch := omega) only [setR_at, setR_twice, setL_at, setL_twice, setR_2, setL_1, setR_ne, setL_ne, ne_eq, Nat.reduceEqDiff, not_false_eq_true, pk_us, pk_un]); refine Prod.ext (funext fun z => ?_) rfl; simp only [setR]; (repeat' split) <;> first | with_reducible rfl | (exfalso; omega)) | rfl) ?_
      refine aw_top C (wrV (σ.1 0) rr k) (by rw [mean_agr (Agr.bcm.put rfl) hrr]; rfl) ?_
      refine aw_istore (pc := 60) C [(5, .int (wrV (σ.1 0) rr k)), (4, .int (nI k)), (3, .int (oZ (amin (wrV (σ.1 0) rr) k))), (2, .int (lsM (wrV (σ.1 0) rr) (amin (wrV (σ.1 0) rr) k))), (0, .ref 0), (1, .int (nI rr))] dX8_worst_60 (Nat.le_of_ble_eq_true rfl) rfl ?_
      refine aw_aload_n (pc := 62) C 4 dX8_worst_62 rfl ?_
      refine aw_getR (pc := 63) C fl_X8_23 sh0 rfl dX8_worst_63 ?_
      refine aw_getR (pc := 66) C fl_X8_82 (shM (by decide : 2 < 3)) rfl dX8_worst_66 ?_
      refine aw_iload (pc := 69) C 1 dX8_worst_69 rfl ?_
      refine aw_aload_n (pc := 71) C 4 dX8_worst_71 rfl ?_
      refine aw_getR (pc := 72) C fl_X8_16 sh0 rfl dX8_worst_72 ?_
      refine aw_getR (pc := 75) C fl_X8_82 (shM (by decide : 0 < 3)) rfl dX8_worst_75 ?_
      refine aw_iload (pc := 78) C 1 dX8_worst_78 rfl ?_
      refine aw_ild (pc := 80) (k := k) C (3 + k) (σ.1 0 (3 + k)) (shG (by decide : 0 < 3)) dX8_worst_80 rfl (by omega) (by omega) (by first | with_reducible rfl | (simp (disch := omega) only [setR_at, setR_twice, setL_at, setL_twice, setR_2, setL_1, setR_ne, setL_ne, ne_eq, Nat.reduceEqDiff, not_false_eq_true, pk_us, pk_un]; done) | (simp (disch := omega) only [setR_at, setR_twice, setL_at, setL_twice, setR_2, setL_1, setR_ne, setL_ne, ne_eq, Nat.reduceEqDiff, not_false_eq_true, pk_us, pk_un, Option.toList_some, Option.toList_none, List.cons_append, List.nil_append]; done) | ((try simp (disch := omega) only [setR_at, setR_twice, setL_at, setL_twice, setR_2, setL_1, setR_ne, setL_ne, ne_eq, Nat.reduceEqDiff, not_false_eq_true, pk_us, pk_un]); refine Prod.ext (funext fun z => ?_) rfl; simp only [setR]; (repeat' split) <;> first | with_reducible rfl | (exfalso; omega)) | rfl) ?_
      refine aw_ist (pc := 81) (k := k) C (3 + k) (setR (setR (setR σ 2 (upd (upd (bcm (σ.1 2) (σ.1 0) n) (3 + k) (0)) (3 + k) (σ.1 0 (3 + k)))) 5 (f57)) 6 (g57)) (shG (by decide : 2 < 3)) dX8_worst_81 rfl (by omega) (by omega) (by first | with_reducible rfl | (simp (disch := omega) only [setR_at, setR_twice, setL_at, setL_twice, setR_2, setL_1, setR_ne, setL_ne, ne_eq, Nat.reduceEqDiff, not_false_eq_true, pk_us, pk_un]; done) | (simp (disch := omega) only [setR_at, setR_twice, setL_at, setL_twice, setR_2, setL_1, setR_ne, setL_ne, ne_eq, Nat.reduceEqDiff, not_false_eq_true, pk_us, pk_un, Option.toList_some, Option.toList_none, List.cons_append, List.nil_append]; done) | ((try simp (disch := omega) only [setR_at, setR_twice, setL_at, setL_twice, setR_2, setL_1, setR_ne, setL_ne, ne_eq, Nat.reduceEqDiff, not_false_eq_true, pk_us, pk_un]); refine Prod.ext (funext fun z => ?_) rfl; simp only [setR]; (repeat' split) <;> first | with_reducible rfl | (exfalso; omega)) | rfl) ?_
      refine aw_conv (σ' := setR (setR (setR σ 2 (bcm (σ.1 2) (σ.1 0) n)) 5 (f57)) 6 (g57)) (by rw [upd_twice, upd_at (show (bcm (σ.1 2) (σ.1 0) n) (3 + k) = σ.1 0 (3 + k) from Agr.bcm (3 + k) (by omega))]) rfl rfl ?_
      rcases hb : amin (wrV (σ.1 0) rr) k with _ | b
      · refine aw_lvs C [0, 1, 2, 3, 4, 5] [(5, .int (wrV (σ.1 0) rr k)), (4, .int (nI k)), (3, .int 0), (2, .int 2147483647), (0, .ref 0), (1, .int (nI rr))] rfl ?_
        refine aw_iload (pc := 82) C 0 dX8_worst_82 rfl ?_
        refine aw_iload_n (pc := 84) C 3 dX8_worst_84 rfl ?_
        refine aw_icmp_ge (pc := 85) C 94 dX8_worst_85 (by decide) (fun h85 => absurd h85 (Int32.not_le.mpr (wrV_bd hok hrr (by omega)))) (fun h85 => ?_)
        refine aw_iload (pc := 88) C 0 dX8_worst_88 rfl ?_
        refine aw_istore_n (pc := 90) C [(2, .int (wrV (σ.1 0) rr k)), (5, .int (wrV (σ.1 0) rr k)), (4, .int (nI k)), (3, .int 0), (0, .ref 0), (1, .int (nI rr))] dX8_worst_90 (Nat.le_of_ble_eq_true rfl) rfl ?_
        refine aw_iload (pc := 91) C 2 dX8_worst_91 rfl ?_
        refine aw_istore_n (pc := 93) C [(3, .int (nI k)), (2, .int (wrV (σ.1 0) rr k)), (5, .int (wrV (σ.1 0) rr k)), (4, .int (nI k)), (0, .ref 0), (1, .int (nI rr))] dX8_worst_93 (Nat.le_of_ble_eq_true rfl) rfl ?_
        refine aw_iincN (pc := 94) C 3 k [(4, .int (nI (k + 1))), (3, .int (nI k)), (2, .int (wrV (σ.1 0) rr k)), (5, .int (wrV (σ.1 0) rr k)), (0, .ref 0), (1, .int (nI rr))] dX8_worst_94 rfl rfl rfl (Nat.le_of_ble_eq_true rfl) rfl ?_
        refine aw_goto (pc := 97) C 33 dX8_worst_97 (by decide) ?_
        refine aw_lvs C [0, 1, 2, 4, 5] [(4, .int (nI (k + 1))), (3, .int (nI k)), (2, .int (wrV (σ.1 0) rr k)), (0, .ref 0), (1, .int (nI rr))] rfl ?_
        exact aw_conv (σ' := setR (setR (setR σ 2 (bcm (σ.1 2) (σ.1 0) n)) 5 (f57)) 6 (g57)) (lv' := [(4, .int (nI (k + 1))), (3, .int (oZ (amin (wrV (σ.1 0) rr) (k + 1)))), (2, .int (lsM (wrV (σ.1 0) rr) (amin (wrV (σ.1 0) rr) (k + 1)))), (0, .ref 0), (1, .int (nI rr))]) rfl (by rw [amin_none hb]; rfl) rfl (ih33 _ _)
      · have hbk := amin_lt hb
        refine aw_lvs C [0, 1, 2, 3, 4, 5] [(5, .int (wrV (σ.1 0) rr k)), (4, .int (nI k)), (3, .int (nI b)), (2, .int (wrV (σ.1 0) rr b)), (0, .ref 0), (1, .int (nI rr))] rfl ?_
        refine aw_iload (pc := 82) C 0 dX8_worst_82 rfl ?_
        refine aw_iload_n (pc := 84) C 3 dX8_worst_84 rfl ?_
        refine aw_icmp_ge (pc := 85) C 94 dX8_worst_85 (by decide) (fun h85 => ?_) (fun h85 => ?_)
        · refine aw_iincN (pc := 94) C 1 k [(4, .int (nI (k + 1))), (5, .int (wrV (σ.1 0) rr k)), (3, .int (nI b)), (2, .int (wrV (σ.1 0) rr b)), (0, .ref 0), (1, .int (nI rr))] dX8_worst_94 rfl rfl rfl (Nat.le_of_ble_eq_true rfl) rfl ?_
          refine aw_goto (pc := 97) C 33 dX8_worst_97 (by decide) ?_
          refine aw_lvs C [0, 2, 3, 4, 5] [(4, .int (nI (k + 1))), (3, .int (nI b)), (2, .int (wrV (σ.1 0) rr b)), (0, .ref 0), (1, .int (nI rr))] rfl ?_
          exact aw_conv (σ' := setR (setR (setR σ 2 (bcm (σ.1 2) (σ.1 0) n)) 5 (f57)) 6 (g57)) (lv' := [(4, .int (nI (k + 1))), (3, .int (oZ (amin (wrV (σ.1 0) rr) (k + 1)))), (2, .int (lsM (wrV (σ.1 0) rr) (amin (wrV (σ.1 0) rr) (k + 1)))), (0, .ref 0), (1, .int (nI rr))]) rfl (by rw [amin_more hb (Int32.not_lt.mpr h85)]; rfl) rfl (ih33 _ _)
        · refine aw_iload (pc := 88) C 0 dX8_worst_88 rfl ?_
          refine aw_istore_n (pc := 90) C [(2, .int (wrV (σ.1 0) rr k)), (5, .int (wrV (σ.1 0) rr k)), (4, .int (nI k)), (3, .int (nI b)), (0, .ref 0), (1, .int (nI rr))] dX8_worst_90 (Nat.le_of_ble_eq_true rfl) rfl ?_
          refine aw_iload (pc := 91) C 2 dX8_worst_91 rfl ?_
          refine aw_istore_n (pc := 93) C [(3, .int (nI k)), (2, .int (wrV (σ.1 0) rr k)), (5, .int (wrV (σ.1 0) rr k)), (4, .int (nI k)), (0, .ref 0), (1, .int (nI rr))] dX8_worst_93 (Nat.le_of_ble_eq_true rfl) rfl ?_
          refine aw_iincN (pc := 94) C 3 k [(4, .int (nI (k + 1))), (3, .int (nI k)), (2, .int (wrV (σ.1 0) rr k)), (5, .int (wrV (σ.1 0) rr k)), (0, .ref 0), (1, .int (nI rr))] dX8_worst_94 rfl rfl rfl (Nat.le_of_ble_eq_true rfl) rfl ?_
          refine aw_goto (pc := 97) C 33 dX8_worst_97 (by decide) ?_
          refine aw_lvs C [0, 1, 2, 4, 5] [(4, .int (nI (k + 1))), (3, .int (nI k)), (2, .int (wrV (σ.1 0) rr k)), (0, .ref 0), (1, .int (nI rr))] rfl ?_
          exact aw_conv (σ' := setR (setR (setR σ 2 (bcm (σ.1 2) (σ.1 0) n)) 5 (f57)) 6 (g57)) (lv' := [(4, .int (nI (k + 1))), (3, .int (oZ (amin (wrV (σ.1 0) rr) (k + 1)))), (2, .int (lsM (wrV (σ.1 0) rr) (amin (wrV (σ.1 0) rr) (k + 1)))), (0, .ref 0), (1, .int (nI rr))]) rfl (by rw [amin_less hb (Int32.not_le.mp h85)]; rfl) rfl (ih33 _ _)
  · refine aw_aload_n (pc := 8) C 0 dX8_worst_8 rfl ?_
    refine aw_iconst (pc := 9) (v := 0) C dX8_worst_9 rfl ?_
    refine aw_cVI (pc := 10) C (c_X8_found _ 0 (by omega)) lk_X8_78 sh0 rfl dX8_worst_10 (by decide) (Nat.le_of_ble_eq_true rfl) rfl rfl ?_
    exact aw_iretP (pc := 13) C rfl dX8_worst_13 (pc_of (an' := .inl 0) (by rw [sWorst, if_neg (fun z => h5 z)]) rfl rfl)
theorem c_X8_even (σ : St) (n : Nat) (hok : Ok n (σ.1 0)) (r : Int32) : AMet Y_X8_even [.ref 0, .int r] σ (PC σ (sEven (σ.1 0) n r)) := by
  refine am_intro (by decide +kernel) (Nat.le_of_ble_eq_true rfl) (fun K C => ?_)
  have hz := hok.1
  have hn := hok.2.1
  have hokt : Ok n (bcm (σ.1 2) (σ.1 0) n) := hok.agr Agr.bcm.sym
  refine aw_aload_n (pc := 0) C 0 dX8_even_0 rfl ?_
  refine aw_iload_n (pc := 1) C 1 dX8_even_1 rfl ?_
  refine aw_cVI (pc := 2) C (c_X8_isRunner _ n hn hz r ) lk_X8_96 sh0 rfl dX8_even_2 (by decide) (Nat.le_of_ble_eq_true rfl) rfl rfl ?_
  refine aw_if_neB (pc := 5) C 14 dX8_even_5 (by decide) (fun h5 => ?_) (fun h5 => ?_)
  · obtain ⟨rr, rfl, hrr⟩ := rgR h5 hz
    refine aw_aload_n (pc := 14) C 0 dX8_even_14 rfl ?_
    refine aw_getR (pc := 15) C fl_X8_23 sh0 rfl dX8_even_15 ?_
    refine aw_aload_n (pc := 18) C 0 dX8_even_18 rfl ?_
    refine aw_getR (pc := 19) C fl_X8_16 sh0 rfl dX8_even_19 ?_
    refine aw_cV0 (pc := 22) C (c_X2_become _ 2 (by decide : 2 < 3) 0 (by decide : 0 < 3) (by decide) n hn hz) lk_X8_151 (shM (by decide : 2 < 3)) rfl dX8_even_22 (by decide) (Nat.le_of_ble_eq_true rfl) rfl rfl ?_
    refine aw_ldc (pc := 25) C dX8_even_25 kc_X8_192 ?_
    refine aw_istore_n (pc := 27) C [(2, .int 2147483647), (0, .ref 0), (1, .int (nI rr))] dX8_even_27 (Nat.le_of_ble_eq_true rfl) rfl ?_
    refine aw_iconst (pc := 28) (v := 1) C dX8_even_28 rfl ?_
    refine aw_istore_n (pc := 29) C [(3, .int 1), (2, .int 2147483647), (0, .ref 0), (1, .int (nI rr))] dX8_even_29 (Nat.le_of_ble_eq_true rfl) rfl ?_
    refine aw_iconst (pc := 30) (v := 1) C dX8_even_30 rfl ?_
    refine aw_istore (pc := 31) C [(4, .int 1), (3, .int 1), (2, .int 2147483647), (0, .ref 0), (1, .int (nI rr))] dX8_even_31 (Nat.le_of_ble_eq_true rfl) rfl ?_
    refine aw_lvs C [0, 1, 2, 3, 4] [(4, .int 1), (3, .int 1), (2, .int 2147483647), (0, .ref 0), (1, .int (nI rr))] rfl ?_
    refine aw_conv (σ' := setR (setR (setR σ 2 (evN (bcm (σ.1 2) (σ.1 0) n) rr 0)) 5 (σ.1 5)) 6 (σ.1 6)) (lv' := [(4, .int (nI (0 + 1))), (3, .int (oU (amin (evV (σ.1 0) rr) 0))), (2, .int (lsM (evV (σ.1 0) rr) (amin (evV (σ.1 0) rr) 0))), (0, .ref 0), (1, .int (nI rr))]) (by show setR σ 2 (bcm (σ.1 2) (σ.1 0) n) = setR (setR (setR σ 2 (bcm (σ.1 2) (σ.1 0) n)) 5 (σ.1 5)) 6 (σ.1 6); exact ((setR_same (setR (setR σ 2 (bcm (σ.1 2) (σ.1 0) n)) 5 (σ.1 5)) 6).trans (setR_same (setR σ 2 (bcm (σ.1 2) (σ.1 0) n)) 5)).symm) rfl rfl ?_
    refine loop_up (P := fun k => ∀ (f g : Fl), AW _ K _ (setR (setR (setR σ 2 (evN (bcm (σ.1 2) (σ.1 0) n) rr k)) 5 (f)) 6 (g)) 33 [(4, .int (nI (k + 1))), (3, .int (oU (amin (evV (σ.1 0) rr) k))), (2, .int (lsM (evV (σ.1 0) rr) (amin (evV (σ.1 0) rr) k))), (0, .ref 0), (1, .int (nI rr))] []) 9 ?_ ?_ 0 (by omega) (σ.1 5) (σ.1 6)
    · intro f g
      refine aw_iload (pc := 33) C 0 dX8_even_33 rfl ?_
      refine aw_bipush (pc := 35) (v := 9) C dX8_even_35 rfl ?_
      refine aw_icmp_gtN (pc := 37) C (9 + 1) 9 86 rfl rfl (by omega) (by omega) dX8_even_37 (by decide) (fun h37 => ?_) (fun h37 => absurd h37 (by omega))
      refine aw_iload_n (pc := 86) C 1 dX8_even_86 rfl ?_
      obtain ⟨b, hb⟩ := amin_some (v := evV (σ.1 0) rr) (k := 9) (by omega)
      refine aw_top C (nI (b + 1)) (by rw [hb]; rfl) ?_
      exact aw_iretP (pc := 87) C rfl dX8_even_87 (pc_scr (an' := .inr (nI (b + 1), σ.1 0)) (by rw [sEven, if_pos h5, cl_nI (show rr < 2147483648 by omega), hb]; rfl) rfl (fun r hr => by simp only [anS, setR]; (repeat' split) <;> first | rfl | (subst_vars; first | rfl | exact absurd (by decide) hr)))
    · intro k hk33 ih33 f g
      refine aw_iload (pc := 33) C 0 dX8_even_33 rfl ?_
      refine aw_bipush (pc := 35) (v := 9) C dX8_even_35 rfl ?_
      refine aw_icmp_gtN (pc := 37) C (k + 1) 9 86 rfl rfl (by omega) (by omega) dX8_even_37 (by decide) (fun h37 => absurd h37 (by omega)) (fun h37 => ?_)
      refine aw_aload_n (pc := 40) C 3 dX8_even_40 rfl ?_
      refine aw_getR (pc := 41) C fl_X8_23 sh0 rfl dX8_even_41 ?_
      refine aw_getR (pc := 44) C fl_X8_99 (shM (by decide : 2 < 3)) rfl dX8_even_44 ?_
      refine aw_iload_n (pc := 47) C 4 dX8_even_47 rfl ?_
      refine aw_aald (pc := 48) (k := rr) C (shRs (by decide : 2 < 3)) dX8_even_48 rfl (by omega) ?_
      refine aw_getR (pc := 49) C fl_X8_118 (shR (by decide : 2 < 3) (by omega)) rfl dX8_even_49 ?_
      refine aw_iload (pc := 52) C 0 dX8_even_52 rfl ?_
      refine aw_cS0 (pc := 54) C (c_J7_fill _  (62 + 2 * rr) 2 (33 + 37 * rr + 7) 30 (shP (by decide : 2 < 3) (by omega)) (nI (k + 1)) (by omega)) lk_X8_193 dX8_even_54 (by decide) (Nat.le_of_ble_eq_true rfl) rfl rfl ?_
      refine aw_conv (σ' := setR (setR (setR σ 2 (filK (evN (bcm (σ.1 2) (σ.1 0) n) rr k) (33 + 37 * rr + 7) (nI (k + 1)) 30)) 5 (f)) 6 (g)) (st' := []) (by first | with_reducible rfl | (simp (disch := omega) only [setR_at, setR_twice, setL_at, setL_twice, setR_2, setL_1, setR_ne, setL_ne, ne_eq, Nat.reduceEqDiff, not_false_eq_true, pk_us, pk_un]; done) | (simp (disch := omega) only [setR_at, setR_twice, setL_at, setL_twice, setR_2, setL_1, setR_ne, setL_ne, ne_eq, Nat.reduceEqDiff, not_false_eq_true, pk_us, pk_un, Option.toList_some, Option.toList_none, List.cons_append, List.nil_append]; done) | ((try simp (disch := omega) only [setR_at, setR_twice, setL_at, setL_twice, setR_2, setL_1, setR_ne, setL_ne, ne_eq, Nat.reduceEqDiff, not_false_eq_true, pk_us, pk_un]); refine Prod.ext (funext fun z => ?_) rfl; simp only [setR]; (repeat' split) <;> first | with_reducible rfl | (exfalso; omega)) | rfl) rfl (by first | with_reducible rfl | (simp (disch := omega) only [setR_at, setR_twice, setL_at, setL_twice, setR_2, setL_1, setR_ne, setL_ne, ne_eq, Nat.reduceEqDiff, not_false_eq_true, pk_us, pk_un]; done) | (simp (disch := omega) only [setR_at, setR_twice, setL_at, setL_twice, setR_2, setL_1, setR_ne, setL_ne, ne_eq, Nat.reduceEqDiff, not_false_eq_true, pk_us, pk_un, Option.toList_some, Option.toList_none, List.cons_append, List.nil_append]; done) | ((try simp (disch := omega) only [setR_at, setR_twice, setL_at, setL_twice, setR_2, setL_1, setR_ne, setL_ne, ne_eq, Nat.reduceEqDiff, not_false_eq_true, pk_us, pk_un]); refine Prod.ext (funext fun z => ?_) rfl; simp only [setR]; (repeat' split) <;> first | with_reducible rfl | (exfalso; omega)) | rfl) ?_
      refine aw_conv (σ' := setR (setR (setR σ 2 (evN (bcm (σ.1 2) (σ.1 0) n) rr (k + 1))) 5 (f)) 6 (g)) (by rw [show filK (evN (bcm (σ.1 2) (σ.1 0) n) rr k) (33 + 37 * rr + 7) (nI (k + 1)) 30 = evN (bcm (σ.1 2) (σ.1 0) n) rr (k + 1) from evK_evN]) rfl rfl ?_
      have hoks : Ok n (evN (bcm (σ.1 2) (σ.1 0) n) rr (k + 1)) := hokt.even hrr (by omega) (by omega)
      refine aw_aload_n (pc := 57) C 3 dX8_even_57 rfl ?_
      refine aw_aload_n (pc := 58) C 3 dX8_even_58 rfl ?_
      refine aw_getR (pc := 59) C fl_X8_23 sh0 rfl dX8_even_59 ?_
      refine aw_iload_n (pc := 62) C 4 dX8_even_62 rfl ?_
      refine aw_callV (pc := 63) C (c_X8_wholeMean _ 2 (by decide : 2 < 3) n (by simp (disch := omega) only [setR_at, setR_twice, setL_at, setL_twice, setR_2, setL_1, setR_ne, setL_ne, ne_eq, Nat.reduceEqDiff, not_false_eq_true, pk_us, pk_un]; exact hoks) rr (by omega)) lk_X8_199 sh0 rfl (by decide) rfl (Nat.le_of_ble_eq_true rfl) dX8_even_63 rfl (fun w s hq => ?_)
      obtain ⟨f63, g63, rfl, rfl⟩ := hq
      refine aw_conv (σ' := setR (setR (setR σ 2 (evN (bcm (σ.1 2) (σ.1 0) n) rr (k + 1))) 5 (f63)) 6 (g63)) (st' := [.int (meanS (evN (bcm (σ.1 2) (σ.1 0) n) rr (k + 1)) rr)]) (by first | with_reducible rfl | (simp (disch := omega) only [setR_at, setR_twice, setL_at, setL_twice, setR_2, setL_1, setR_ne, setL_ne, ne_eq, Nat.reduceEqDiff, not_false_eq_true, pk_us, pk_un]; done) | (simp (disch := omega) only [setR_at, setR_twice, setL_at, setL_twice, setR_2, setL_1, setR_ne, setL_ne, ne_eq, Nat.reduceEqDiff, not_false_eq_true, pk_us, pk_un, Option.toList_some, Option.toList_none, List.cons_append, List.nil_append]; done) | ((try simp (disch := omega) only [setR_at, setR_twice, setL_at, setL_twice, setR_2, setL_1, setR_ne, setL_ne, ne_eq, Nat.reduceEqDiff, not_false_eq_true, pk_us, pk_un]); refine Prod.ext (funext fun z => ?_) rfl; simp only [setR]; (repeat' split) <;> first | with_reducible rfl | (exfalso; omega)) | rfl) rfl (by first | with_reducible rfl | (simp (disch := omega) only [setR_at, setR_twice, setL_at, setL_twice, setR_2, setL_1, setR_ne, setL_ne, ne_eq, Nat.reduceEqDiff, not_false_eq_true, pk_us, pk_un]; done) | (simp (disch := omega) only [setR_at, setR_twice, setL_at, setL_twice, setR_2, setL_1, setR_ne, setL_ne, ne_eq, Nat.reduceEqDiff, not_false_eq_true, pk_us, pk_un, Option.toList_some, Option.toList_none, List.cons_append, List.nil_append]; done) | ((try simp (disch := omega) only [setR_at, setR_twice, setL_at, setL_twice, setR_2, setL_1, setR_ne, setL_ne, ne_eq, Nat.reduceEqDiff, not_false_eq_true, pk_us, pk_un]); refine Prod.ext (funext fun z => ?_) rfl; simp only [setR]; (repeat' split) <;> first | with_reducible rfl | (exfalso; omega)) | rfl) ?_
      refine aw_top C (evV (σ.1 0) rr k) (by show meanS (evK (bcm (σ.1 2) (σ.1 0) n) rr (nI (k + 1)) 30) rr = meanS (evK (σ.1 0) rr (nI (k + 1)) 30) rr; rw [mean_agr (ev_agr Agr.bcm) hrr]) ?_
      refine aw_istore (pc := 66) C [(5, .int (evV (σ.1 0) rr k)), (4, .int (nI (k + 1))), (3, .int (oU (amin (evV (σ.1 0) rr) k))), (2, .int (lsM (evV (σ.1 0) rr) (amin (evV (σ.1 0) rr) k))), (0, .ref 0), (1, .int (nI rr))] dX8_even_66 (Nat.le_of_ble_eq_true rfl) rfl ?_
      rcases hb : amin (evV (σ.1 0) rr) k with _ | b
      · refine aw_lvs C [0, 1, 2, 3, 4, 5] [(5, .int (evV (σ.1 0) rr k)), (4, .int (nI (k + 1))), (3, .int 1), (2, .int 2147483647), (0, .ref 0), (1, .int (nI rr))] rfl ?_
        refine aw_iload (pc := 68) C 0 dX8_even_68 rfl ?_
        refine aw_iload_n (pc := 70) C 3 dX8_even_70 rfl ?_
        refine aw_icmp_ge (pc := 71) C 80 dX8_even_71 (by decide) (fun h71 => absurd h71 (Int32.not_le.mpr (evV_bd hok hrr (by omega)))) (fun h71 => ?_)
        refine aw_iload (pc := 74) C 0 dX8_even_74 rfl ?_
        refine aw_istore_n (pc := 76) C [(2, .int (evV (σ.1 0) rr k)), (5, .int (evV (σ.1 0) rr k)), (4, .int (nI (k + 1))), (3, .int 1), (0, .ref 0), (1, .int (nI rr))] dX8_even_76 (Nat.le_of_ble_eq_true rfl) rfl ?_
        refine aw_iload (pc := 77) C 2 dX8_even_77 rfl ?_
        refine aw_istore_n (pc := 79) C [(3, .int (nI (k + 1))), (2, .int (evV (σ.1 0) rr k)), (5, .int (evV (σ.1 0) rr k)), (4, .int (nI (k + 1))), (0, .ref 0), (1, .int (nI rr))] dX8_even_79 (Nat.le_of_ble_eq_true rfl) rfl ?_
        refine aw_iincN (pc := 80) C 3 (k + 1) [(4, .int (nI (k + 1 + 1))), (3, .int (nI (k + 1))), (2, .int (evV (σ.1 0) rr k)), (5, .int (evV (σ.1 0) rr k)), (0, .ref 0), (1, .int (nI rr))] dX8_even_80 rfl rfl rfl (Nat.le_of_ble_eq_true rfl) rfl ?_
        refine aw_goto (pc := 83) C 33 dX8_even_83 (by decide) ?_
        refine aw_lvs C [0, 1, 2, 4, 5] [(4, .int (nI (k + 1 + 1))), (3, .int (nI (k + 1))), (2, .int (evV (σ.1 0) rr k)), (0, .ref 0), (1, .int (nI rr))] rfl ?_
        exact aw_conv (σ' := setR (setR (setR σ 2 (evN (bcm (σ.1 2) (σ.1 0) n) rr (k + 1))) 5 (f63)) 6 (g63)) (lv' := [(4, .int (nI (k + 1 + 1))), (3, .int (oU (amin (evV (σ.1 0) rr) (k + 1)))), (2, .int (lsM (evV (σ.1 0) rr) (amin (evV (σ.1 0) rr) (k + 1)))), (0, .ref 0), (1, .int (nI rr))]) rfl (by rw [amin_none hb]; rfl) rfl (ih33 _ _)
      · have hbk := amin_lt hb
        refine aw_lvs C [0, 1, 2, 3, 4, 5] [(5, .int (evV (σ.1 0) rr k)), (4, .int (nI (k + 1))), (3, .int (nI (b + 1))), (2, .int (evV (σ.1 0) rr b)), (0, .ref 0), (1, .int (nI rr))] rfl ?_
        refine aw_iload (pc := 68) C 0 dX8_even_68 rfl ?_
        refine aw_iload_n (pc := 70) C 3 dX8_even_70 rfl ?_
        refine aw_icmp_ge (pc := 71) C 80 dX8_even_71 (by decide) (fun h71 => ?_) (fun h71 => ?_)
        · refine aw_iincN (pc := 80) C 1 (k + 1) [(4, .int (nI (k + 1 + 1))), (5, .int (evV (σ.1 0) rr k)), (3, .int (nI (b + 1))), (2, .int (evV (σ.1 0) rr b)), (0, .ref 0), (1, .int (nI rr))] dX8_even_80 rfl rfl rfl (Nat.le_of_ble_eq_true rfl) rfl ?_
          refine aw_goto (pc := 83) C 33 dX8_even_83 (by decide) ?_
          refine aw_lvs C [0, 2, 3, 4, 5] [(4, .int (nI (k + 1 + 1))), (3, .int (nI (b + 1))), (2, .int (evV (σ.1 0) rr b)), (0, .ref 0), (1, .int (nI rr))] rfl ?_
          exact aw_conv (σ' := setR (setR (setR σ 2 (evN (bcm (σ.1 2) (σ.1 0) n) rr (k + 1))) 5 (f63)) 6 (g63)) (lv' := [(4, .int (nI (k + 1 + 1))), (3, .int (oU (amin (evV (σ.1 0) rr) (k + 1)))), (2, .int (lsM (evV (σ.1 0) rr) (amin (evV (σ.1 0) rr) (k + 1)))), (0, .ref 0), (1, .int (nI rr))]) rfl (by rw [amin_more hb (Int32.not_lt.mpr h71)]; rfl) rfl (ih33 _ _)
        · refine aw_iload (pc := 74) C 0 dX8_even_74 rfl ?_
          refine aw_istore_n (pc := 76) C [(2, .int (evV (σ.1 0) rr k)), (5, .int (evV (σ.1 0) rr k)), (4, .int (nI (k + 1))), (3, .int (nI (b + 1))), (0, .ref 0), (1, .int (nI rr))] dX8_even_76 (Nat.le_of_ble_eq_true rfl) rfl ?_
          refine aw_iload (pc := 77) C 2 dX8_even_77 rfl ?_
          refine aw_istore_n (pc := 79) C [(3, .int (nI (k + 1))), (2, .int (evV (σ.1 0) rr k)), (5, .int (evV (σ.1 0) rr k)), (4, .int (nI (k + 1))), (0, .ref 0), (1, .int (nI rr))] dX8_even_79 (Nat.le_of_ble_eq_true rfl) rfl ?_
          refine aw_iincN (pc := 80) C 3 (k + 1) [(4, .int (nI (k + 1 + 1))), (3, .int (nI (k + 1))), (2, .int (evV (σ.1 0) rr k)), (5, .int (evV (σ.1 0) rr k)), (0, .ref 0), (1, .int (nI rr))] dX8_even_80 rfl rfl rfl (Nat.le_of_ble_eq_true rfl) rfl ?_
          refine aw_goto (pc := 83) C 33 dX8_even_83 (by decide) ?_
          refine aw_lvs C [0, 1, 2, 4, 5] [(4, .int (nI (k + 1 + 1))), (3, .int (nI (k + 1))), (2, .int (evV (σ.1 0) rr k)), (0, .ref 0), (1, .int (nI rr))] rfl ?_
          exact aw_conv (σ' := setR (setR (setR σ 2 (evN (bcm (σ.1 2) (σ.1 0) n) rr (k + 1))) 5 (f63)) 6 (g63)) (lv' := [(4, .int (nI (k + 1 + 1))), (3, .int (oU (amin (evV (σ.1 0) rr) (k + 1)))), (2, .int (lsM (evV (σ.1 0) rr) (amin (evV (σ.1 0) rr) (k + 1)))), (0, .ref 0), (1, .int (nI rr))]) rfl (by rw [amin_less hb (Int32.not_le.mp h71)]; rfl) rfl (ih33 _ _)
  · refine aw_aload_n (pc := 8) C 0 dX8_even_8 rfl ?_
    refine aw_iconst (pc := 9) (v := 0) C dX8_even_9 rfl ?_
    refine aw_cVI (pc := 10) C (c_X8_found _ 0 (by omega)) lk_X8_78 sh0 rfl dX8_even_10 (by decide) (Nat.le_of_ble_eq_true rfl) rfl rfl ?_
    exact aw_iretP (pc := 13) C rfl dX8_even_13 (pc_of (an' := .inl 0) (by rw [sEven, if_neg (fun z => h5 z)]) rfl rfl)
