/-! the class: ahead -/
theorem c_X8_ahead (σ : St) (n : Nat) (hok : Ok n (σ.1 0)) (k w : Int32) : AMet Y_X8_ahead [.ref 0, .int k, .int w] σ (PC σ (sAhead (σ.1 0) n k w)) := by
  refine am_intro (by decide +kernel) (Nat.le_of_ble_eq_true rfl) (fun K C => ?_)
  have hz := hok.1
  have hn := hok.2.1
  have hokt : Ok n (bcm (σ.1 2) (σ.1 0) n) := hok.agr Agr.bcm.sym
  refine aw_iload_n (pc := 0) C 1 dX8_ahead_0 rfl ?_
  refine aw_iconst (pc := 1) (v := 0) C dX8_ahead_1 rfl ?_
  refine aw_sipush (pc := 2) (v := 180) C dX8_ahead_2 rfl ?_
  refine aw_cSI (pc := 5) C (c_X8_within _ k 0 180 ) lk_X8_74 dX8_ahead_5 (by decide) (Nat.le_of_ble_eq_true rfl) rfl rfl ?_
  refine aw_if_eqB (pc := 8) C 28 dX8_ahead_8 (by decide) (fun h8 => ?_) (fun h8 => ?_)
  · refine aw_aload_n (pc := 28) C 0 dX8_ahead_28 rfl ?_
    refine aw_iconst (pc := 29) (v := 0) C dX8_ahead_29 rfl ?_
    refine aw_cVI (pc := 30) C (c_X8_found _ 0 (by omega)) lk_X8_78 sh0 rfl dX8_ahead_30 (by decide) (Nat.le_of_ble_eq_true rfl) rfl rfl ?_
    exact aw_iretP (pc := 33) C rfl dX8_ahead_33 (pc_of (an' := .inl 0) (by rw [sAhead, if_neg (fun z => h8 (z.1))]) rfl rfl)
  · refine aw_iload_n (pc := 11) C 2 dX8_ahead_11 rfl ?_
    refine aw_iconst (pc := 12) (v := 0) C dX8_ahead_12 rfl ?_
    refine aw_iconst (pc := 13) (v := 2) C dX8_ahead_13 rfl ?_
    refine aw_aload_n (pc := 14) C 0 dX8_ahead_14 rfl ?_
    refine aw_getR (pc := 15) C fl_X8_16 sh0 rfl dX8_ahead_15 ?_
    refine aw_gld (pc := 18) C (σ.1 0 2) fl_X8_89 (shM (by decide : 0 < 3)) rfl dX8_ahead_18 rfl ?_
    refine aw_top C (nI (n)) hn ?_
    refine aw_iaddN (pc := 21) C 2 n rfl rfl dX8_ahead_21 ?_
    refine aw_cSI (pc := 22) C (c_X8_within _ w 0 (nI (2 + n)) ) lk_X8_74 dX8_ahead_22 (by decide) (Nat.le_of_ble_eq_true rfl) rfl rfl ?_
    refine aw_if_neB (pc := 25) C 34 dX8_ahead_25 (by decide) (fun h25 => ?_) (fun h25 => ?_)
    · obtain ⟨kk, rfl, hkk0, hkk⟩ := rg 0 180 h8 (by omega) (by omega)
      obtain ⟨ww, rfl, hww0, hww⟩ := rg 0 (2 + n) h25 (by omega) (by omega)
      refine aw_aload_n (pc := 34) C 0 dX8_ahead_34 rfl ?_
      refine aw_getR (pc := 35) C fl_X8_23 sh0 rfl dX8_ahead_35 ?_
      refine aw_aload_n (pc := 38) C 0 dX8_ahead_38 rfl ?_
      refine aw_getR (pc := 39) C fl_X8_16 sh0 rfl dX8_ahead_39 ?_
      refine aw_cV0 (pc := 42) C (c_X2_become _ 2 (by decide : 2 < 3) 0 (by decide : 0 < 3) (by decide) n hn hz) lk_X8_151 (shM (by decide : 2 < 3)) rfl dX8_ahead_42 (by decide) (Nat.le_of_ble_eq_true rfl) rfl rfl ?_
      refine aw_aload_n (pc := 45) C 0 dX8_ahead_45 rfl ?_
      refine aw_getR (pc := 46) C fl_X8_23 sh0 rfl dX8_ahead_46 ?_
      refine aw_iload_n (pc := 49) C 1 dX8_ahead_49 rfl ?_
      refine aw_cVI (pc := 50) C (c_X2_go _ 2 (by decide : 2 < 3) n (by simp (disch := omega) only [setR_at, setR_twice, setL_at, setL_twice, setR_2, setL_1, setR_ne, setL_ne, ne_eq, Nat.reduceEqDiff, not_false_eq_true, pk_us, pk_un]; exact hokt) kk (by omega)) lk_X8_145 (shM (by decide : 2 < 3)) rfl dX8_ahead_50 (by decide) (Nat.le_of_ble_eq_true rfl) rfl rfl ?_
      refine aw_conv (σ' := setR σ 2 (goM n (bcm (σ.1 2) (σ.1 0) n) kk)) (st' := [.int (goD n (bcm (σ.1 2) (σ.1 0) n) kk)]) (by first | with_reducible rfl | (simp (disch := omega) only [setR_at, setR_twice, setL_at, setL_twice, setR_2, setL_1, setR_ne, setL_ne, ne_eq, Nat.reduceEqDiff, not_false_eq_true, pk_us, pk_un]; done) | (simp (disch := omega) only [setR_at, setR_twice, setL_at, setL_twice, setR_2, setL_1, setR_ne, setL_ne, ne_eq, Nat.reduceEqDiff, not_false_eq_true, pk_us, pk_un, Option.toList_some, Option.toList_none, List.cons_append, List.nil_append]; done) | ((try simp (disch := omega) only [setR_at, setR_twice, setL_at, setL_twice, setR_2, setL_1, setR_ne, setL_ne, ne_eq, Nat.reduceEqDiff, not_false_eq_true, pk_us, pk_un]); refine Prod.ext (funext fun z => ?_) rfl; simp only [setR]; (repeat' split) <;> first | with_reducible rfl | (exfalso; omega)) | rfl) rfl (by first | with_reducible rfl | (simp (disch := omega) only [setR_at, setR_twice, setL_at, setL_twice, setR_2, setL_1, setR_ne, setL_ne, ne_eq, Nat.reduceEqDiff, not_false_eq_true, pk_us, pk_un]; done) | (simp (disch := omega) only [setR_at, setR_twice, setL_at, setL_twice, setR_2, setL_1, setR_ne, setL_ne, ne_eq, Nat.reduceEqDiff, not_false_eq_true, pk_us, pk_un, Option.toList_some, Option.toList_none, List.cons_append, List.nil_append]; done) | ((try simp (disch := omega) only [setR_at, setR_twice, setL_at, setL_twice, setR_2, setL_1, setR_ne, setL_ne, ne_eq, Nat.reduceEqDiff, not_false_eq_true, pk_us, pk_un]); refine Prod.ext (funext fun z => ?_) rfl; simp only [setR]; (repeat' split) <;> first | with_reducible rfl | (exfalso; omega)) | rfl) ?_
      have hokg : Ok n (goM n (bcm (σ.1 2) (σ.1 0) n) kk) := hokt.go kk
      have hag := (go_agr (Agr.bcm (μ := σ.1 2)) hok kk).1
      have had := (go_agr (Agr.bcm (μ := σ.1 2)) hok kk).2
      refine aw_top C (goD n (σ.1 0) kk) (had) ?_
      refine aw_istore_n (pc := 53) C [(3, .int (goD n (σ.1 0) kk)), (0, .ref 0), (1, .int (nI kk)), (2, .int (nI ww))] dX8_ahead_53 (Nat.le_of_ble_eq_true rfl) rfl ?_
      refine aw_iload_n (pc := 54) C 3 dX8_ahead_54 rfl ?_
      by_cases h55_0 : (nI (ww)) = 0
      · refine aw_tableIn (pc := 55) C 80 dX8_ahead_55 (by rw [h55_0]; decide) (by rw [h55_0]; decide) (by rw [h55_0]; rfl) (by decide) ?_
        have hw0 : ww = 0 := (nI_eq (b := 0) (by omega) (by omega)).mp h55_0
        refine aw_aload_n (pc := 80) C 1 dX8_ahead_80 rfl ?_
        refine aw_getR (pc := 81) C fl_X8_23 sh0 rfl dX8_ahead_81 ?_
        refine aw_cVI (pc := 84) C (c_X2_homeSet _ 2 (by decide : 2 < 3) n (by simp (disch := omega) only [setR_at, setR_twice, setL_at, setL_twice, setR_2, setL_1, setR_ne, setL_ne, ne_eq, Nat.reduceEqDiff, not_false_eq_true, pk_us, pk_un]; exact hokg)) lk_X8_155 (shM (by decide : 2 < 3)) rfl dX8_ahead_84 (by decide) (Nat.le_of_ble_eq_true rfl) rfl rfl ?_
        refine aw_conv (σ' := setR σ 2 (goM n (bcm (σ.1 2) (σ.1 0) n) kk)) (st' := [.int (homeS (goM n (bcm (σ.1 2) (σ.1 0) n) kk) n)]) (by first | with_reducible rfl | (simp (disch := omega) only [setR_at, setR_twice, setL_at, setL_twice, setR_2, setL_1, setR_ne, setL_ne, ne_eq, Nat.reduceEqDiff, not_false_eq_true, pk_us, pk_un]; done) | (simp (disch := omega) only [setR_at, setR_twice, setL_at, setL_twice, setR_2, setL_1, setR_ne, setL_ne, ne_eq, Nat.reduceEqDiff, not_false_eq_true, pk_us, pk_un, Option.toList_some, Option.toList_none, List.cons_append, List.nil_append]; done) | ((try simp (disch := omega) only [setR_at, setR_twice, setL_at, setL_twice, setR_2, setL_1, setR_ne, setL_ne, ne_eq, Nat.reduceEqDiff, not_false_eq_true, pk_us, pk_un]); refine Prod.ext (funext fun z => ?_) rfl; simp only [setR]; (repeat' split) <;> first | with_reducible rfl | (exfalso; omega)) | rfl) rfl (by first | with_reducible rfl | (simp (disch := omega) only [setR_at, setR_twice, setL_at, setL_twice, setR_2, setL_1, setR_ne, setL_ne, ne_eq, Nat.reduceEqDiff, not_false_eq_true, pk_us, pk_un]; done) | (simp (disch := omega) only [setR_at, setR_twice, setL_at, setL_twice, setR_2, setL_1, setR_ne, setL_ne, ne_eq, Nat.reduceEqDiff, not_false_eq_true, pk_us, pk_un, Option.toList_some, Option.toList_none, List.cons_append, List.nil_append]; done) | ((try simp (disch := omega) only [setR_at, setR_twice, setL_at, setL_twice, setR_2, setL_1, setR_ne, setL_ne, ne_eq, Nat.reduceEqDiff, not_false_eq_true, pk_us, pk_un]); refine Prod.ext (funext fun z => ?_) rfl; simp only [setR]; (repeat' split) <;> first | with_reducible rfl | (exfalso; omega)) | rfl) ?_
        refine aw_top C (homeS (goM n (σ.1 0) kk) n) (home_agr hag (Nat.le_refl n)) ?_
        exact aw_iretP (pc := 87) C rfl dX8_ahead_87 (pc_scr (an' := .inr (homeS (goM n (σ.1 0) kk) n, σ.1 0)) (by rw [sAhead, if_pos ⟨h8, h25⟩, cl_nI (show kk < 2147483648 by omega), cl_nI (show ww < 2147483648 by omega), aheadV, if_pos hw0]) rfl (fun r hr => by simp only [anS, setR]; (repeat' split) <;> first | rfl | (subst_vars; first | rfl | exact absurd (by decide) hr)))
      by_cases h55_1 : (nI (ww)) = 1
      · refine aw_tableIn (pc := 55) C 88 dX8_ahead_55 (by rw [h55_1]; decide) (by rw [h55_1]; decide) (by rw [h55_1]; rfl) (by decide) ?_
        have hw0 : ¬ ww = 0 := fun z => h55_0 (by rw [z]; rfl)
        have hw1 : ww = 1 := (nI_eq (b := 1) (by omega) (by omega)).mp h55_1
        refine aw_iload_n (pc := 88) C 0 dX8_ahead_88 rfl ?_
        exact aw_iretP (pc := 89) C rfl dX8_ahead_89 (pc_scr (an' := .inr (goD n (σ.1 0) kk, σ.1 0)) (by rw [sAhead, if_pos ⟨h8, h25⟩, cl_nI (show kk < 2147483648 by omega), cl_nI (show ww < 2147483648 by omega), aheadV, if_neg hw0, if_pos hw1]) rfl (fun r hr => by simp only [anS, setR]; (repeat' split) <;> first | rfl | (subst_vars; first | rfl | exact absurd (by decide) hr)))
      by_cases h55_2 : (nI (ww)) = 2
      · refine aw_tableIn (pc := 55) C 90 dX8_ahead_55 (by rw [h55_2]; decide) (by rw [h55_2]; decide) (by rw [h55_2]; rfl) (by decide) ?_
        have hw0 : ¬ ww = 0 := fun z => h55_0 (by rw [z]; rfl)
        have hw1 : ¬ ww = 1 := fun z => h55_1 (by rw [z]; rfl)
        have hw2 : ww = 2 := (nI_eq (b := 2) (by omega) (by omega)).mp h55_2
        refine aw_aload_n (pc := 90) C 1 dX8_ahead_90 rfl ?_
        refine aw_getR (pc := 91) C fl_X8_23 sh0 rfl dX8_ahead_91 ?_
        refine aw_cVI (pc := 94) C (c_X2_whoRuns _ 2 (by decide : 2 < 3) n (by simp (disch := omega) only [setR_at, setR_twice, setL_at, setL_twice, setR_2, setL_1, setR_ne, setL_ne, ne_eq, Nat.reduceEqDiff, not_false_eq_true, pk_us, pk_un]; exact hokg)) lk_X8_141 (shM (by decide : 2 < 3)) rfl dX8_ahead_94 (by decide) (Nat.le_of_ble_eq_true rfl) rfl rfl ?_
        refine aw_conv (σ' := setR σ 2 (goM n (bcm (σ.1 2) (σ.1 0) n) kk)) (st' := [.int (oI (nxt (goM n (bcm (σ.1 2) (σ.1 0) n) kk) n))]) (by first | with_reducible rfl | (simp (disch := omega) only [setR_at, setR_twice, setL_at, setL_twice, setR_2, setL_1, setR_ne, setL_ne, ne_eq, Nat.reduceEqDiff, not_false_eq_true, pk_us, pk_un]; done) | (simp (disch := omega) only [setR_at, setR_twice, setL_at, setL_twice, setR_2, setL_1, setR_ne, setL_ne, ne_eq, Nat.reduceEqDiff, not_false_eq_true, pk_us, pk_un, Option.toList_some, Option.toList_none, List.cons_append, List.nil_append]; done) | ((try simp (disch := omega) only [setR_at, setR_twice, setL_at, setL_twice, setR_2, setL_1, setR_ne, setL_ne, ne_eq, Nat.reduceEqDiff, not_false_eq_true, pk_us, pk_un]); refine Prod.ext (funext fun z => ?_) rfl; simp only [setR]; (repeat' split) <;> first | with_reducible rfl | (exfalso; omega)) | rfl) rfl (by first | with_reducible rfl | (simp (disch := omega) only [setR_at, setR_twice, setL_at, setL_twice, setR_2, setL_1, setR_ne, setL_ne, ne_eq, Nat.reduceEqDiff, not_false_eq_true, pk_us, pk_un]; done) | (simp (disch := omega) only [setR_at, setR_twice, setL_at, setL_twice, setR_2, setL_1, setR_ne, setL_ne, ne_eq, Nat.reduceEqDiff, not_false_eq_true, pk_us, pk_un, Option.toList_some, Option.toList_none, List.cons_append, List.nil_append]; done) | ((try simp (disch := omega) only [setR_at, setR_twice, setL_at, setL_twice, setR_2, setL_1, setR_ne, setL_ne, ne_eq, Nat.reduceEqDiff, not_false_eq_true, pk_us, pk_un]); refine Prod.ext (funext fun z => ?_) rfl; simp only [setR]; (repeat' split) <;> first | with_reducible rfl | (exfalso; omega)) | rfl) ?_
        refine aw_top C (oI (nxt (goM n (σ.1 0) kk) n)) (by rw [nxt_agr hag (Nat.le_refl n)]) ?_
        exact aw_iretP (pc := 97) C rfl dX8_ahead_97 (pc_scr (an' := .inr (oI (nxt (goM n (σ.1 0) kk) n), σ.1 0)) (by rw [sAhead, if_pos ⟨h8, h25⟩, cl_nI (show kk < 2147483648 by omega), cl_nI (show ww < 2147483648 by omega), aheadV, if_neg hw0, if_neg hw1, if_pos hw2]) rfl (fun r hr => by simp only [anS, setR]; (repeat' split) <;> first | rfl | (subst_vars; first | rfl | exact absurd (by decide) hr)))
      refine aw_tableOut (pc := 55) C 98 dX8_ahead_55 (by have q0 := lv_neT (k := 0) h55_0 (a := 0) (by decide); have q1 := lv_neT (k := 1) h55_1 (a := 1) (by decide); have q2 := lv_neT (k := 2) h55_2 (a := 2) (by decide); omega) (by decide) ?_
      have hw0 : ¬ ww = 0 := fun z => h55_0 (by rw [z]; rfl)
      have hw1 : ¬ ww = 1 := fun z => h55_1 (by rw [z]; rfl)
      have hw2 : ¬ ww = 2 := fun z => h55_2 (by rw [z]; rfl)
      refine aw_aload_n (pc := 98) C 1 dX8_ahead_98 rfl ?_
      refine aw_getR (pc := 99) C fl_X8_23 sh0 rfl dX8_ahead_99 ?_
      refine aw_getR (pc := 102) C fl_X8_99 (shM (by decide : 2 < 3)) rfl dX8_ahead_102 ?_
      refine aw_iload_n (pc := 105) C 3 dX8_ahead_105 rfl ?_
      refine aw_iconst (pc := 106) (v := 3) C dX8_ahead_106 rfl ?_
      refine aw_isubN (pc := 107) C ww 3 rfl rfl (by omega) dX8_ahead_107 ?_
      refine aw_aald (pc := 108) (k := ww - 3) C (shRs (by decide : 2 < 3)) dX8_ahead_108 rfl (by omega) ?_
      refine aw_gld (pc := 109) C ((goM n (bcm (σ.1 2) (σ.1 0) n) kk) (33 + 37 * (ww - 3) + 4)) fl_X8_158 (shR (by decide : 2 < 3) (by omega)) rfl dX8_ahead_109 (by first | with_reducible rfl | (simp (disch := omega) only [setR_at, setR_twice, setL_at, setL_twice, setR_2, setL_1, setR_ne, setL_ne, ne_eq, Nat.reduceEqDiff, not_false_eq_true, pk_us, pk_un]; done) | (simp (disch := omega) only [setR_at, setR_twice, setL_at, setL_twice, setR_2, setL_1, setR_ne, setL_ne, ne_eq, Nat.reduceEqDiff, not_false_eq_true, pk_us, pk_un, Option.toList_some, Option.toList_none, List.cons_append, List.nil_append]; done) | ((try simp (disch := omega) only [setR_at, setR_twice, setL_at, setL_twice, setR_2, setL_1, setR_ne, setL_ne, ne_eq, Nat.reduceEqDiff, not_false_eq_true, pk_us, pk_un]); refine Prod.ext (funext fun z => ?_) rfl; simp only [setR]; (repeat' split) <;> first | with_reducible rfl | (exfalso; omega)) | rfl) ?_
      refine aw_top C (fl (goM n (σ.1 0) kk) (ww - 3) 4) (hag.fl (show ww - 3 < n by omega) (by omega)) ?_
      exact aw_iretP (pc := 112) C rfl dX8_ahead_112 (pc_scr (an' := .inr (fl (goM n (σ.1 0) kk) (ww - 3) 4, σ.1 0)) (by rw [sAhead, if_pos ⟨h8, h25⟩, cl_nI (show kk < 2147483648 by omega), cl_nI (show ww < 2147483648 by omega), aheadV, if_neg hw0, if_neg hw1, if_neg hw2]) rfl (fun r hr => by simp only [anS, setR]; (repeat' split) <;> first | rfl | (subst_vars; first | rfl | exact absurd (by decide) hr)))
    · refine aw_aload_n (pc := 28) C 0 dX8_ahead_28 rfl ?_
      refine aw_iconst (pc := 29) (v := 0) C dX8_ahead_29 rfl ?_
      refine aw_cVI (pc := 30) C (c_X8_found _ 0 (by omega)) lk_X8_78 sh0 rfl dX8_ahead_30 (by decide) (Nat.le_of_ble_eq_true rfl) rfl rfl ?_
      exact aw_iretP (pc := 33) C rfl dX8_ahead_33 (pc_of (an' := .inl 0) (by rw [sAhead, if_neg (fun z => h25 (z.2))]) rfl rfl)
