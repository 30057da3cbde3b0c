/-! the class: what its calls share, of MEETS -/
theorem c_X8_isTeamSet (σ : St) (n : Nat) (hn : σ.1 0 2 = nI n) (hz : n ≤ 6) (x : Int32) : AMet Y_X8_isTeamSet [.ref 0, .int x] σ (fz (some (.int (b2i (teamOk n x)))) (σ)) := by
  refine am_intro (by decide +kernel) (Nat.le_of_ble_eq_true rfl) (fun K C => ?_)
  refine aw_iload_n (pc := 0) C 1 dX8_isTeamSet_0 rfl ?_
  refine aw_if_lt (pc := 1) C 28 dX8_isTeamSet_1 (by decide) (fun h1 => ?_) (fun h1 => ?_)
  · refine aw_iconst (pc := 28) (v := 0) C dX8_isTeamSet_28 rfl ?_
    exact aw_zret (pc := 29) C rfl rfl dX8_isTeamSet_29 (b2i_f (fun z => Int32.not_lt.mpr z.1.1 h1)).symm rfl
  · refine aw_iload_n (pc := 4) C 1 dX8_isTeamSet_4 rfl ?_
    refine aw_aload_n (pc := 5) C 0 dX8_isTeamSet_5 rfl ?_
    refine aw_getR (pc := 6) C fl_X8_16 sh0 rfl dX8_isTeamSet_6 ?_
    refine aw_gld (pc := 9) C (σ.1 0 2) fl_X8_89 (shM (by decide : 0 < 3)) rfl dX8_isTeamSet_9 rfl ?_
    refine aw_top C (nI (n)) hn ?_
    refine aw_ishr (pc := 12) C dX8_isTeamSet_12 ?_
    refine aw_if_ne (pc := 13) C 28 dX8_isTeamSet_13 (by decide) (fun h13 => ?_) (fun h13 => ?_)
    · refine aw_iconst (pc := 28) (v := 0) C dX8_isTeamSet_28 rfl ?_
      exact aw_zret (pc := 29) C rfl rfl dX8_isTeamSet_29 (b2i_f (fun z => h13 ((team_shr hz h1).mpr z.1))).symm rfl
    · have hx := (team_shr hz h1).mp h13
      refine aw_iload_n (pc := 16) C 1 dX8_isTeamSet_16 rfl ?_
      refine aw_cSI (pc := 17) C (c_J6_bitCount _ x ) lk_X8_288 dX8_isTeamSet_17 (by decide) (Nat.le_of_ble_eq_true rfl) rfl rfl ?_
      refine aw_top C (manyS x 6) (team_bc hz hx) ?_
      refine aw_iconst (pc := 20) (v := 3) C dX8_isTeamSet_20 rfl ?_
      refine aw_icmp_lt (pc := 21) C 28 dX8_isTeamSet_21 (by decide) (fun h21 => ?_) (fun h21 => ?_)
      · refine aw_iconst (pc := 28) (v := 0) C dX8_isTeamSet_28 rfl ?_
        exact aw_zret (pc := 29) C rfl rfl dX8_isTeamSet_29 (b2i_f (fun z => z.2 h21)).symm rfl
      · refine aw_iconst (pc := 24) (v := 1) C dX8_isTeamSet_24 rfl ?_
        refine aw_goto (pc := 25) C 29 dX8_isTeamSet_25 (by decide) ?_
        exact aw_zret (pc := 29) C rfl rfl dX8_isTeamSet_29 (b2i_t ⟨hx, h21⟩).symm rfl
theorem c_X8_runAllHome (σ : St) (n : Nat) (hok : Ok n (σ.1 0)) : AMet Y_X8_runAllHome [.ref 0] σ (fz none (setR σ 2 (goM n (bcm (σ.1 2) (σ.1 0) n) 180))) := by
  refine am_intro (by decide +kernel) (Nat.le_of_ble_eq_true rfl) (fun K C => ?_)
  have hz := hok.1
  have hn := hok.2.1
  have hokt : Ok n (bcm (σ.1 2) (σ.1 0) n) := hok.agr Agr.bcm.sym
  refine aw_aload_n (pc := 0) C 0 dX8_runAllHome_0 rfl ?_
  refine aw_getR (pc := 1) C fl_X8_23 sh0 rfl dX8_runAllHome_1 ?_
  refine aw_aload_n (pc := 4) C 0 dX8_runAllHome_4 rfl ?_
  refine aw_getR (pc := 5) C fl_X8_16 sh0 rfl dX8_runAllHome_5 ?_
  refine aw_cV0 (pc := 8) C (c_X2_become _ 2 (by decide : 2 < 3) 0 (by decide : 0 < 3) (by decide) n hn hz) lk_X8_151 (shM (by decide : 2 < 3)) rfl dX8_runAllHome_8 (by decide) (Nat.le_of_ble_eq_true rfl) rfl rfl ?_
  refine aw_aload_n (pc := 11) C 0 dX8_runAllHome_11 rfl ?_
  refine aw_getR (pc := 12) C fl_X8_23 sh0 rfl dX8_runAllHome_12 ?_
  refine aw_sipush (pc := 15) (v := 180) C dX8_runAllHome_15 rfl ?_
  refine aw_cVI (pc := 18) C (c_X2_go _ 2 (by decide : 2 < 3) n (by simp (disch := omega) only [setR_at, setR_twice, setL_at, setL_twice, setR_2, setL_1, setR_ne, setL_ne, ne_eq, Nat.reduceEqDiff, not_false_eq_true, pk_us, pk_un]; exact hokt) 180 (by omega)) lk_X8_145 (shM (by decide : 2 < 3)) rfl dX8_runAllHome_18 (by decide) (Nat.le_of_ble_eq_true rfl) rfl rfl ?_
  refine aw_conv (σ' := setR σ 2 (goM n (bcm (σ.1 2) (σ.1 0) n) 180)) (st' := [.int (goD n (bcm (σ.1 2) (σ.1 0) n) 180)]) (by first | with_reducible rfl | (simp (disch := omega) only [setR_at, setR_twice, setL_at, setL_twice, setR_2, setL_1, setR_ne, setL_ne, ne_eq, Nat.reduceEqDiff, not_false_eq_true, pk_us, pk_un]; done) | (simp (disch := omega) only [setR_at, setR_twice, setL_at, setL_twice, setR_2, setL_1, setR_ne, setL_ne, ne_eq, Nat.reduceEqDiff, not_false_eq_true, pk_us, pk_un, Option.toList_some, Option.toList_none, List.cons_append, List.nil_append]; done) | ((try simp (disch := omega) only [setR_at, setR_twice, setL_at, setL_twice, setR_2, setL_1, setR_ne, setL_ne, ne_eq, Nat.reduceEqDiff, not_false_eq_true, pk_us, pk_un]); refine Prod.ext (funext fun z => ?_) rfl; simp only [setR]; (repeat' split) <;> first | with_reducible rfl | (exfalso; omega)) | rfl) rfl (by first | with_reducible rfl | (simp (disch := omega) only [setR_at, setR_twice, setL_at, setL_twice, setR_2, setL_1, setR_ne, setL_ne, ne_eq, Nat.reduceEqDiff, not_false_eq_true, pk_us, pk_un]; done) | (simp (disch := omega) only [setR_at, setR_twice, setL_at, setL_twice, setR_2, setL_1, setR_ne, setL_ne, ne_eq, Nat.reduceEqDiff, not_false_eq_true, pk_us, pk_un, Option.toList_some, Option.toList_none, List.cons_append, List.nil_append]; done) | ((try simp (disch := omega) only [setR_at, setR_twice, setL_at, setL_twice, setR_2, setL_1, setR_ne, setL_ne, ne_eq, Nat.reduceEqDiff, not_false_eq_true, pk_us, pk_un]); refine Prod.ext (funext fun z => ?_) rfl; simp only [setR]; (repeat' split) <;> first | with_reducible rfl | (exfalso; omega)) | rfl) ?_
  refine aw_pop (pc := 21) C dX8_runAllHome_21 rfl ?_
  exact aw_vret (pc := 22) C rfl dX8_runAllHome_22 rfl
theorem c_X8_tryGum (σ : St) (n : Nat) (hok : Ok n (σ.1 0)) (r : Nat) (hr : r < n) : AMet Y_X8_tryGum [.ref 0, .int (nI r)] σ (fz none (setR σ 2 (upd (bcm (σ.1 2) (σ.1 0) n) (33 + 37 * r + 0) 5))) := by
  refine am_intro (by decide +kernel) (Nat.le_of_ble_eq_true rfl) (fun K C => ?_)
  have hz := hok.1
  have hn := hok.2.1
  refine aw_aload_n (pc := 0) C 0 dX8_tryGum_0 rfl ?_
  refine aw_getR (pc := 1) C fl_X8_23 sh0 rfl dX8_tryGum_1 ?_
  refine aw_aload_n (pc := 4) C 0 dX8_tryGum_4 rfl ?_
  refine aw_getR (pc := 5) C fl_X8_16 sh0 rfl dX8_tryGum_5 ?_
  refine aw_cV0 (pc := 8) C (c_X2_become _ 2 (by decide : 2 < 3) 0 (by decide : 0 < 3) (by decide) n hn hz) lk_X8_151 (shM (by decide : 2 < 3)) rfl dX8_tryGum_8 (by decide) (Nat.le_of_ble_eq_true rfl) rfl rfl ?_
  refine aw_aload_n (pc := 11) C 0 dX8_tryGum_11 rfl ?_
  refine aw_getR (pc := 12) C fl_X8_23 sh0 rfl dX8_tryGum_12 ?_
  refine aw_getR (pc := 15) C fl_X8_99 (shM (by decide : 2 < 3)) rfl dX8_tryGum_15 ?_
  refine aw_iload_n (pc := 18) C 1 dX8_tryGum_18 rfl ?_
  refine aw_aald (pc := 19) (k := r) C (shRs (by decide : 2 < 3)) dX8_tryGum_19 rfl (by omega) ?_
  refine aw_iconst (pc := 20) (v := 5) C dX8_tryGum_20 rfl ?_
  refine aw_pst (pc := 21) C (setR σ 2 (upd (bcm (σ.1 2) (σ.1 0) n) (33 + 37 * r + 0) (5))) fp_X8_300 (shR (by decide : 2 < 3) (by omega)) rfl dX8_tryGum_21 (by first | with_reducible rfl | (simp (disch := omega) only [setR_at, setR_twice, setL_at, setL_twice, setR_2, setL_1, setR_ne, setL_ne, ne_eq, Nat.reduceEqDiff, not_false_eq_true, pk_us, pk_un]; done) | (simp (disch := omega) only [setR_at, setR_twice, setL_at, setL_twice, setR_2, setL_1, setR_ne, setL_ne, ne_eq, Nat.reduceEqDiff, not_false_eq_true, pk_us, pk_un, Option.toList_some, Option.toList_none, List.cons_append, List.nil_append]; done) | ((try simp (disch := omega) only [setR_at, setR_twice, setL_at, setL_twice, setR_2, setL_1, setR_ne, setL_ne, ne_eq, Nat.reduceEqDiff, not_false_eq_true, pk_us, pk_un]); refine Prod.ext (funext fun z => ?_) rfl; simp only [setR]; (repeat' split) <;> first | with_reducible rfl | (exfalso; omega)) | rfl) ?_
  exact aw_vret (pc := 24) C rfl dX8_tryGum_24 rfl
theorem c_X8_wholeMean (σ : St) (j : Nat) (hj : j < 3) (n : Nat) (hok : Ok n (σ.1 j)) (r : Nat) (hr : r < n) : AMet Y_X8_wholeMean [.ref 0, .ref (25 + 16 * j), .int (nI r)] σ (ApO σ (meanS (σ.1 j) r)) := by
  refine am_intro (by decide +kernel) (Nat.le_of_ble_eq_true rfl) (fun K C => ?_)
  have hz := hok.1
  have hn := hok.2.1
  refine aw_aload_n (pc := 0) C 0 dX8_wholeMean_0 rfl ?_
  refine aw_getR (pc := 1) C fl_X8_29 sh0 rfl dX8_wholeMean_1 ?_
  refine aw_aload_n (pc := 4) C 1 dX8_wholeMean_4 rfl ?_
  refine aw_iload_n (pc := 5) C 2 dX8_wholeMean_5 rfl ?_
  refine aw_iconst (pc := 6) (v := 0) C dX8_wholeMean_6 rfl ?_
  refine aw_bipush (pc := 7) (v := 30) C dX8_wholeMean_7 rfl ?_
  refine aw_iconst (pc := 9) (v := 0) C dX8_wholeMean_9 rfl ?_
  refine aw_callV (pc := 10) C (c_X1_atPaces _  j hj n hok r 0 30 0 (by omega) (by omega) (by omega) (by omega)) lk_X8_180 sh2 rfl (by decide) rfl (Nat.le_of_ble_eq_true rfl) dX8_wholeMean_10 rfl (fun w s hq => ?_)
  obtain ⟨f10, g10, rfl, rfl⟩ := hq
  refine aw_conv (σ' := setR (setR σ 5 (f10)) 6 (g10)) (st' := [.int (mRow false (σ.1 j) r 30 0 0)]) (by first | with_reducible rfl | (simp (disch := omega) only [setR_at, setR_twice, setL_at, setL_twice, setR_2, setL_1, setR_ne, setL_ne, ne_eq, Nat.reduceEqDiff, not_false_eq_true, pk_us, pk_un]; done) | (simp (disch := omega) only [setR_at, setR_twice, setL_at, setL_twice, setR_2, setL_1, setR_ne, setL_ne, ne_eq, Nat.reduceEqDiff, not_false_eq_true, pk_us, pk_un, Option.toList_some, Option.toList_none, List.cons_append, List.nil_append]; done) | ((try simp (disch := omega) only [setR_at, setR_twice, setL_at, setL_twice, setR_2, setL_1, setR_ne, setL_ne, ne_eq, Nat.reduceEqDiff, not_false_eq_true, pk_us, pk_un]); refine Prod.ext (funext fun z => ?_) rfl; simp only [setR]; (repeat' split) <;> first | with_reducible rfl | (exfalso; omega)) | rfl) rfl (by first | with_reducible rfl | (simp (disch := omega) only [setR_at, setR_twice, setL_at, setL_twice, setR_2, setL_1, setR_ne, setL_ne, ne_eq, Nat.reduceEqDiff, not_false_eq_true, pk_us, pk_un]; done) | (simp (disch := omega) only [setR_at, setR_twice, setL_at, setL_twice, setR_2, setL_1, setR_ne, setL_ne, ne_eq, Nat.reduceEqDiff, not_false_eq_true, pk_us, pk_un, Option.toList_some, Option.toList_none, List.cons_append, List.nil_append]; done) | ((try simp (disch := omega) only [setR_at, setR_twice, setL_at, setL_twice, setR_2, setL_1, setR_ne, setL_ne, ne_eq, Nat.reduceEqDiff, not_false_eq_true, pk_us, pk_un]); refine Prod.ext (funext fun z => ?_) rfl; simp only [setR]; (repeat' split) <;> first | with_reducible rfl | (exfalso; omega)) | rfl) ?_
  exact aw_iretP (pc := 13) C rfl dX8_wholeMean_13 ⟨f10, g10, rfl, rfl⟩
