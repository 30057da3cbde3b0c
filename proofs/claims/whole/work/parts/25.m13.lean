/-! the reference: calls of means -/
theorem c_X9_meanOf (σ : St) (r : Nat) (hr : r < 6) : AMet Y_X9_meanOf [.ref 73, .int (nI r)] σ (MeanO σ r) := by
  refine am_intro (by decide +kernel) (Nat.le_of_ble_eq_true rfl) (fun K C => ?_)
  refine aw_aload_n (pc := 0) C 0 dX9_meanOf_0 rfl ?_
  refine aw_iload_n (pc := 1) C 1 dX9_meanOf_1 rfl ?_
  refine aw_bipush (pc := 2) (v := 30) C dX9_meanOf_2 rfl ?_
  refine aw_iconst (pc := 4) (v := 0) C dX9_meanOf_4 rfl ?_
  refine aw_callV (pc := 5) C (c_X9_means_false _ r 30 (by omega) (by omega)) lk_X9_196 sh73 rfl (by decide) rfl (Nat.le_of_ble_eq_true rfl) dX9_meanOf_5 rfl (fun w s hq => ?_)
  obtain ⟨f5, g5, hm5, rfl, rfl⟩ := hq
  refine aw_conv (σ' := setR (setR σ 25 (f5)) 26 (g5)) (st' := []) (by first | rfl | (simp (disch := omega) only [setR_at, setR_twice, setL_at, setL_twice, setR_2, setL_1, setR_ne, setL_ne, ne_eq, Nat.reduceEqDiff, not_false_eq_true, pk_us, pk_un]; done) | ((try simp (disch := omega) only [setR_at, setR_twice, setL_at, setL_twice, setR_2, setL_1, setR_ne, setL_ne, ne_eq, Nat.reduceEqDiff, not_false_eq_true, pk_us, pk_un]); refine Prod.ext (funext fun z => ?_) rfl; simp only [setR]; (repeat' split) <;> first | rfl | (exfalso; omega))) rfl (by first | rfl | (simp (disch := omega) only [setR_at, setR_twice, setL_at, setL_twice, setR_2, setL_1, setR_ne, setL_ne, ne_eq, Nat.reduceEqDiff, not_false_eq_true, pk_us, pk_un]; done) | ((try simp (disch := omega) only [setR_at, setR_twice, setL_at, setL_twice, setR_2, setL_1, setR_ne, setL_ne, ne_eq, Nat.reduceEqDiff, not_false_eq_true, pk_us, pk_un]); refine Prod.ext (funext fun z => ?_) rfl; simp only [setR]; (repeat' split) <;> first | rfl | (exfalso; omega))) ?_
  refine aw_aload_n (pc := 8) C 0 dX9_meanOf_8 rfl ?_
  refine aw_getR (pc := 9) C fl_X9_22 sh73 rfl dX9_meanOf_9 ?_
  refine aw_iconst (pc := 12) (v := 0) C dX9_meanOf_12 rfl ?_
  refine aw_ild (pc := 13) (k := 0) C (0) (f5 0) sh78 dX9_meanOf_13 rfl (by omega) rfl (by first | rfl | (simp (disch := omega) only [setR_at, setR_twice, setL_at, setL_twice, setR_2, setL_1, setR_ne, setL_ne, ne_eq, Nat.reduceEqDiff, not_false_eq_true, pk_us, pk_un]; done) | ((try simp (disch := omega) only [setR_at, setR_twice, setL_at, setL_twice, setR_2, setL_1, setR_ne, setL_ne, ne_eq, Nat.reduceEqDiff, not_false_eq_true, pk_us, pk_un]); refine Prod.ext (funext fun z => ?_) rfl; simp only [setR]; (repeat' split) <;> first | rfl | (exfalso; omega))) ?_
  refine aw_top C (meanS (σ.1 20) r) (hm5.1 0 (by omega) (by omega) 0 (by omega)) ?_
  exact aw_iretP (pc := 14) C rfl dX9_meanOf_14 ⟨f5, g5, rfl, rfl⟩
theorem c_X9_isMean (σ : St) (n : Nat) (hn : σ.1 20 2 = nI n) (hz : n ≤ 6) (r y s m : Int32) : AMet Y_X9_isMean [.ref 73, .int r, .int y, .int s, .int m] σ (fz (some (.int (b2i (meanP n r y s m)))) (σ)) := by
  refine am_intro (by decide +kernel) (Nat.le_of_ble_eq_true rfl) (fun K C => ?_)
  refine aw_aload_n (pc := 0) C 0 dX9_isMean_0 rfl ?_
  refine aw_iload_n (pc := 1) C 1 dX9_isMean_1 rfl ?_
  refine aw_cVI (pc := 2) C (c_X9_isRunner _ n hn hz r ) lk_X9_91 sh73 rfl dX9_isMean_2 (by decide) (Nat.le_of_ble_eq_true rfl) rfl rfl ?_
  refine aw_if_eqB (pc := 5) C 36 dX9_isMean_5 (by decide) (fun h5 => ?_) (fun h5 => ?_)
  · refine aw_iconst (pc := 36) (v := 0) C dX9_isMean_36 rfl ?_
    exact aw_zret (pc := 37) C rfl rfl dX9_isMean_37 (b2i_f (fun z => h5 z.1)).symm rfl
  · refine aw_iload_n (pc := 8) C 2 dX9_isMean_8 rfl ?_
    refine aw_i2l (pc := 9) C dX9_isMean_9 ?_
    refine aw_lconst (pc := 10) (v := 0) C dX9_isMean_10 rfl ?_
    refine aw_iload (pc := 11) C 4 dX9_isMean_11 rfl ?_
    refine aw_i2l (pc := 13) C dX9_isMean_13 ?_
    refine aw_cSI (pc := 14) C (c_X9_in _ y 0 m _ _ _ rfl (by decide) rfl) lk_X9_54 dX9_isMean_14 (by decide) (Nat.le_of_ble_eq_true rfl) rfl rfl ?_
    refine aw_if_eqB (pc := 17) C 36 dX9_isMean_17 (by decide) (fun h17 => ?_) (fun h17 => ?_)
    · refine aw_iconst (pc := 36) (v := 0) C dX9_isMean_36 rfl ?_
      exact aw_zret (pc := 37) C rfl rfl dX9_isMean_37 (b2i_f (fun z => h17 z.2.1)).symm rfl
    · refine aw_iload_n (pc := 20) C 3 dX9_isMean_20 rfl ?_
      refine aw_i2l (pc := 21) C dX9_isMean_21 ?_
      refine aw_lconst (pc := 22) (v := 0) C dX9_isMean_22 rfl ?_
      refine aw_ldc2 (pc := 23) C dX9_isMean_23 kc_X9_101 ?_
      refine aw_cSI (pc := 26) C (c_X9_in _ s 0 3 _ _ _ rfl (by decide) (by decide)) lk_X9_54 dX9_isMean_26 (by decide) (Nat.le_of_ble_eq_true rfl) rfl rfl ?_
      refine aw_if_eqB (pc := 29) C 36 dX9_isMean_29 (by decide) (fun h29 => ?_) (fun h29 => ?_)
      · refine aw_iconst (pc := 36) (v := 0) C dX9_isMean_36 rfl ?_
        exact aw_zret (pc := 37) C rfl rfl dX9_isMean_37 (b2i_f (fun z => h29 z.2.2)).symm rfl
      · refine aw_iconst (pc := 32) (v := 1) C dX9_isMean_32 rfl ?_
        refine aw_goto (pc := 33) C 37 dX9_isMean_33 (by decide) ?_
        exact aw_zret (pc := 37) C rfl rfl dX9_isMean_37 (b2i_t ⟨h5, h17, h29⟩).symm rfl
theorem c_X9_mean (σ : St) (n : Nat) (hn : σ.1 20 2 = nI n) (hz : n ≤ 6) (r y s : Int32) : AMet Y_X9_mean [.ref 73, .int r, .int y, .int s] σ (PM σ (sMean (σ.1 20) n r y s)) := by
  refine am_intro (by decide +kernel) (Nat.le_of_ble_eq_true rfl) (fun K C => ?_)
  refine aw_aload_n (pc := 0) C 0 dX9_mean_0 rfl ?_
  refine aw_iload_n (pc := 1) C 1 dX9_mean_1 rfl ?_
  refine aw_iload_n (pc := 2) C 2 dX9_mean_2 rfl ?_
  refine aw_iload_n (pc := 3) C 3 dX9_mean_3 rfl ?_
  refine aw_bipush (pc := 4) (v := 30) C dX9_mean_4 rfl ?_
  refine aw_cVI (pc := 6) C (c_X9_isMean _ n hn hz r y s 30 ) lk_X9_200 sh73 rfl dX9_mean_6 (by decide) (Nat.le_of_ble_eq_true rfl) rfl rfl ?_
  refine aw_if_neB (pc := 9) C 19 dX9_mean_9 (by decide) (fun h9 => ?_) (fun h9 => ?_)
  · obtain ⟨rr, rfl, hrr⟩ := rgR h9.1 hz
    obtain ⟨yy, rfl, hyy0, hyy⟩ := rg 0 30 h9.2.1 (by omega) (by omega)
    obtain ⟨ss, rfl, hss0, hss⟩ := rg 0 3 h9.2.2 (by omega) (by omega)
    refine aw_aload_n (pc := 19) C 0 dX9_mean_19 rfl ?_
    refine aw_iload_n (pc := 20) C 1 dX9_mean_20 rfl ?_
    refine aw_bipush (pc := 21) (v := 30) C dX9_mean_21 rfl ?_
    refine aw_iconst (pc := 23) (v := 0) C dX9_mean_23 rfl ?_
    refine aw_callV (pc := 24) C (c_X9_means_false _ rr 30 (by omega) (by omega)) lk_X9_196 sh73 rfl (by decide) rfl (Nat.le_of_ble_eq_true rfl) dX9_mean_24 rfl (fun w s hq => ?_)
    obtain ⟨f24, g24, hm24, rfl, rfl⟩ := hq
    refine aw_conv (σ' := setR (setR σ 25 (f24)) 26 (g24)) (st' := []) (by first | rfl | (simp (disch := omega) only [setR_at, setR_twice, setL_at, setL_twice, setR_2, setL_1, setR_ne, setL_ne, ne_eq, Nat.reduceEqDiff, not_false_eq_true, pk_us, pk_un]; done) | ((try simp (disch := omega) only [setR_at, setR_twice, setL_at, setL_twice, setR_2, setL_1, setR_ne, setL_ne, ne_eq, Nat.reduceEqDiff, not_false_eq_true, pk_us, pk_un]); refine Prod.ext (funext fun z => ?_) rfl; simp only [setR]; (repeat' split) <;> first | rfl | (exfalso; omega))) rfl (by first | rfl | (simp (disch := omega) only [setR_at, setR_twice, setL_at, setL_twice, setR_2, setL_1, setR_ne, setL_ne, ne_eq, Nat.reduceEqDiff, not_false_eq_true, pk_us, pk_un]; done) | ((try simp (disch := omega) only [setR_at, setR_twice, setL_at, setL_twice, setR_2, setL_1, setR_ne, setL_ne, ne_eq, Nat.reduceEqDiff, not_false_eq_true, pk_us, pk_un]); refine Prod.ext (funext fun z => ?_) rfl; simp only [setR]; (repeat' split) <;> first | rfl | (exfalso; omega))) ?_
    refine aw_aload_n (pc := 27) C 0 dX9_mean_27 rfl ?_
    refine aw_getR (pc := 28) C fl_X9_22 sh73 rfl dX9_mean_28 ?_
    refine aw_iconst (pc := 31) (v := 4) C dX9_mean_31 rfl ?_
    refine aw_iload_n (pc := 32) C 2 dX9_mean_32 rfl ?_
    refine aw_imulN (pc := 33) C 4 yy rfl rfl dX9_mean_33 ?_
    refine aw_iload_n (pc := 34) C 3 dX9_mean_34 rfl ?_
    refine aw_iaddN (pc := 35) C (4 * yy) ss rfl rfl dX9_mean_35 ?_
    refine aw_ild (pc := 36) (k := (4 * yy) + ss) C ((4 * yy) + ss) (f24 ((4 * yy) + ss)) sh78 dX9_mean_36 rfl (by omega) rfl (by first | rfl | (simp (disch := omega) only [setR_at, setR_twice, setL_at, setL_twice, setR_2, setL_1, setR_ne, setL_ne, ne_eq, Nat.reduceEqDiff, not_false_eq_true, pk_us, pk_un]; done) | ((try simp (disch := omega) only [setR_at, setR_twice, setL_at, setL_twice, setR_2, setL_1, setR_ne, setL_ne, ne_eq, Nat.reduceEqDiff, not_false_eq_true, pk_us, pk_un]); refine Prod.ext (funext fun z => ?_) rfl; simp only [setR]; (repeat' split) <;> first | rfl | (exfalso; omega))) ?_
    refine aw_top C (mRow false (σ.1 20) rr 30 yy ss) (hm24.1 yy (by omega) (by omega) ss (by omega)) ?_
    exact aw_iretP (pc := 37) C rfl dX9_mean_37 (pm_scr (an' := .inr (mRow false (σ.1 20) rr 30 yy ss, σ.1 20)) (by rw [sMean, if_pos h9, cl_nI (show rr < 2147483648 by omega), cl_nI (show yy < 2147483648 by omega), cl_nI (show ss < 2147483648 by omega)]) rfl (fun r hr => by simp only [anS, setR]; (repeat' split) <;> first | rfl | (subst_vars; first | rfl | exact absurd (by decide) hr)) rfl)
  · refine aw_aload_n (pc := 12) C 0 dX9_mean_12 rfl ?_
    refine aw_ldc (pc := 13) C dX9_mean_13 kc_X9_46 ?_
    refine aw_cVI (pc := 15) C (c_X9_finds _ (-100000001) 0 (by decide) (by decide)) lk_X9_48 sh73 rfl dX9_mean_15 (by decide) (Nat.le_of_ble_eq_true rfl) rfl rfl ?_
    exact aw_iretP (pc := 18) C rfl dX9_mean_18 (pm_of (an' := .inl 0) (by rw [sMean, if_neg (fun z => h9 (z))]) rfl rfl)
theorem c_X9_least (σ : St) (n : Nat) (hn : σ.1 20 2 = nI n) (hz : n ≤ 6) (r y s : Int32) : AMet Y_X9_least [.ref 73, .int r, .int y, .int s] σ (PM σ (sLeast (σ.1 20) n r y s)) := by
  refine am_intro (by decide +kernel) (Nat.le_of_ble_eq_true rfl) (fun K C => ?_)
  refine aw_aload_n (pc := 0) C 0 dX9_least_0 rfl ?_
  refine aw_iload_n (pc := 1) C 1 dX9_least_1 rfl ?_
  refine aw_iload_n (pc := 2) C 2 dX9_least_2 rfl ?_
  refine aw_iload_n (pc := 3) C 3 dX9_least_3 rfl ?_
  refine aw_bipush (pc := 4) (v := 30) C dX9_least_4 rfl ?_
  refine aw_cVI (pc := 6) C (c_X9_isMean _ n hn hz r y s 30 ) lk_X9_200 sh73 rfl dX9_least_6 (by decide) (Nat.le_of_ble_eq_true rfl) rfl rfl ?_
  refine aw_if_neB (pc := 9) C 19 dX9_least_9 (by decide) (fun h9 => ?_) (fun h9 => ?_)
  · obtain ⟨rr, rfl, hrr⟩ := rgR h9.1 hz
    obtain ⟨yy, rfl, hyy0, hyy⟩ := rg 0 30 h9.2.1 (by omega) (by omega)
    obtain ⟨ss, rfl, hss0, hss⟩ := rg 0 3 h9.2.2 (by omega) (by omega)
    refine aw_aload_n (pc := 19) C 0 dX9_least_19 rfl ?_
    refine aw_iload_n (pc := 20) C 1 dX9_least_20 rfl ?_
    refine aw_bipush (pc := 21) (v := 30) C dX9_least_21 rfl ?_
    refine aw_iconst (pc := 23) (v := 1) C dX9_least_23 rfl ?_
    refine aw_callV (pc := 24) C (c_X9_means_true _ rr 30 (by omega) (by omega)) lk_X9_196 sh73 rfl (by decide) rfl (Nat.le_of_ble_eq_true rfl) dX9_least_24 rfl (fun w s hq => ?_)
    obtain ⟨f24, g24, hm24, rfl, rfl⟩ := hq
    refine aw_conv (σ' := setR (setR σ 25 (f24)) 26 (g24)) (st' := []) (by first | rfl | (simp (disch := omega) only [setR_at, setR_twice, setL_at, setL_twice, setR_2, setL_1, setR_ne, setL_ne, ne_eq, Nat.reduceEqDiff, not_false_eq_true, pk_us, pk_un]; done) | ((try simp (disch := omega) only [setR_at, setR_twice, setL_at, setL_twice, setR_2, setL_1, setR_ne, setL_ne, ne_eq, Nat.reduceEqDiff, not_false_eq_true, pk_us, pk_un]); refine Prod.ext (funext fun z => ?_) rfl; simp only [setR]; (repeat' split) <;> first | rfl | (exfalso; omega))) rfl (by first | rfl | (simp (disch := omega) only [setR_at, setR_twice, setL_at, setL_twice, setR_2, setL_1, setR_ne, setL_ne, ne_eq, Nat.reduceEqDiff, not_false_eq_true, pk_us, pk_un]; done) | ((try simp (disch := omega) only [setR_at, setR_twice, setL_at, setL_twice, setR_2, setL_1, setR_ne, setL_ne, ne_eq, Nat.reduceEqDiff, not_false_eq_true, pk_us, pk_un]); refine Prod.ext (funext fun z => ?_) rfl; simp only [setR]; (repeat' split) <;> first | rfl | (exfalso; omega))) ?_
    refine aw_aload_n (pc := 27) C 0 dX9_least_27 rfl ?_
    refine aw_getR (pc := 28) C fl_X9_22 sh73 rfl dX9_least_28 ?_
    refine aw_iconst (pc := 31) (v := 4) C dX9_least_31 rfl ?_
    refine aw_iload_n (pc := 32) C 2 dX9_least_32 rfl ?_
    refine aw_imulN (pc := 33) C 4 yy rfl rfl dX9_least_33 ?_
    refine aw_iload_n (pc := 34) C 3 dX9_least_34 rfl ?_
    refine aw_iaddN (pc := 35) C (4 * yy) ss rfl rfl dX9_least_35 ?_
    refine aw_ild (pc := 36) (k := (4 * yy) + ss) C ((4 * yy) + ss) (f24 ((4 * yy) + ss)) sh78 dX9_least_36 rfl (by omega) rfl (by first | rfl | (simp (disch := omega) only [setR_at, setR_twice, setL_at, setL_twice, setR_2, setL_1, setR_ne, setL_ne, ne_eq, Nat.reduceEqDiff, not_false_eq_true, pk_us, pk_un]; done) | ((try simp (disch := omega) only [setR_at, setR_twice, setL_at, setL_twice, setR_2, setL_1, setR_ne, setL_ne, ne_eq, Nat.reduceEqDiff, not_false_eq_true, pk_us, pk_un]); refine Prod.ext (funext fun z => ?_) rfl; simp only [setR]; (repeat' split) <;> first | rfl | (exfalso; omega))) ?_
    refine aw_top C (mRow true (σ.1 20) rr 30 yy ss) (hm24.1 yy (by omega) (by omega) ss (by omega)) ?_
    exact aw_iretP (pc := 37) C rfl dX9_least_37 (pm_scr (an' := .inr (mRow true (σ.1 20) rr 30 yy ss, σ.1 20)) (by rw [sLeast, if_pos h9, cl_nI (show rr < 2147483648 by omega), cl_nI (show yy < 2147483648 by omega), cl_nI (show ss < 2147483648 by omega)]) rfl (fun r hr => by simp only [anS, setR]; (repeat' split) <;> first | rfl | (subst_vars; first | rfl | exact absurd (by decide) hr)) rfl)
  · refine aw_aload_n (pc := 12) C 0 dX9_least_12 rfl ?_
    refine aw_ldc (pc := 13) C dX9_least_13 kc_X9_46 ?_
    refine aw_cVI (pc := 15) C (c_X9_finds _ (-100000001) 0 (by decide) (by decide)) lk_X9_48 sh73 rfl dX9_least_15 (by decide) (Nat.le_of_ble_eq_true rfl) rfl rfl ?_
    exact aw_iretP (pc := 18) C rfl dX9_least_18 (pm_of (an' := .inl 0) (by rw [sLeast, if_neg (fun z => h9 (z))]) rfl rfl)
theorem c_X9_best (σ : St) (n : Nat) (hn : σ.1 20 2 = nI n) (hz : n ≤ 6) (r y s : Int32) : AMet Y_X9_best [.ref 73, .int r, .int y, .int s] σ (PM σ (sBest (σ.1 20) n r y s)) := by
  refine am_intro (by decide +kernel) (Nat.le_of_ble_eq_true rfl) (fun K C => ?_)
  refine aw_aload_n (pc := 0) C 0 dX9_best_0 rfl ?_
  refine aw_iload_n (pc := 1) C 1 dX9_best_1 rfl ?_
  refine aw_iload_n (pc := 2) C 2 dX9_best_2 rfl ?_
  refine aw_iload_n (pc := 3) C 3 dX9_best_3 rfl ?_
  refine aw_bipush (pc := 4) (v := 29) C dX9_best_4 rfl ?_
  refine aw_cVI (pc := 6) C (c_X9_isMean _ n hn hz r y s 29 ) lk_X9_200 sh73 rfl dX9_best_6 (by decide) (Nat.le_of_ble_eq_true rfl) rfl rfl ?_
  refine aw_if_neB (pc := 9) C 19 dX9_best_9 (by decide) (fun h9 => ?_) (fun h9 => ?_)
  · obtain ⟨rr, rfl, hrr⟩ := rgR h9.1 hz
    obtain ⟨yy, rfl, hyy0, hyy⟩ := rg 0 29 h9.2.1 (by omega) (by omega)
    obtain ⟨ss, rfl, hss0, hss⟩ := rg 0 3 h9.2.2 (by omega) (by omega)
    refine aw_aload_n (pc := 19) C 0 dX9_best_19 rfl ?_
    refine aw_iload_n (pc := 20) C 1 dX9_best_20 rfl ?_
    refine aw_bipush (pc := 21) (v := 30) C dX9_best_21 rfl ?_
    refine aw_iconst (pc := 23) (v := 1) C dX9_best_23 rfl ?_
    refine aw_callV (pc := 24) C (c_X9_means_true _ rr 30 (by omega) (by omega)) lk_X9_196 sh73 rfl (by decide) rfl (Nat.le_of_ble_eq_true rfl) dX9_best_24 rfl (fun w s hq => ?_)
    obtain ⟨f24, g24, hm24, rfl, rfl⟩ := hq
    refine aw_conv (σ' := setR (setR σ 25 (f24)) 26 (g24)) (st' := []) (by first | rfl | (simp (disch := omega) only [setR_at, setR_twice, setL_at, setL_twice, setR_2, setL_1, setR_ne, setL_ne, ne_eq, Nat.reduceEqDiff, not_false_eq_true, pk_us, pk_un]; done) | ((try simp (disch := omega) only [setR_at, setR_twice, setL_at, setL_twice, setR_2, setL_1, setR_ne, setL_ne, ne_eq, Nat.reduceEqDiff, not_false_eq_true, pk_us, pk_un]); refine Prod.ext (funext fun z => ?_) rfl; simp only [setR]; (repeat' split) <;> first | rfl | (exfalso; omega))) rfl (by first | rfl | (simp (disch := omega) only [setR_at, setR_twice, setL_at, setL_twice, setR_2, setL_1, setR_ne, setL_ne, ne_eq, Nat.reduceEqDiff, not_false_eq_true, pk_us, pk_un]; done) | ((try simp (disch := omega) only [setR_at, setR_twice, setL_at, setL_twice, setR_2, setL_1, setR_ne, setL_ne, ne_eq, Nat.reduceEqDiff, not_false_eq_true, pk_us, pk_un]); refine Prod.ext (funext fun z => ?_) rfl; simp only [setR]; (repeat' split) <;> first | rfl | (exfalso; omega))) ?_
    refine aw_aload_n (pc := 27) C 0 dX9_best_27 rfl ?_
    refine aw_getR (pc := 28) C fl_X9_25 sh73 rfl dX9_best_28 ?_
    refine aw_iconst (pc := 31) (v := 4) C dX9_best_31 rfl ?_
    refine aw_iload_n (pc := 32) C 2 dX9_best_32 rfl ?_
    refine aw_imulN (pc := 33) C 4 yy rfl rfl dX9_best_33 ?_
    refine aw_iload_n (pc := 34) C 3 dX9_best_34 rfl ?_
    refine aw_iaddN (pc := 35) C (4 * yy) ss rfl rfl dX9_best_35 ?_
    refine aw_ild (pc := 36) (k := (4 * yy) + ss) C ((4 * yy) + ss) (g24 ((4 * yy) + ss)) sh79 dX9_best_36 rfl (by omega) rfl (by first | rfl | (simp (disch := omega) only [setR_at, setR_twice, setL_at, setL_twice, setR_2, setL_1, setR_ne, setL_ne, ne_eq, Nat.reduceEqDiff, not_false_eq_true, pk_us, pk_un]; done) | ((try simp (disch := omega) only [setR_at, setR_twice, setL_at, setL_twice, setR_2, setL_1, setR_ne, setL_ne, ne_eq, Nat.reduceEqDiff, not_false_eq_true, pk_us, pk_un]); refine Prod.ext (funext fun z => ?_) rfl; simp only [setR]; (repeat' split) <;> first | rfl | (exfalso; omega))) ?_
    refine aw_top C (mPc true (σ.1 20) rr 30 yy ss) (hm24.2 yy (by omega) (by omega) ss (by omega)) ?_
    exact aw_iretP (pc := 37) C rfl dX9_best_37 (pm_scr (an' := .inr (mPc true (σ.1 20) rr 30 yy ss, σ.1 20)) (by rw [sBest, if_pos h9, cl_nI (show rr < 2147483648 by omega), cl_nI (show yy < 2147483648 by omega), cl_nI (show ss < 2147483648 by omega)]) rfl (fun r hr => by simp only [anS, setR]; (repeat' split) <;> first | rfl | (subst_vars; first | rfl | exact absurd (by decide) hr)) rfl)
  · refine aw_aload_n (pc := 12) C 0 dX9_best_12 rfl ?_
    refine aw_ldc (pc := 13) C dX9_best_13 kc_X9_46 ?_
    refine aw_cVI (pc := 15) C (c_X9_finds _ (-100000001) 0 (by decide) (by decide)) lk_X9_48 sh73 rfl dX9_best_15 (by decide) (Nat.le_of_ble_eq_true rfl) rfl rfl ?_
    exact aw_iretP (pc := 18) C rfl dX9_best_18 (pm_of (an' := .inl 0) (by rw [sBest, if_neg (fun z => h9 (z))]) rfl rfl)
theorem c_X9_train (σ : St) (n : Nat) (hn : σ.1 20 2 = nI n) (hz : n ≤ 6) (r : Int32) : AMet Y_X9_train [.ref 73, .int r] σ (PM σ (sTrain (σ.1 20) n r)) := by
  refine am_intro (by decide +kernel) (Nat.le_of_ble_eq_true rfl) (fun K C => ?_)
  refine aw_aload_n (pc := 0) C 0 dX9_train_0 rfl ?_
  refine aw_iload_n (pc := 1) C 1 dX9_train_1 rfl ?_
  refine aw_cVI (pc := 2) C (c_X9_isRunner _ n hn hz r ) lk_X9_91 sh73 rfl dX9_train_2 (by decide) (Nat.le_of_ble_eq_true rfl) rfl rfl ?_
  refine aw_if_neB (pc := 5) C 15 dX9_train_5 (by decide) (fun h5 => ?_) (fun h5 => ?_)
  · obtain ⟨rr, rfl, hrr⟩ := rgR h5 hz
    refine aw_aload_n (pc := 15) C 0 dX9_train_15 rfl ?_
    refine aw_iload_n (pc := 16) C 1 dX9_train_16 rfl ?_
    refine aw_bipush (pc := 17) (v := 30) C dX9_train_17 rfl ?_
    refine aw_iconst (pc := 19) (v := 1) C dX9_train_19 rfl ?_
    refine aw_callV (pc := 20) C (c_X9_means_true _ rr 30 (by omega) (by omega)) lk_X9_196 sh73 rfl (by decide) rfl (Nat.le_of_ble_eq_true rfl) dX9_train_20 rfl (fun w s hq => ?_)
    obtain ⟨f20, g20, hm20, rfl, rfl⟩ := hq
    refine aw_conv (σ' := setR (setR σ 25 (f20)) 26 (g20)) (st' := []) (by first | rfl | (simp (disch := omega) only [setR_at, setR_twice, setL_at, setL_twice, setR_2, setL_1, setR_ne, setL_ne, ne_eq, Nat.reduceEqDiff, not_false_eq_true, pk_us, pk_un]; done) | ((try simp (disch := omega) only [setR_at, setR_twice, setL_at, setL_twice, setR_2, setL_1, setR_ne, setL_ne, ne_eq, Nat.reduceEqDiff, not_false_eq_true, pk_us, pk_un]); refine Prod.ext (funext fun z => ?_) rfl; simp only [setR]; (repeat' split) <;> first | rfl | (exfalso; omega))) rfl (by first | rfl | (simp (disch := omega) only [setR_at, setR_twice, setL_at, setL_twice, setR_2, setL_1, setR_ne, setL_ne, ne_eq, Nat.reduceEqDiff, not_false_eq_true, pk_us, pk_un]; done) | ((try simp (disch := omega) only [setR_at, setR_twice, setL_at, setL_twice, setR_2, setL_1, setR_ne, setL_ne, ne_eq, Nat.reduceEqDiff, not_false_eq_true, pk_us, pk_un]); refine Prod.ext (funext fun z => ?_) rfl; simp only [setR]; (repeat' split) <;> first | rfl | (exfalso; omega))) ?_
    refine aw_iconst (pc := 23) (v := 0) C dX9_train_23 rfl ?_
    refine aw_istore_n (pc := 24) C [(2, .int 0), (0, .ref 73), (1, .int (nI rr))] dX9_train_24 (Nat.le_of_ble_eq_true rfl) rfl ?_
    refine aw_iconst (pc := 25) (v := 0) C dX9_train_25 rfl ?_
    refine aw_istore_n (pc := 26) C [(3, .int 0), (2, .int 0), (0, .ref 73), (1, .int (nI rr))] dX9_train_26 (Nat.le_of_ble_eq_true rfl) rfl ?_
    refine aw_lvs C [0, 1, 2, 3] [(3, .int 0), (2, .int 0), (0, .ref 73), (1, .int (nI rr))] rfl ?_
    refine aw_conv (σ' := setR (setR (setR σ 25 (f20)) 26 (g20)) 20 (trainM (σ.1 20) rr 0)) (lv' := [(3, .int (nI 0)), (2, .int (trainC (σ.1 20) rr 0)), (0, .ref 73), (1, .int (nI rr))]) (setR_same (setR (setR σ 25 f20) 26 g20) 20).symm rfl rfl ?_
    refine loop_up (P := fun k => AW _ K _ (setR (setR (setR σ 25 (f20)) 26 (g20)) 20 (trainM (σ.1 20) rr k)) 27 [(3, .int (nI k)), (2, .int (trainC (σ.1 20) rr k)), (0, .ref 73), (1, .int (nI rr))] []) 30 ?_ ?_ 0 (by omega) 
    · refine aw_iload_n (pc := 27) C 0 dX9_train_27 rfl ?_
      refine aw_bipush (pc := 28) (v := 30) C dX9_train_28 rfl ?_
      refine aw_icmp_geN (pc := 30) C 30 30 82 rfl rfl (by omega) (by omega) dX9_train_30 (by decide) (fun h30 => ?_) (fun h30 => absurd h30 (by omega))
      refine aw_iload_n (pc := 82) C 1 dX9_train_82 rfl ?_
      exact aw_iretP (pc := 83) C rfl dX9_train_83 (pm_scr (an' := .inr (trainC (σ.1 20) rr 30, trainM (σ.1 20) rr 30)) (by rw [sTrain, if_pos h5, cl_nI (show rr < 2147483648 by omega)]) rfl (fun r hr => by simp only [anS, setR]; (repeat' split) <;> first | rfl | (subst_vars; first | rfl | exact absurd (by decide) hr)) rfl)
    · intro k hk27 ih27 
      refine aw_iload_n (pc := 27) C 0 dX9_train_27 rfl ?_
      refine aw_bipush (pc := 28) (v := 30) C dX9_train_28 rfl ?_
      refine aw_icmp_geN (pc := 30) C k 30 82 rfl rfl (by omega) (by omega) dX9_train_30 (by decide) (fun h30 => absurd h30 (by omega)) (fun h30 => ?_)
      refine aw_iload_n (pc := 33) C 1 dX9_train_33 rfl ?_
      refine aw_aload_n (pc := 34) C 2 dX9_train_34 rfl ?_
      refine aw_bipush (pc := 35) (v := 33) C dX9_train_35 rfl ?_
      refine aw_bipush (pc := 37) (v := 37) C dX9_train_37 rfl ?_
      refine aw_iload_n (pc := 39) C 3 dX9_train_39 rfl ?_
      refine aw_imulN (pc := 40) C 37 rr rfl rfl dX9_train_40 ?_
      refine aw_iaddN (pc := 41) C 33 (37 * rr) rfl rfl dX9_train_41 ?_
      refine aw_bipush (pc := 42) (v := 7) C dX9_train_42 rfl ?_
      refine aw_iaddN (pc := 44) C (33 + (37 * rr)) 7 rfl rfl dX9_train_44 ?_
      refine aw_iload_n (pc := 45) C 0 dX9_train_45 rfl ?_
      refine aw_iaddN (pc := 46) C ((33 + (37 * rr)) + 7) k rfl rfl dX9_train_46 ?_
      refine aw_aload_n (pc := 47) C 2 dX9_train_47 rfl ?_
      refine aw_getR (pc := 48) C fl_X9_25 sh73 rfl dX9_train_48 ?_
      refine aw_iconst (pc := 51) (v := 4) C dX9_train_51 rfl ?_
      refine aw_iload_n (pc := 52) C 0 dX9_train_52 rfl ?_
      refine aw_imulN (pc := 53) C 4 k rfl rfl dX9_train_53 ?_
      refine aw_ild (pc := 54) (k := 4 * k) C (4 * k) (g20 (4 * k)) sh79 dX9_train_54 rfl (by omega) rfl (by first | rfl | (simp (disch := omega) only [setR_at, setR_twice, setL_at, setL_twice, setR_2, setL_1, setR_ne, setL_ne, ne_eq, Nat.reduceEqDiff, not_false_eq_true, pk_us, pk_un]; done) | ((try simp (disch := omega) only [setR_at, setR_twice, setL_at, setL_twice, setR_2, setL_1, setR_ne, setL_ne, ne_eq, Nat.reduceEqDiff, not_false_eq_true, pk_us, pk_un]); refine Prod.ext (funext fun z => ?_) rfl; simp only [setR]; (repeat' split) <;> first | rfl | (exfalso; omega))) ?_
      refine aw_top C (mPc true (σ.1 20) rr 30 k 0) (hm20.2 k (by omega) (by omega) 0 (by omega)) ?_
      refine aw_cVI (pc := 55) C (c_X9_becomes _ (((33 + (37 * rr)) + 7) + k) (mPc true (σ.1 20) rr 30 k 0) (by omega)) lk_X9_72 sh73 rfl dX9_train_55 (by decide) (Nat.le_of_ble_eq_true rfl) rfl rfl ?_
      refine aw_conv (σ' := setR (setR (setR σ 25 (f20)) 26 (g20)) 20 (upd (trainM (σ.1 20) rr k) (((33 + (37 * rr)) + 7) + k) (mPc true (σ.1 20) rr 30 k 0))) (st' := [.int ((trainM (σ.1 20) rr k) (((33 + (37 * rr)) + 7) + k)), .int (trainC (σ.1 20) rr k)]) (by first | rfl | (simp (disch := omega) only [setR_at, setR_twice, setL_at, setL_twice, setR_2, setL_1, setR_ne, setL_ne, ne_eq, Nat.reduceEqDiff, not_false_eq_true, pk_us, pk_un]; done) | ((try simp (disch := omega) only [setR_at, setR_twice, setL_at, setL_twice, setR_2, setL_1, setR_ne, setL_ne, ne_eq, Nat.reduceEqDiff, not_false_eq_true, pk_us, pk_un]); refine Prod.ext (funext fun z => ?_) rfl; simp only [setR]; (repeat' split) <;> first | rfl | (exfalso; omega))) rfl (by first | rfl | (simp (disch := omega) only [setR_at, setR_twice, setL_at, setL_twice, setR_2, setL_1, setR_ne, setL_ne, ne_eq, Nat.reduceEqDiff, not_false_eq_true, pk_us, pk_un]; done) | ((try simp (disch := omega) only [setR_at, setR_twice, setL_at, setL_twice, setR_2, setL_1, setR_ne, setL_ne, ne_eq, Nat.reduceEqDiff, not_false_eq_true, pk_us, pk_un]); refine Prod.ext (funext fun z => ?_) rfl; simp only [setR]; (repeat' split) <;> first | rfl | (exfalso; omega))) ?_
      refine aw_top C (σ.1 20 (33 + 37 * rr + 7 + k)) (trainM_off (by omega)) ?_
      refine aw_aload_n (pc := 58) C 2 dX9_train_58 rfl ?_
      refine aw_getR (pc := 59) C fl_X9_25 sh73 rfl dX9_train_59 ?_
      refine aw_iconst (pc := 62) (v := 4) C dX9_train_62 rfl ?_
      refine aw_iload_n (pc := 63) C 0 dX9_train_63 rfl ?_
      refine aw_imulN (pc := 64) C 4 k rfl rfl dX9_train_64 ?_
      refine aw_ild (pc := 65) (k := 4 * k) C (4 * k) (g20 (4 * k)) sh79 dX9_train_65 rfl (by omega) rfl (by first | rfl | (simp (disch := omega) only [setR_at, setR_twice, setL_at, setL_twice, setR_2, setL_1, setR_ne, setL_ne, ne_eq, Nat.reduceEqDiff, not_false_eq_true, pk_us, pk_un]; done) | ((try simp (disch := omega) only [setR_at, setR_twice, setL_at, setL_twice, setR_2, setL_1, setR_ne, setL_ne, ne_eq, Nat.reduceEqDiff, not_false_eq_true, pk_us, pk_un]); refine Prod.ext (funext fun z => ?_) rfl; simp only [setR]; (repeat' split) <;> first | rfl | (exfalso; omega))) ?_
      refine aw_top C (mPc true (σ.1 20) rr 30 k 0) (hm20.2 k (by omega) (by omega) 0 (by omega)) ?_
      refine aw_icmp_ne (pc := 66) C 73 dX9_train_66 (by decide) (fun h66 => ?_) (fun h66 => ?_)
      · refine aw_iconst (pc := 73) (v := 1) C dX9_train_73 rfl ?_
        refine aw_iadd (pc := 74) C dX9_train_74 ?_
        refine aw_istore_n (pc := 75) C [(2, .int ((trainC (σ.1 20) rr k) + 1)), (3, .int (nI k)), (0, .ref 73), (1, .int (nI rr))] dX9_train_75 (Nat.le_of_ble_eq_true rfl) rfl ?_
        refine aw_iincN (pc := 76) C 1 k [(3, .int (nI (k + 1))), (2, .int ((trainC (σ.1 20) rr k) + 1)), (0, .ref 73), (1, .int (nI rr))] dX9_train_76 rfl rfl rfl (Nat.le_of_ble_eq_true rfl) rfl ?_
        refine aw_goto (pc := 79) C 27 dX9_train_79 (by decide) ?_
        refine aw_lvs C [0, 1, 2, 3] [(3, .int (nI (k + 1))), (2, .int ((trainC (σ.1 20) rr k) + 1)), (0, .ref 73), (1, .int (nI rr))] rfl ?_
        exact aw_conv (σ' := setR (setR (setR σ 25 (f20)) 26 (g20)) 20 (trainM (σ.1 20) rr (k + 1))) (lv' := [(3, .int (nI (k + 1))), (2, .int (trainC (σ.1 20) rr (k + 1))), (0, .ref 73), (1, .int (nI rr))]) rfl (by rw [trainC, if_neg h66]) rfl ih27
      · refine aw_iconst (pc := 69) (v := 0) C dX9_train_69 rfl ?_
        refine aw_goto (pc := 70) C 74 dX9_train_70 (by decide) ?_
        refine aw_iadd (pc := 74) C dX9_train_74 ?_
        refine aw_istore_n (pc := 75) C [(2, .int ((trainC (σ.1 20) rr k) + 0)), (3, .int (nI k)), (0, .ref 73), (1, .int (nI rr))] dX9_train_75 (Nat.le_of_ble_eq_true rfl) rfl ?_
        refine aw_iincN (pc := 76) C 1 k [(3, .int (nI (k + 1))), (2, .int ((trainC (σ.1 20) rr k) + 0)), (0, .ref 73), (1, .int (nI rr))] dX9_train_76 rfl rfl rfl (Nat.le_of_ble_eq_true rfl) rfl ?_
        refine aw_goto (pc := 79) C 27 dX9_train_79 (by decide) ?_
        refine aw_lvs C [0, 1, 2, 3] [(3, .int (nI (k + 1))), (2, .int ((trainC (σ.1 20) rr k) + 0)), (0, .ref 73), (1, .int (nI rr))] rfl ?_
        exact aw_conv (σ' := setR (setR (setR σ 25 (f20)) 26 (g20)) 20 (trainM (σ.1 20) rr (k + 1))) (lv' := [(3, .int (nI (k + 1))), (2, .int (trainC (σ.1 20) rr (k + 1))), (0, .ref 73), (1, .int (nI rr))]) rfl (by rw [trainC, if_pos h66]) rfl ih27
  · refine aw_aload_n (pc := 8) C 0 dX9_train_8 rfl ?_
    refine aw_ldc (pc := 9) C dX9_train_9 kc_X9_46 ?_
    refine aw_cVI (pc := 11) C (c_X9_finds _ (-100000001) 0 (by decide) (by decide)) lk_X9_48 sh73 rfl dX9_train_11 (by decide) (Nat.le_of_ble_eq_true rfl) rfl rfl ?_
    exact aw_iretP (pc := 14) C rfl dX9_train_14 (pm_of (an' := .inl 0) (by rw [sTrain, if_neg (fun z => h5 (z))]) rfl rfl)
theorem c_X9_costs (σ : St) (n : Nat) (hn : σ.1 20 2 = nI n) (hz : n ≤ 6) (r y : Int32) : AMet Y_X9_costs [.ref 73, .int r, .int y] σ (PM σ (sCosts (σ.1 20) n r y)) := by
  refine am_intro (by decide +kernel) (Nat.le_of_ble_eq_true rfl) (fun K C => ?_)
  refine aw_aload_n (pc := 0) C 0 dX9_costs_0 rfl ?_
  refine aw_iload_n (pc := 1) C 1 dX9_costs_1 rfl ?_
  refine aw_cVI (pc := 2) C (c_X9_isRunner _ n hn hz r ) lk_X9_91 sh73 rfl dX9_costs_2 (by decide) (Nat.le_of_ble_eq_true rfl) rfl rfl ?_
  refine aw_if_eqB (pc := 5) C 15 dX9_costs_5 (by decide) (fun h5 => ?_) (fun h5 => ?_)
  · refine aw_aload_n (pc := 15) C 0 dX9_costs_15 rfl ?_
    refine aw_ldc (pc := 16) C dX9_costs_16 kc_X9_46 ?_
    refine aw_cVI (pc := 18) C (c_X9_finds _ (-100000001) 0 (by decide) (by decide)) lk_X9_48 sh73 rfl dX9_costs_18 (by decide) (Nat.le_of_ble_eq_true rfl) rfl rfl ?_
    exact aw_iretP (pc := 21) C rfl dX9_costs_21 (pm_of (an' := .inl 0) (by rw [sCosts, if_neg (fun z => h5 (z.1))]) rfl rfl)
  · refine aw_iload_n (pc := 8) C 2 dX9_costs_8 rfl ?_
    refine aw_cSI (pc := 9) C (c_X9_isYard _ y ) lk_X9_66 dX9_costs_9 (by decide) (Nat.le_of_ble_eq_true rfl) rfl rfl ?_
    refine aw_if_neB (pc := 12) C 22 dX9_costs_12 (by decide) (fun h12 => ?_) (fun h12 => ?_)
    · obtain ⟨rr, rfl, hrr⟩ := rgR h5 hz
      obtain ⟨yy, rfl, hyy0, hyy⟩ := rg 0 29 h12 (by omega) (by omega)
      refine aw_aload_n (pc := 22) C 0 dX9_costs_22 rfl ?_
      refine aw_iload_n (pc := 23) C 1 dX9_costs_23 rfl ?_
      refine aw_bipush (pc := 24) (v := 30) C dX9_costs_24 rfl ?_
      refine aw_iconst (pc := 26) (v := 0) C dX9_costs_26 rfl ?_
      refine aw_callV (pc := 27) C (c_X9_means_false _ rr 30 (by omega) (by omega)) lk_X9_196 sh73 rfl (by decide) rfl (Nat.le_of_ble_eq_true rfl) dX9_costs_27 rfl (fun w s hq => ?_)
      obtain ⟨f27, g27, hm27, rfl, rfl⟩ := hq
      refine aw_conv (σ' := setR (setR σ 25 (f27)) 26 (g27)) (st' := []) (by first | rfl | (simp (disch := omega) only [setR_at, setR_twice, setL_at, setL_twice, setR_2, setL_1, setR_ne, setL_ne, ne_eq, Nat.reduceEqDiff, not_false_eq_true, pk_us, pk_un]; done) | ((try simp (disch := omega) only [setR_at, setR_twice, setL_at, setL_twice, setR_2, setL_1, setR_ne, setL_ne, ne_eq, Nat.reduceEqDiff, not_false_eq_true, pk_us, pk_un]); refine Prod.ext (funext fun z => ?_) rfl; simp only [setR]; (repeat' split) <;> first | rfl | (exfalso; omega))) rfl (by first | rfl | (simp (disch := omega) only [setR_at, setR_twice, setL_at, setL_twice, setR_2, setL_1, setR_ne, setL_ne, ne_eq, Nat.reduceEqDiff, not_false_eq_true, pk_us, pk_un]; done) | ((try simp (disch := omega) only [setR_at, setR_twice, setL_at, setL_twice, setR_2, setL_1, setR_ne, setL_ne, ne_eq, Nat.reduceEqDiff, not_false_eq_true, pk_us, pk_un]); refine Prod.ext (funext fun z => ?_) rfl; simp only [setR]; (repeat' split) <;> first | rfl | (exfalso; omega))) ?_
      refine aw_sipush (pc := 30) (v := 1000) C dX9_costs_30 rfl ?_
      refine aw_aload_n (pc := 33) C 0 dX9_costs_33 rfl ?_
      refine aw_getR (pc := 34) C fl_X9_9 sh73 rfl dX9_costs_34 ?_
      refine aw_iconst (pc := 37) (v := 0) C dX9_costs_37 rfl ?_
      refine aw_ild (pc := 38) (k := 0) C (0) (σ.1 20 0) sh74 dX9_costs_38 rfl (by omega) rfl (by first | rfl | (simp (disch := omega) only [setR_at, setR_twice, setL_at, setL_twice, setR_2, setL_1, setR_ne, setL_ne, ne_eq, Nat.reduceEqDiff, not_false_eq_true, pk_us, pk_un]; done) | ((try simp (disch := omega) only [setR_at, setR_twice, setL_at, setL_twice, setR_2, setL_1, setR_ne, setL_ne, ne_eq, Nat.reduceEqDiff, not_false_eq_true, pk_us, pk_un]); refine Prod.ext (funext fun z => ?_) rfl; simp only [setR]; (repeat' split) <;> first | rfl | (exfalso; omega))) ?_
      refine aw_imul (pc := 39) C dX9_costs_39 ?_
      refine aw_aload_n (pc := 40) C 0 dX9_costs_40 rfl ?_
      refine aw_getR (pc := 41) C fl_X9_22 sh73 rfl dX9_costs_41 ?_
      refine aw_iconst (pc := 44) (v := 4) C dX9_costs_44 rfl ?_
      refine aw_iload_n (pc := 45) C 2 dX9_costs_45 rfl ?_
      refine aw_imulN (pc := 46) C 4 yy rfl rfl dX9_costs_46 ?_
      refine aw_bipush (pc := 47) (v := 7) C dX9_costs_47 rfl ?_
      refine aw_iaddN (pc := 49) C (4 * yy) 7 rfl rfl dX9_costs_49 ?_
      refine aw_ild (pc := 50) (k := (4 * yy) + 7) C ((4 * yy) + 7) (f27 ((4 * yy) + 7)) sh78 dX9_costs_50 rfl (by omega) rfl (by first | rfl | (simp (disch := omega) only [setR_at, setR_twice, setL_at, setL_twice, setR_2, setL_1, setR_ne, setL_ne, ne_eq, Nat.reduceEqDiff, not_false_eq_true, pk_us, pk_un]; done) | ((try simp (disch := omega) only [setR_at, setR_twice, setL_at, setL_twice, setR_2, setL_1, setR_ne, setL_ne, ne_eq, Nat.reduceEqDiff, not_false_eq_true, pk_us, pk_un]); refine Prod.ext (funext fun z => ?_) rfl; simp only [setR]; (repeat' split) <;> first | rfl | (exfalso; omega))) ?_
      refine aw_top C (mRow false (σ.1 20) rr 30 (yy + 1) 3) (by rw [show 4 * yy + 7 = 4 * (yy + 1) + 3 by omega]; exact hm27.1 (yy + 1) (by omega) (by omega) 3 (by omega)) ?_
      refine aw_iadd (pc := 51) C dX9_costs_51 ?_
      refine aw_aload_n (pc := 52) C 0 dX9_costs_52 rfl ?_
      refine aw_getR (pc := 53) C fl_X9_22 sh73 rfl dX9_costs_53 ?_
      refine aw_iconst (pc := 56) (v := 4) C dX9_costs_56 rfl ?_
      refine aw_iload_n (pc := 57) C 2 dX9_costs_57 rfl ?_
      refine aw_imulN (pc := 58) C 4 yy rfl rfl dX9_costs_58 ?_
      refine aw_iconst (pc := 59) (v := 4) C dX9_costs_59 rfl ?_
      refine aw_iaddN (pc := 60) C (4 * yy) 4 rfl rfl dX9_costs_60 ?_
      refine aw_ild (pc := 61) (k := (4 * yy) + 4) C ((4 * yy) + 4) (f27 ((4 * yy) + 4)) sh78 dX9_costs_61 rfl (by omega) rfl (by first | rfl | (simp (disch := omega) only [setR_at, setR_twice, setL_at, setL_twice, setR_2, setL_1, setR_ne, setL_ne, ne_eq, Nat.reduceEqDiff, not_false_eq_true, pk_us, pk_un]; done) | ((try simp (disch := omega) only [setR_at, setR_twice, setL_at, setL_twice, setR_2, setL_1, setR_ne, setL_ne, ne_eq, Nat.reduceEqDiff, not_false_eq_true, pk_us, pk_un]); refine Prod.ext (funext fun z => ?_) rfl; simp only [setR]; (repeat' split) <;> first | rfl | (exfalso; omega))) ?_
      refine aw_top C (mRow false (σ.1 20) rr 30 (yy + 1) 0) (by rw [show 4 * yy + 4 = 4 * (yy + 1) + 0 by omega]; exact hm27.1 (yy + 1) (by omega) (by omega) 0 (by omega)) ?_
      refine aw_isub (pc := 62) C dX9_costs_62 ?_
      exact aw_iretP (pc := 63) C rfl dX9_costs_63 (pm_scr (an' := .inr (((1000 * (σ.1 20 0)) + (mRow false (σ.1 20) rr 30 (yy + 1) 3)) - (mRow false (σ.1 20) rr 30 (yy + 1) 0), σ.1 20)) (by rw [sCosts, if_pos ⟨h5, h12⟩, cl_nI (show rr < 2147483648 by omega), cl_nI (show yy < 2147483648 by omega)]) rfl (fun r hr => by simp only [anS, setR]; (repeat' split) <;> first | rfl | (subst_vars; first | rfl | exact absurd (by decide) hr)) rfl)
    · refine aw_aload_n (pc := 15) C 0 dX9_costs_15 rfl ?_
      refine aw_ldc (pc := 16) C dX9_costs_16 kc_X9_46 ?_
      refine aw_cVI (pc := 18) C (c_X9_finds _ (-100000001) 0 (by decide) (by decide)) lk_X9_48 sh73 rfl dX9_costs_18 (by decide) (Nat.le_of_ble_eq_true rfl) rfl rfl ?_
      exact aw_iretP (pc := 21) C rfl dX9_costs_21 (pm_of (an' := .inl 0) (by rw [sCosts, if_neg (fun z => h12 (z.2))]) rfl rfl)
