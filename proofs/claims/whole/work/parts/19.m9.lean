/-! the reference: races ahead -/
theorem c_X9_isAhead (σ : St) (a b : Nat) (ha : a < 6) (hb : b < 6) : AMet Y_X9_isAhead [.ref 73, .int (nI a), .int (nI b)] σ (fz (some (.int (b2i (aheadP (σ.1 20) a b)))) (σ)) := by
  refine am_intro (by decide +kernel) (Nat.le_of_ble_eq_true rfl) (fun K C => ?_)
  refine aw_aload_n (pc := 0) C 0 dX9_isAhead_0 rfl ?_
  refine aw_iload_n (pc := 1) C 1 dX9_isAhead_1 rfl ?_
  refine aw_iconst (pc := 2) (v := 4) C dX9_isAhead_2 rfl ?_
  refine aw_cVI (pc := 3) C (c_X9_is _ a 4 (by omega)) lk_X9_62 sh73 rfl dX9_isAhead_3 (by decide) (Nat.le_of_ble_eq_true rfl) rfl rfl ?_
  refine aw_aload_n (pc := 6) C 0 dX9_isAhead_6 rfl ?_
  refine aw_iload_n (pc := 7) C 2 dX9_isAhead_7 rfl ?_
  refine aw_iconst (pc := 8) (v := 4) C dX9_isAhead_8 rfl ?_
  refine aw_cVI (pc := 9) C (c_X9_is _ b 4 (by omega)) lk_X9_62 sh73 rfl dX9_isAhead_9 (by decide) (Nat.le_of_ble_eq_true rfl) rfl rfl ?_
  refine aw_icmp_lt (pc := 12) C 35 dX9_isAhead_12 (by decide) (fun h12 => ?_) (fun h12 => ?_)
  · refine aw_iconst (pc := 35) (v := 1) C dX9_isAhead_35 rfl ?_
    refine aw_goto (pc := 36) C 40 dX9_isAhead_36 (by decide) ?_
    exact aw_zret (pc := 40) C rfl rfl dX9_isAhead_40 (b2i_t (Or.inl h12)).symm rfl
  · refine aw_aload_n (pc := 15) C 0 dX9_isAhead_15 rfl ?_
    refine aw_iload_n (pc := 16) C 1 dX9_isAhead_16 rfl ?_
    refine aw_iconst (pc := 17) (v := 4) C dX9_isAhead_17 rfl ?_
    refine aw_cVI (pc := 18) C (c_X9_is _ a 4 (by omega)) lk_X9_62 sh73 rfl dX9_isAhead_18 (by decide) (Nat.le_of_ble_eq_true rfl) rfl rfl ?_
    refine aw_aload_n (pc := 21) C 0 dX9_isAhead_21 rfl ?_
    refine aw_iload_n (pc := 22) C 2 dX9_isAhead_22 rfl ?_
    refine aw_iconst (pc := 23) (v := 4) C dX9_isAhead_23 rfl ?_
    refine aw_cVI (pc := 24) C (c_X9_is _ b 4 (by omega)) lk_X9_62 sh73 rfl dX9_isAhead_24 (by decide) (Nat.le_of_ble_eq_true rfl) rfl rfl ?_
    refine aw_icmp_ne (pc := 27) C 39 dX9_isAhead_27 (by decide) (fun h27 => ?_) (fun h27 => ?_)
    · refine aw_iconst (pc := 39) (v := 0) C dX9_isAhead_39 rfl ?_
      exact aw_zret (pc := 40) C rfl rfl dX9_isAhead_40 (b2i_f (fun z => z.elim h12 (fun q => h27 q.1))).symm rfl
    · refine aw_iload_n (pc := 30) C 1 dX9_isAhead_30 rfl ?_
      refine aw_iload_n (pc := 31) C 2 dX9_isAhead_31 rfl ?_
      refine aw_icmp_geN (pc := 32) C a b 39 rfl rfl (by omega) (by omega) dX9_isAhead_32 (by decide) (fun h32 => ?_) (fun h32 => ?_)
      · refine aw_iconst (pc := 39) (v := 0) C dX9_isAhead_39 rfl ?_
        exact aw_zret (pc := 40) C rfl rfl dX9_isAhead_40 (b2i_f (fun z => z.elim h12 (fun q => Nat.not_lt.mpr h32 q.2))).symm rfl
      · refine aw_iconst (pc := 35) (v := 1) C dX9_isAhead_35 rfl ?_
        refine aw_goto (pc := 36) C 40 dX9_isAhead_36 (by decide) ?_
        exact aw_zret (pc := 40) C rfl rfl dX9_isAhead_40 (b2i_t (Or.inr ⟨h27, h32⟩)).symm rfl
theorem c_X9_firstHome (σ : St) (n : Nat) (hn : σ.1 20 2 = nI n) (hz : n ≤ 6) : AMet Y_X9_firstHome [.ref 73] σ (fz (some (.int (oI (fst (σ.1 20) n)))) (σ)) := by
  refine am_intro (by decide +kernel) (Nat.le_of_ble_eq_true rfl) (fun K C => ?_)
  refine aw_iconst (pc := 0) (v := (-1)) C dX9_firstHome_0 rfl ?_
  refine aw_istore_n (pc := 1) C [(1, .int ((-1))), (0, .ref 73)] dX9_firstHome_1 (Nat.le_of_ble_eq_true rfl) rfl ?_
  refine aw_iconst (pc := 2) (v := 0) C dX9_firstHome_2 rfl ?_
  refine aw_istore_n (pc := 3) C [(2, .int 0), (1, .int ((-1))), (0, .ref 73)] dX9_firstHome_3 (Nat.le_of_ble_eq_true rfl) rfl ?_
  refine aw_lvs C [0, 1, 2] [(2, .int 0), (1, .int ((-1))), (0, .ref 73)] rfl ?_
  refine aw_conv (σ' := σ) (lv' := [(2, .int (nI 0)), (1, .int (oI (fst (σ.1 20) 0))), (0, .ref 73)]) rfl rfl rfl ?_
  refine loop_up (P := fun k => AW _ K _ (σ) 4 [(2, .int (nI k)), (1, .int (oI (fst (σ.1 20) k))), (0, .ref 73)] []) n ?_ ?_ 0 (by omega) 
  · refine aw_iload_n (pc := 4) C 0 dX9_firstHome_4 rfl ?_
    refine aw_aload_n (pc := 5) C 2 dX9_firstHome_5 rfl ?_
    refine aw_getR (pc := 6) C fl_X9_9 sh73 rfl dX9_firstHome_6 ?_
    refine aw_iconst (pc := 9) (v := 2) C dX9_firstHome_9 rfl ?_
    refine aw_ild (pc := 10) (k := 2) C (2) (σ.1 20 2) sh74 dX9_firstHome_10 rfl (by omega) rfl rfl ?_
    refine aw_top C (nI (n)) hn ?_
    refine aw_icmp_geN (pc := 11) C n n 35 rfl rfl (by omega) (by omega) dX9_firstHome_11 (by decide) (fun h11 => ?_) (fun h11 => absurd h11 (by omega))
    refine aw_iload_n (pc := 35) C 1 dX9_firstHome_35 rfl ?_
    exact aw_iret (pc := 36) C rfl dX9_firstHome_36 rfl rfl
  · intro k hk4 ih4 
    refine aw_iload_n (pc := 4) C 0 dX9_firstHome_4 rfl ?_
    refine aw_aload_n (pc := 5) C 2 dX9_firstHome_5 rfl ?_
    refine aw_getR (pc := 6) C fl_X9_9 sh73 rfl dX9_firstHome_6 ?_
    refine aw_iconst (pc := 9) (v := 2) C dX9_firstHome_9 rfl ?_
    refine aw_ild (pc := 10) (k := 2) C (2) (σ.1 20 2) sh74 dX9_firstHome_10 rfl (by omega) rfl rfl ?_
    refine aw_top C (nI (n)) hn ?_
    refine aw_icmp_geN (pc := 11) C k n 35 rfl rfl (by omega) (by omega) dX9_firstHome_11 (by decide) (fun h11 => absurd h11 (by omega)) (fun h11 => ?_)
    rcases hb : fst (σ.1 20) k with _ | b
    · refine aw_lvs C [0, 1, 2] [(2, .int (nI k)), (1, .int ((-1))), (0, .ref 73)] rfl ?_
      refine aw_iload_n (pc := 14) C 1 dX9_firstHome_14 rfl ?_
      refine aw_if_lt (pc := 15) C 27 dX9_firstHome_15 (by decide) (fun h15 => ?_) (fun h15 => absurd h15 (by decide))
      refine aw_iload_n (pc := 27) C 0 dX9_firstHome_27 rfl ?_
      refine aw_istore_n (pc := 28) C [(1, .int (nI k)), (2, .int (nI k)), (0, .ref 73)] dX9_firstHome_28 (Nat.le_of_ble_eq_true rfl) rfl ?_
      refine aw_iincN (pc := 29) C 1 k [(2, .int (nI (k + 1))), (1, .int (nI k)), (0, .ref 73)] dX9_firstHome_29 rfl rfl rfl (Nat.le_of_ble_eq_true rfl) rfl ?_
      refine aw_goto (pc := 32) C 4 dX9_firstHome_32 (by decide) ?_
      refine aw_lvs C [0, 1, 2] [(2, .int (nI (k + 1))), (1, .int (nI k)), (0, .ref 73)] rfl ?_
      exact aw_conv (σ' := σ) (lv' := [(2, .int (nI (k + 1))), (1, .int (oI (fst (σ.1 20) (k + 1)))), (0, .ref 73)]) rfl (by rw [fst_none hb]; rfl) rfl ih4
    · have hbk := fst_lt hb
      refine aw_lvs C [0, 1, 2] [(2, .int (nI k)), (1, .int (nI b)), (0, .ref 73)] rfl ?_
      refine aw_iload_n (pc := 14) C 1 dX9_firstHome_14 rfl ?_
      refine aw_if_lt (pc := 15) C 27 dX9_firstHome_15 (by decide) (fun h15 => absurd h15 (nI_pos (by omega))) (fun h15 => ?_)
      refine aw_aload_n (pc := 18) C 2 dX9_firstHome_18 rfl ?_
      refine aw_iload_n (pc := 19) C 0 dX9_firstHome_19 rfl ?_
      refine aw_iload_n (pc := 20) C 1 dX9_firstHome_20 rfl ?_
      refine aw_cVI (pc := 21) C (c_X9_isAhead _ k b (by omega) (by omega)) lk_X9_170 sh73 rfl dX9_firstHome_21 (by decide) (Nat.le_of_ble_eq_true rfl) rfl rfl ?_
      refine aw_if_eqB (pc := 24) C 29 dX9_firstHome_24 (by decide) (fun h24 => ?_) (fun h24 => ?_)
      · refine aw_iincN (pc := 29) C 0 k [(2, .int (nI (k + 1))), (1, .int (nI b)), (0, .ref 73)] dX9_firstHome_29 rfl rfl rfl (Nat.le_of_ble_eq_true rfl) rfl ?_
        refine aw_goto (pc := 32) C 4 dX9_firstHome_32 (by decide) ?_
        refine aw_lvs C [0, 1, 2] [(2, .int (nI (k + 1))), (1, .int (nI b)), (0, .ref 73)] rfl ?_
        exact aw_conv (σ' := σ) (lv' := [(2, .int (nI (k + 1))), (1, .int (oI (fst (σ.1 20) (k + 1)))), (0, .ref 73)]) rfl (by rw [fst_no hb h24]; rfl) rfl ih4
      · refine aw_iload_n (pc := 27) C 0 dX9_firstHome_27 rfl ?_
        refine aw_istore_n (pc := 28) C [(1, .int (nI k)), (2, .int (nI k)), (0, .ref 73)] dX9_firstHome_28 (Nat.le_of_ble_eq_true rfl) rfl ?_
        refine aw_iincN (pc := 29) C 1 k [(2, .int (nI (k + 1))), (1, .int (nI k)), (0, .ref 73)] dX9_firstHome_29 rfl rfl rfl (Nat.le_of_ble_eq_true rfl) rfl ?_
        refine aw_goto (pc := 32) C 4 dX9_firstHome_32 (by decide) ?_
        refine aw_lvs C [0, 1, 2] [(2, .int (nI (k + 1))), (1, .int (nI k)), (0, .ref 73)] rfl ?_
        exact aw_conv (σ' := σ) (lv' := [(2, .int (nI (k + 1))), (1, .int (oI (fst (σ.1 20) (k + 1)))), (0, .ref 73)]) rfl (by rw [fst_yes hb h24]; rfl) rfl ih4
theorem c_X9_allGoHome (σ : St) (n : Nat) (hok : Ok n (σ.1 20)) : AMet Y_X9_allGoHome [.ref 73] σ (fz none (setR σ 20 (goM n (σ.1 20) 180))) := by
  refine am_intro (by decide +kernel) (Nat.le_of_ble_eq_true rfl) (fun K C => ?_)
  have hz := hok.1
  have hn := hok.2.1
  refine aw_aload_n (pc := 0) C 0 dX9_allGoHome_0 rfl ?_
  refine aw_sipush (pc := 1) (v := 180) C dX9_allGoHome_1 rfl ?_
  refine aw_cVI (pc := 4) C (c_X9_stepsGo _ n hok 180 (by omega)) lk_X9_154 sh73 rfl dX9_allGoHome_4 (by decide) (Nat.le_of_ble_eq_true rfl) rfl rfl ?_
  refine aw_pop (pc := 7) C dX9_allGoHome_7 rfl ?_
  exact aw_vret (pc := 8) C rfl dX9_allGoHome_8 rfl
theorem c_X9_ahead (σ : St) (n : Nat) (hok : Ok n (σ.1 20)) (k w : Int32) : AMet Y_X9_ahead [.ref 73, .int k, .int w] σ (PM σ (sAhead (σ.1 20) n k w)) := by
  refine am_intro (by decide +kernel) (Nat.le_of_ble_eq_true rfl) (fun K C => ?_)
  have hz := hok.1
  have hn := hok.2.1
  refine aw_iload_n (pc := 0) C 1 dX9_ahead_0 rfl ?_
  refine aw_i2l (pc := 1) C dX9_ahead_1 ?_
  refine aw_lconst (pc := 2) (v := 0) C dX9_ahead_2 rfl ?_
  refine aw_ldc2 (pc := 3) C dX9_ahead_3 kc_X9_152 ?_
  refine aw_cSI (pc := 6) C (c_X9_in _ k 0 180 _ _ _ rfl (by decide) (by decide)) lk_X9_54 dX9_ahead_6 (by decide) (Nat.le_of_ble_eq_true rfl) rfl rfl ?_
  refine aw_if_eqB (pc := 9) C 30 dX9_ahead_9 (by decide) (fun h9 => ?_) (fun h9 => ?_)
  · refine aw_aload_n (pc := 30) C 0 dX9_ahead_30 rfl ?_
    refine aw_ldc (pc := 31) C dX9_ahead_31 kc_X9_46 ?_
    refine aw_cVI (pc := 33) C (c_X9_finds _ (-100000001) 0 (by decide) (by decide)) lk_X9_48 sh73 rfl dX9_ahead_33 (by decide) (Nat.le_of_ble_eq_true rfl) rfl rfl ?_
    exact aw_iretP (pc := 36) C rfl dX9_ahead_36 (pm_of (an' := .inl 0) (by rw [sAhead, if_neg (fun z => h9 (z.1))]) rfl rfl)
  · refine aw_iload_n (pc := 12) C 2 dX9_ahead_12 rfl ?_
    refine aw_i2l (pc := 13) C dX9_ahead_13 ?_
    refine aw_lconst (pc := 14) (v := 0) C dX9_ahead_14 rfl ?_
    refine aw_iconst (pc := 15) (v := 2) C dX9_ahead_15 rfl ?_
    refine aw_aload_n (pc := 16) C 0 dX9_ahead_16 rfl ?_
    refine aw_getR (pc := 17) C fl_X9_9 sh73 rfl dX9_ahead_17 ?_
    refine aw_iconst (pc := 20) (v := 2) C dX9_ahead_20 rfl ?_
    refine aw_ild (pc := 21) (k := 2) C (2) (σ.1 20 2) sh74 dX9_ahead_21 rfl (by omega) rfl rfl ?_
    refine aw_top C (nI (n)) hn ?_
    refine aw_iaddN (pc := 22) C 2 n rfl rfl dX9_ahead_22 ?_
    refine aw_i2l (pc := 23) C dX9_ahead_23 ?_
    refine aw_cSI (pc := 24) C (c_X9_in _ w 0 (nI (2 + n)) _ _ _ rfl (by decide) rfl) lk_X9_54 dX9_ahead_24 (by decide) (Nat.le_of_ble_eq_true rfl) rfl rfl ?_
    refine aw_if_neB (pc := 27) C 37 dX9_ahead_27 (by decide) (fun h27 => ?_) (fun h27 => ?_)
    · obtain ⟨kk, rfl, hkk0, hkk⟩ := rg 0 180 h9 (by omega) (by omega)
      obtain ⟨ww, rfl, hww0, hww⟩ := rg 0 (2 + n) h27 (by omega) (by omega)
      refine aw_aload_n (pc := 37) C 0 dX9_ahead_37 rfl ?_
      refine aw_getR (pc := 38) C fl_X9_9 sh73 rfl dX9_ahead_38 ?_
      refine aw_aload_n (pc := 41) C 0 dX9_ahead_41 rfl ?_
      refine aw_getR (pc := 42) C fl_X9_16 sh73 rfl dX9_ahead_42 ?_
      refine aw_cS0 (pc := 45) C (c_X9_row_74_76 _  ) lk_X9_166 dX9_ahead_45 (by decide) (Nat.le_of_ble_eq_true rfl) rfl rfl ?_
      refine aw_aload_n (pc := 48) C 0 dX9_ahead_48 rfl ?_
      refine aw_iload_n (pc := 49) C 1 dX9_ahead_49 rfl ?_
      refine aw_cVI (pc := 50) C (c_X9_stepsGo _ n (by simp (disch := omega) only [setR_at, setR_twice, setL_at, setL_twice, setR_2, setL_1, setR_ne, setL_ne, ne_eq, Nat.reduceEqDiff, not_false_eq_true, pk_us, pk_un]; exact hok) kk (by omega)) lk_X9_154 sh73 rfl dX9_ahead_50 (by decide) (Nat.le_of_ble_eq_true rfl) rfl rfl ?_
      refine aw_conv (σ' := setR (setR σ 22 (σ.1 20)) 20 (goM n (σ.1 20) kk)) (st' := [.int (goD n (σ.1 20) kk)]) (by first | rfl | (simp (disch := omega) only [setR_at, setR_twice, setL_at, setL_twice, setR_2, setL_1, setR_ne, setL_ne, ne_eq, Nat.reduceEqDiff, not_false_eq_true, pk_us, pk_un]; done) | ((try simp (disch := omega) only [setR_at, setR_twice, setL_at, setL_twice, setR_2, setL_1, setR_ne, setL_ne, ne_eq, Nat.reduceEqDiff, not_false_eq_true, pk_us, pk_un]); refine Prod.ext (funext fun z => ?_) rfl; simp only [setR]; (repeat' split) <;> first | rfl | (exfalso; omega))) rfl (by first | rfl | (simp (disch := omega) only [setR_at, setR_twice, setL_at, setL_twice, setR_2, setL_1, setR_ne, setL_ne, ne_eq, Nat.reduceEqDiff, not_false_eq_true, pk_us, pk_un]; done) | ((try simp (disch := omega) only [setR_at, setR_twice, setL_at, setL_twice, setR_2, setL_1, setR_ne, setL_ne, ne_eq, Nat.reduceEqDiff, not_false_eq_true, pk_us, pk_un]); refine Prod.ext (funext fun z => ?_) rfl; simp only [setR]; (repeat' split) <;> first | rfl | (exfalso; omega))) ?_
      have hokk := hok.go kk
      refine aw_istore_n (pc := 53) C [(3, .int (goD n (σ.1 20) kk)), (0, .ref 73), (1, .int (nI kk)), (2, .int (nI ww))] dX9_ahead_53 (Nat.le_of_ble_eq_true rfl) rfl ?_
      refine aw_iload_n (pc := 54) C 3 dX9_ahead_54 rfl ?_
      refine aw_if_neN (pc := 55) C ww 65 rfl (by omega) dX9_ahead_55 (by decide) (fun h55 => ?_) (fun h55 => ?_)
      · refine aw_iload_n (pc := 65) C 3 dX9_ahead_65 rfl ?_
        refine aw_iconst (pc := 66) (v := 1) C dX9_ahead_66 rfl ?_
        refine aw_icmp_neN (pc := 67) C ww 1 74 rfl rfl (by omega) (by omega) dX9_ahead_67 (by decide) (fun h67 => ?_) (fun h67 => ?_)
        · refine aw_iload_n (pc := 74) C 3 dX9_ahead_74 rfl ?_
          refine aw_iconst (pc := 75) (v := 2) C dX9_ahead_75 rfl ?_
          refine aw_icmp_neN (pc := 76) C ww 2 86 rfl rfl (by omega) (by omega) dX9_ahead_76 (by decide) (fun h76 => ?_) (fun h76 => ?_)
          · refine aw_aload_n (pc := 86) C 1 dX9_ahead_86 rfl ?_
            refine aw_iload_n (pc := 87) C 3 dX9_ahead_87 rfl ?_
            refine aw_iconst (pc := 88) (v := 3) C dX9_ahead_88 rfl ?_
            refine aw_isubN (pc := 89) C ww 3 rfl rfl (by omega) dX9_ahead_89 ?_
            refine aw_iconst (pc := 90) (v := 4) C dX9_ahead_90 rfl ?_
            refine aw_cVI (pc := 91) C (c_X9_is _ (ww - 3) 4 (by omega)) lk_X9_62 sh73 rfl dX9_ahead_91 (by decide) (Nat.le_of_ble_eq_true rfl) rfl rfl ?_
            refine aw_conv (σ' := setR (setR σ 22 (σ.1 20)) 20 (goM n (σ.1 20) kk)) (st' := [.int ((goM n (σ.1 20) kk) (33 + 37 * (ww - 3) + 4))]) (by first | rfl | (simp (disch := omega) only [setR_at, setR_twice, setL_at, setL_twice, setR_2, setL_1, setR_ne, setL_ne, ne_eq, Nat.reduceEqDiff, not_false_eq_true, pk_us, pk_un]; done) | ((try simp (disch := omega) only [setR_at, setR_twice, setL_at, setL_twice, setR_2, setL_1, setR_ne, setL_ne, ne_eq, Nat.reduceEqDiff, not_false_eq_true, pk_us, pk_un]); refine Prod.ext (funext fun z => ?_) rfl; simp only [setR]; (repeat' split) <;> first | rfl | (exfalso; omega))) rfl (by first | rfl | (simp (disch := omega) only [setR_at, setR_twice, setL_at, setL_twice, setR_2, setL_1, setR_ne, setL_ne, ne_eq, Nat.reduceEqDiff, not_false_eq_true, pk_us, pk_un]; done) | ((try simp (disch := omega) only [setR_at, setR_twice, setL_at, setL_twice, setR_2, setL_1, setR_ne, setL_ne, ne_eq, Nat.reduceEqDiff, not_false_eq_true, pk_us, pk_un]); refine Prod.ext (funext fun z => ?_) rfl; simp only [setR]; (repeat' split) <;> first | rfl | (exfalso; omega))) ?_
            refine aw_istore (pc := 94) C [(4, .int ((goM n (σ.1 20) kk) (33 + 37 * (ww - 3) + 4))), (3, .int (goD n (σ.1 20) kk)), (0, .ref 73), (1, .int (nI kk)), (2, .int (nI ww))] dX9_ahead_94 (Nat.le_of_ble_eq_true rfl) rfl ?_
            refine aw_aload_n (pc := 96) C 2 dX9_ahead_96 rfl ?_
            refine aw_getR (pc := 97) C fl_X9_16 sh73 rfl dX9_ahead_97 ?_
            refine aw_aload_n (pc := 100) C 2 dX9_ahead_100 rfl ?_
            refine aw_getR (pc := 101) C fl_X9_9 sh73 rfl dX9_ahead_101 ?_
            refine aw_cS0 (pc := 104) C (c_X9_row_76_74 _  ) lk_X9_166 dX9_ahead_104 (by decide) (Nat.le_of_ble_eq_true rfl) rfl rfl ?_
            refine aw_conv (σ' := setR (setR σ 22 (σ.1 20)) 20 (σ.1 20)) (st' := []) (by first | rfl | (simp (disch := omega) only [setR_at, setR_twice, setL_at, setL_twice, setR_2, setL_1, setR_ne, setL_ne, ne_eq, Nat.reduceEqDiff, not_false_eq_true, pk_us, pk_un]; done) | ((try simp (disch := omega) only [setR_at, setR_twice, setL_at, setL_twice, setR_2, setL_1, setR_ne, setL_ne, ne_eq, Nat.reduceEqDiff, not_false_eq_true, pk_us, pk_un]); refine Prod.ext (funext fun z => ?_) rfl; simp only [setR]; (repeat' split) <;> first | rfl | (exfalso; omega))) rfl (by first | rfl | (simp (disch := omega) only [setR_at, setR_twice, setL_at, setL_twice, setR_2, setL_1, setR_ne, setL_ne, ne_eq, Nat.reduceEqDiff, not_false_eq_true, pk_us, pk_un]; done) | ((try simp (disch := omega) only [setR_at, setR_twice, setL_at, setL_twice, setR_2, setL_1, setR_ne, setL_ne, ne_eq, Nat.reduceEqDiff, not_false_eq_true, pk_us, pk_un]); refine Prod.ext (funext fun z => ?_) rfl; simp only [setR]; (repeat' split) <;> first | rfl | (exfalso; omega))) ?_
            refine aw_iload (pc := 107) C 0 dX9_ahead_107 rfl ?_
            exact aw_iretP (pc := 109) C rfl dX9_ahead_109 (pm_scr (an' := .inr ((goM n (σ.1 20) kk) (33 + 37 * (ww - 3) + 4), σ.1 20)) (by rw [sAhead, if_pos ⟨h9, h27⟩, cl_nI (show kk < 2147483648 by omega), cl_nI (show ww < 2147483648 by omega), aheadV, if_neg h55, if_neg h67, if_neg h76]) rfl (fun r hr => by simp only [anS, setR]; (repeat' split) <;> first | rfl | (subst_vars; first | rfl | exact absurd (by decide) hr)) rfl)
          · refine aw_aload_n (pc := 79) C 1 dX9_ahead_79 rfl ?_
            refine aw_cVI (pc := 80) C (c_X9_runsNext _ n (by first | rfl | (simp (disch := omega) only [setR_at, setR_twice, setL_at, setL_twice, setR_2, setL_1, setR_ne, setL_ne, ne_eq, Nat.reduceEqDiff, not_false_eq_true, pk_us, pk_un]; exact hokk.2.1)) hz ) lk_X9_139 sh73 rfl dX9_ahead_80 (by decide) (Nat.le_of_ble_eq_true rfl) rfl rfl ?_
            refine aw_conv (σ' := setR (setR σ 22 (σ.1 20)) 20 (goM n (σ.1 20) kk)) (st' := [.int (oI (nxt (goM n (σ.1 20) kk) n))]) (by first | rfl | (simp (disch := omega) only [setR_at, setR_twice, setL_at, setL_twice, setR_2, setL_1, setR_ne, setL_ne, ne_eq, Nat.reduceEqDiff, not_false_eq_true, pk_us, pk_un]; done) | ((try simp (disch := omega) only [setR_at, setR_twice, setL_at, setL_twice, setR_2, setL_1, setR_ne, setL_ne, ne_eq, Nat.reduceEqDiff, not_false_eq_true, pk_us, pk_un]); refine Prod.ext (funext fun z => ?_) rfl; simp only [setR]; (repeat' split) <;> first | rfl | (exfalso; omega))) rfl (by first | rfl | (simp (disch := omega) only [setR_at, setR_twice, setL_at, setL_twice, setR_2, setL_1, setR_ne, setL_ne, ne_eq, Nat.reduceEqDiff, not_false_eq_true, pk_us, pk_un]; done) | ((try simp (disch := omega) only [setR_at, setR_twice, setL_at, setL_twice, setR_2, setL_1, setR_ne, setL_ne, ne_eq, Nat.reduceEqDiff, not_false_eq_true, pk_us, pk_un]); refine Prod.ext (funext fun z => ?_) rfl; simp only [setR]; (repeat' split) <;> first | rfl | (exfalso; omega))) ?_
            refine aw_goto (pc := 83) C 94 dX9_ahead_83 (by decide) ?_
            refine aw_istore (pc := 94) C [(4, .int (oI (nxt (goM n (σ.1 20) kk) n))), (3, .int (goD n (σ.1 20) kk)), (0, .ref 73), (1, .int (nI kk)), (2, .int (nI ww))] dX9_ahead_94 (Nat.le_of_ble_eq_true rfl) rfl ?_
            refine aw_aload_n (pc := 96) C 2 dX9_ahead_96 rfl ?_
            refine aw_getR (pc := 97) C fl_X9_16 sh73 rfl dX9_ahead_97 ?_
            refine aw_aload_n (pc := 100) C 2 dX9_ahead_100 rfl ?_
            refine aw_getR (pc := 101) C fl_X9_9 sh73 rfl dX9_ahead_101 ?_
            refine aw_cS0 (pc := 104) C (c_X9_row_76_74 _  ) lk_X9_166 dX9_ahead_104 (by decide) (Nat.le_of_ble_eq_true rfl) rfl rfl ?_
            refine aw_conv (σ' := setR (setR σ 22 (σ.1 20)) 20 (σ.1 20)) (st' := []) (by first | rfl | (simp (disch := omega) only [setR_at, setR_twice, setL_at, setL_twice, setR_2, setL_1, setR_ne, setL_ne, ne_eq, Nat.reduceEqDiff, not_false_eq_true, pk_us, pk_un]; done) | ((try simp (disch := omega) only [setR_at, setR_twice, setL_at, setL_twice, setR_2, setL_1, setR_ne, setL_ne, ne_eq, Nat.reduceEqDiff, not_false_eq_true, pk_us, pk_un]); refine Prod.ext (funext fun z => ?_) rfl; simp only [setR]; (repeat' split) <;> first | rfl | (exfalso; omega))) rfl (by first | rfl | (simp (disch := omega) only [setR_at, setR_twice, setL_at, setL_twice, setR_2, setL_1, setR_ne, setL_ne, ne_eq, Nat.reduceEqDiff, not_false_eq_true, pk_us, pk_un]; done) | ((try simp (disch := omega) only [setR_at, setR_twice, setL_at, setL_twice, setR_2, setL_1, setR_ne, setL_ne, ne_eq, Nat.reduceEqDiff, not_false_eq_true, pk_us, pk_un]); refine Prod.ext (funext fun z => ?_) rfl; simp only [setR]; (repeat' split) <;> first | rfl | (exfalso; omega))) ?_
            refine aw_iload (pc := 107) C 0 dX9_ahead_107 rfl ?_
            exact aw_iretP (pc := 109) C rfl dX9_ahead_109 (pm_scr (an' := .inr (oI (nxt (goM n (σ.1 20) kk) n), σ.1 20)) (by rw [sAhead, if_pos ⟨h9, h27⟩, cl_nI (show kk < 2147483648 by omega), cl_nI (show ww < 2147483648 by omega), aheadV, if_neg h55, if_neg h67, if_pos h76]) rfl (fun r hr => by simp only [anS, setR]; (repeat' split) <;> first | rfl | (subst_vars; first | rfl | exact absurd (by decide) hr)) rfl)
        · refine aw_iload_n (pc := 70) C 0 dX9_ahead_70 rfl ?_
          refine aw_goto (pc := 71) C 94 dX9_ahead_71 (by decide) ?_
          refine aw_istore (pc := 94) C [(4, .int (goD n (σ.1 20) kk)), (3, .int (goD n (σ.1 20) kk)), (0, .ref 73), (1, .int (nI kk)), (2, .int (nI ww))] dX9_ahead_94 (Nat.le_of_ble_eq_true rfl) rfl ?_
          refine aw_aload_n (pc := 96) C 2 dX9_ahead_96 rfl ?_
          refine aw_getR (pc := 97) C fl_X9_16 sh73 rfl dX9_ahead_97 ?_
          refine aw_aload_n (pc := 100) C 2 dX9_ahead_100 rfl ?_
          refine aw_getR (pc := 101) C fl_X9_9 sh73 rfl dX9_ahead_101 ?_
          refine aw_cS0 (pc := 104) C (c_X9_row_76_74 _  ) lk_X9_166 dX9_ahead_104 (by decide) (Nat.le_of_ble_eq_true rfl) rfl rfl ?_
          refine aw_conv (σ' := setR (setR σ 22 (σ.1 20)) 20 (σ.1 20)) (st' := []) (by first | rfl | (simp (disch := omega) only [setR_at, setR_twice, setL_at, setL_twice, setR_2, setL_1, setR_ne, setL_ne, ne_eq, Nat.reduceEqDiff, not_false_eq_true, pk_us, pk_un]; done) | ((try simp (disch := omega) only [setR_at, setR_twice, setL_at, setL_twice, setR_2, setL_1, setR_ne, setL_ne, ne_eq, Nat.reduceEqDiff, not_false_eq_true, pk_us, pk_un]); refine Prod.ext (funext fun z => ?_) rfl; simp only [setR]; (repeat' split) <;> first | rfl | (exfalso; omega))) rfl (by first | rfl | (simp (disch := omega) only [setR_at, setR_twice, setL_at, setL_twice, setR_2, setL_1, setR_ne, setL_ne, ne_eq, Nat.reduceEqDiff, not_false_eq_true, pk_us, pk_un]; done) | ((try simp (disch := omega) only [setR_at, setR_twice, setL_at, setL_twice, setR_2, setL_1, setR_ne, setL_ne, ne_eq, Nat.reduceEqDiff, not_false_eq_true, pk_us, pk_un]); refine Prod.ext (funext fun z => ?_) rfl; simp only [setR]; (repeat' split) <;> first | rfl | (exfalso; omega))) ?_
          refine aw_iload (pc := 107) C 0 dX9_ahead_107 rfl ?_
          exact aw_iretP (pc := 109) C rfl dX9_ahead_109 (pm_scr (an' := .inr (goD n (σ.1 20) kk, σ.1 20)) (by rw [sAhead, if_pos ⟨h9, h27⟩, cl_nI (show kk < 2147483648 by omega), cl_nI (show ww < 2147483648 by omega), aheadV, if_neg h55, if_pos h67]) rfl (fun r hr => by simp only [anS, setR]; (repeat' split) <;> first | rfl | (subst_vars; first | rfl | exact absurd (by decide) hr)) rfl)
      · refine aw_aload_n (pc := 58) C 1 dX9_ahead_58 rfl ?_
        refine aw_cVI (pc := 59) C (c_X9_home _ n (by first | rfl | (simp (disch := omega) only [setR_at, setR_twice, setL_at, setL_twice, setR_2, setL_1, setR_ne, setL_ne, ne_eq, Nat.reduceEqDiff, not_false_eq_true, pk_us, pk_un]; exact hokk.2.1)) hz ) lk_X9_157 sh73 rfl dX9_ahead_59 (by decide) (Nat.le_of_ble_eq_true rfl) rfl rfl ?_
        refine aw_conv (σ' := setR (setR σ 22 (σ.1 20)) 20 (goM n (σ.1 20) kk)) (st' := [.int (homeS (goM n (σ.1 20) kk) n)]) (by first | rfl | (simp (disch := omega) only [setR_at, setR_twice, setL_at, setL_twice, setR_2, setL_1, setR_ne, setL_ne, ne_eq, Nat.reduceEqDiff, not_false_eq_true, pk_us, pk_un]; done) | ((try simp (disch := omega) only [setR_at, setR_twice, setL_at, setL_twice, setR_2, setL_1, setR_ne, setL_ne, ne_eq, Nat.reduceEqDiff, not_false_eq_true, pk_us, pk_un]); refine Prod.ext (funext fun z => ?_) rfl; simp only [setR]; (repeat' split) <;> first | rfl | (exfalso; omega))) rfl (by first | rfl | (simp (disch := omega) only [setR_at, setR_twice, setL_at, setL_twice, setR_2, setL_1, setR_ne, setL_ne, ne_eq, Nat.reduceEqDiff, not_false_eq_true, pk_us, pk_un]; done) | ((try simp (disch := omega) only [setR_at, setR_twice, setL_at, setL_twice, setR_2, setL_1, setR_ne, setL_ne, ne_eq, Nat.reduceEqDiff, not_false_eq_true, pk_us, pk_un]); refine Prod.ext (funext fun z => ?_) rfl; simp only [setR]; (repeat' split) <;> first | rfl | (exfalso; omega))) ?_
        refine aw_goto (pc := 62) C 94 dX9_ahead_62 (by decide) ?_
        refine aw_istore (pc := 94) C [(4, .int (homeS (goM n (σ.1 20) kk) n)), (3, .int (goD n (σ.1 20) kk)), (0, .ref 73), (1, .int (nI kk)), (2, .int (nI ww))] dX9_ahead_94 (Nat.le_of_ble_eq_true rfl) rfl ?_
        refine aw_aload_n (pc := 96) C 2 dX9_ahead_96 rfl ?_
        refine aw_getR (pc := 97) C fl_X9_16 sh73 rfl dX9_ahead_97 ?_
        refine aw_aload_n (pc := 100) C 2 dX9_ahead_100 rfl ?_
        refine aw_getR (pc := 101) C fl_X9_9 sh73 rfl dX9_ahead_101 ?_
        refine aw_cS0 (pc := 104) C (c_X9_row_76_74 _  ) lk_X9_166 dX9_ahead_104 (by decide) (Nat.le_of_ble_eq_true rfl) rfl rfl ?_
        refine aw_conv (σ' := setR (setR σ 22 (σ.1 20)) 20 (σ.1 20)) (st' := []) (by first | rfl | (simp (disch := omega) only [setR_at, setR_twice, setL_at, setL_twice, setR_2, setL_1, setR_ne, setL_ne, ne_eq, Nat.reduceEqDiff, not_false_eq_true, pk_us, pk_un]; done) | ((try simp (disch := omega) only [setR_at, setR_twice, setL_at, setL_twice, setR_2, setL_1, setR_ne, setL_ne, ne_eq, Nat.reduceEqDiff, not_false_eq_true, pk_us, pk_un]); refine Prod.ext (funext fun z => ?_) rfl; simp only [setR]; (repeat' split) <;> first | rfl | (exfalso; omega))) rfl (by first | rfl | (simp (disch := omega) only [setR_at, setR_twice, setL_at, setL_twice, setR_2, setL_1, setR_ne, setL_ne, ne_eq, Nat.reduceEqDiff, not_false_eq_true, pk_us, pk_un]; done) | ((try simp (disch := omega) only [setR_at, setR_twice, setL_at, setL_twice, setR_2, setL_1, setR_ne, setL_ne, ne_eq, Nat.reduceEqDiff, not_false_eq_true, pk_us, pk_un]); refine Prod.ext (funext fun z => ?_) rfl; simp only [setR]; (repeat' split) <;> first | rfl | (exfalso; omega))) ?_
        refine aw_iload (pc := 107) C 0 dX9_ahead_107 rfl ?_
        exact aw_iretP (pc := 109) C rfl dX9_ahead_109 (pm_scr (an' := .inr (homeS (goM n (σ.1 20) kk) n, σ.1 20)) (by rw [sAhead, if_pos ⟨h9, h27⟩, cl_nI (show kk < 2147483648 by omega), cl_nI (show ww < 2147483648 by omega), aheadV, if_pos h55]) rfl (fun r hr => by simp only [anS, setR]; (repeat' split) <;> first | rfl | (subst_vars; first | rfl | exact absurd (by decide) hr)) rfl)
    · refine aw_aload_n (pc := 30) C 0 dX9_ahead_30 rfl ?_
      refine aw_ldc (pc := 31) C dX9_ahead_31 kc_X9_46 ?_
      refine aw_cVI (pc := 33) C (c_X9_finds _ (-100000001) 0 (by decide) (by decide)) lk_X9_48 sh73 rfl dX9_ahead_33 (by decide) (Nat.le_of_ble_eq_true rfl) rfl rfl ?_
      exact aw_iretP (pc := 36) C rfl dX9_ahead_36 (pm_of (an' := .inl 0) (by rw [sAhead, if_neg (fun z => h27 (z.2))]) rfl rfl)
theorem c_X9_winner (σ : St) (n : Nat) (hok : Ok n (σ.1 20)) : AMet Y_X9_winner [.ref 73] σ (PM σ (sWinner (σ.1 20) n)) := by
  refine am_intro (by decide +kernel) (Nat.le_of_ble_eq_true rfl) (fun K C => ?_)
  have hz := hok.1
  have hn := hok.2.1
  refine aw_aload_n (pc := 0) C 0 dX9_winner_0 rfl ?_
  refine aw_getR (pc := 1) C fl_X9_9 sh73 rfl dX9_winner_1 ?_
  refine aw_aload_n (pc := 4) C 0 dX9_winner_4 rfl ?_
  refine aw_getR (pc := 5) C fl_X9_16 sh73 rfl dX9_winner_5 ?_
  refine aw_cS0 (pc := 8) C (c_X9_row_74_76 _  ) lk_X9_166 dX9_winner_8 (by decide) (Nat.le_of_ble_eq_true rfl) rfl rfl ?_
  refine aw_aload_n (pc := 11) C 0 dX9_winner_11 rfl ?_
  refine aw_cV0 (pc := 12) C (c_X9_allGoHome _ n (by simp (disch := omega) only [setR_at, setR_twice, setL_at, setL_twice, setR_2, setL_1, setR_ne, setL_ne, ne_eq, Nat.reduceEqDiff, not_false_eq_true, pk_us, pk_un]; exact hok) ) lk_X9_173 sh73 rfl dX9_winner_12 (by decide) (Nat.le_of_ble_eq_true rfl) rfl rfl ?_
  refine aw_conv (σ' := setR (setR σ 22 (σ.1 20)) 20 (goM n (σ.1 20) 180)) (st' := []) (by first | rfl | (simp (disch := omega) only [setR_at, setR_twice, setL_at, setL_twice, setR_2, setL_1, setR_ne, setL_ne, ne_eq, Nat.reduceEqDiff, not_false_eq_true, pk_us, pk_un]; done) | ((try simp (disch := omega) only [setR_at, setR_twice, setL_at, setL_twice, setR_2, setL_1, setR_ne, setL_ne, ne_eq, Nat.reduceEqDiff, not_false_eq_true, pk_us, pk_un]); refine Prod.ext (funext fun z => ?_) rfl; simp only [setR]; (repeat' split) <;> first | rfl | (exfalso; omega))) rfl (by first | rfl | (simp (disch := omega) only [setR_at, setR_twice, setL_at, setL_twice, setR_2, setL_1, setR_ne, setL_ne, ne_eq, Nat.reduceEqDiff, not_false_eq_true, pk_us, pk_un]; done) | ((try simp (disch := omega) only [setR_at, setR_twice, setL_at, setL_twice, setR_2, setL_1, setR_ne, setL_ne, ne_eq, Nat.reduceEqDiff, not_false_eq_true, pk_us, pk_un]); refine Prod.ext (funext fun z => ?_) rfl; simp only [setR]; (repeat' split) <;> first | rfl | (exfalso; omega))) ?_
  have hokk := hok.go 180
  refine aw_aload_n (pc := 15) C 0 dX9_winner_15 rfl ?_
  refine aw_cVI (pc := 16) C (c_X9_firstHome _ n (by first | rfl | (simp (disch := omega) only [setR_at, setR_twice, setL_at, setL_twice, setR_2, setL_1, setR_ne, setL_ne, ne_eq, Nat.reduceEqDiff, not_false_eq_true, pk_us, pk_un]; exact hokk.2.1)) hz ) lk_X9_176 sh73 rfl dX9_winner_16 (by decide) (Nat.le_of_ble_eq_true rfl) rfl rfl ?_
  refine aw_conv (σ' := setR (setR σ 22 (σ.1 20)) 20 (goM n (σ.1 20) 180)) (st' := [.int (oI (fst (goM n (σ.1 20) 180) n))]) (by first | rfl | (simp (disch := omega) only [setR_at, setR_twice, setL_at, setL_twice, setR_2, setL_1, setR_ne, setL_ne, ne_eq, Nat.reduceEqDiff, not_false_eq_true, pk_us, pk_un]; done) | ((try simp (disch := omega) only [setR_at, setR_twice, setL_at, setL_twice, setR_2, setL_1, setR_ne, setL_ne, ne_eq, Nat.reduceEqDiff, not_false_eq_true, pk_us, pk_un]); refine Prod.ext (funext fun z => ?_) rfl; simp only [setR]; (repeat' split) <;> first | rfl | (exfalso; omega))) rfl (by first | rfl | (simp (disch := omega) only [setR_at, setR_twice, setL_at, setL_twice, setR_2, setL_1, setR_ne, setL_ne, ne_eq, Nat.reduceEqDiff, not_false_eq_true, pk_us, pk_un]; done) | ((try simp (disch := omega) only [setR_at, setR_twice, setL_at, setL_twice, setR_2, setL_1, setR_ne, setL_ne, ne_eq, Nat.reduceEqDiff, not_false_eq_true, pk_us, pk_un]); refine Prod.ext (funext fun z => ?_) rfl; simp only [setR]; (repeat' split) <;> first | rfl | (exfalso; omega))) ?_
  refine aw_istore_n (pc := 19) C [(1, .int (oI (fst (goM n (σ.1 20) 180) n))), (0, .ref 73)] dX9_winner_19 (Nat.le_of_ble_eq_true rfl) rfl ?_
  refine aw_aload_n (pc := 20) C 1 dX9_winner_20 rfl ?_
  refine aw_getR (pc := 21) C fl_X9_16 sh73 rfl dX9_winner_21 ?_
  refine aw_aload_n (pc := 24) C 1 dX9_winner_24 rfl ?_
  refine aw_getR (pc := 25) C fl_X9_9 sh73 rfl dX9_winner_25 ?_
  refine aw_cS0 (pc := 28) C (c_X9_row_76_74 _  ) lk_X9_166 dX9_winner_28 (by decide) (Nat.le_of_ble_eq_true rfl) rfl rfl ?_
  refine aw_conv (σ' := setR (setR σ 22 (σ.1 20)) 20 (σ.1 20)) (st' := []) (by first | rfl | (simp (disch := omega) only [setR_at, setR_twice, setL_at, setL_twice, setR_2, setL_1, setR_ne, setL_ne, ne_eq, Nat.reduceEqDiff, not_false_eq_true, pk_us, pk_un]; done) | ((try simp (disch := omega) only [setR_at, setR_twice, setL_at, setL_twice, setR_2, setL_1, setR_ne, setL_ne, ne_eq, Nat.reduceEqDiff, not_false_eq_true, pk_us, pk_un]); refine Prod.ext (funext fun z => ?_) rfl; simp only [setR]; (repeat' split) <;> first | rfl | (exfalso; omega))) rfl (by first | rfl | (simp (disch := omega) only [setR_at, setR_twice, setL_at, setL_twice, setR_2, setL_1, setR_ne, setL_ne, ne_eq, Nat.reduceEqDiff, not_false_eq_true, pk_us, pk_un]; done) | ((try simp (disch := omega) only [setR_at, setR_twice, setL_at, setL_twice, setR_2, setL_1, setR_ne, setL_ne, ne_eq, Nat.reduceEqDiff, not_false_eq_true, pk_us, pk_un]); refine Prod.ext (funext fun z => ?_) rfl; simp only [setR]; (repeat' split) <;> first | rfl | (exfalso; omega))) ?_
  refine aw_aload_n (pc := 31) C 1 dX9_winner_31 rfl ?_
  refine aw_iload_n (pc := 32) C 0 dX9_winner_32 rfl ?_
  rcases hb : fst (goM n (σ.1 20) 180) n with _ | b
  · refine aw_top C ((-1)) rfl ?_
    refine aw_cVI (pc := 33) C (c_X9_orNone_m _  ) lk_X9_143 sh73 rfl dX9_winner_33 (by decide) (Nat.le_of_ble_eq_true rfl) rfl rfl ?_
    refine aw_conv (σ' := setR (setR (setR σ 22 (σ.1 20)) 20 (σ.1 20)) 24 (upd (σ.1 24) 3 (σ.1 24 3 + 1))) (st' := [.int ((-100000004))]) (by first | rfl | (simp (disch := omega) only [setR_at, setR_twice, setL_at, setL_twice, setR_2, setL_1, setR_ne, setL_ne, ne_eq, Nat.reduceEqDiff, not_false_eq_true, pk_us, pk_un]; done) | ((try simp (disch := omega) only [setR_at, setR_twice, setL_at, setL_twice, setR_2, setL_1, setR_ne, setL_ne, ne_eq, Nat.reduceEqDiff, not_false_eq_true, pk_us, pk_un]); refine Prod.ext (funext fun z => ?_) rfl; simp only [setR]; (repeat' split) <;> first | rfl | (exfalso; omega))) rfl (by first | rfl | (simp (disch := omega) only [setR_at, setR_twice, setL_at, setL_twice, setR_2, setL_1, setR_ne, setL_ne, ne_eq, Nat.reduceEqDiff, not_false_eq_true, pk_us, pk_un]; done) | ((try simp (disch := omega) only [setR_at, setR_twice, setL_at, setL_twice, setR_2, setL_1, setR_ne, setL_ne, ne_eq, Nat.reduceEqDiff, not_false_eq_true, pk_us, pk_un]); refine Prod.ext (funext fun z => ?_) rfl; simp only [setR]; (repeat' split) <;> first | rfl | (exfalso; omega))) ?_
    exact aw_iretP (pc := 36) C rfl dX9_winner_36 (pm_scr (an' := .inl 3) (by simp only [sWinner, hb]) rfl (fun r hr => by simp only [anS, setR]; (repeat' split) <;> first | rfl | (subst_vars; first | rfl | exact absurd (by decide) hr)) rfl)
  · have hbl := fst_lt hb
    refine aw_top C (nI (b)) rfl ?_
    refine aw_cVI (pc := 33) C (c_X9_orNone_n _  b (by omega)) lk_X9_143 sh73 rfl dX9_winner_33 (by decide) (Nat.le_of_ble_eq_true rfl) rfl rfl ?_
    refine aw_conv (σ' := setR (setR σ 22 (σ.1 20)) 20 (σ.1 20)) (st' := [.int (nI b)]) (by first | rfl | (simp (disch := omega) only [setR_at, setR_twice, setL_at, setL_twice, setR_2, setL_1, setR_ne, setL_ne, ne_eq, Nat.reduceEqDiff, not_false_eq_true, pk_us, pk_un]; done) | ((try simp (disch := omega) only [setR_at, setR_twice, setL_at, setL_twice, setR_2, setL_1, setR_ne, setL_ne, ne_eq, Nat.reduceEqDiff, not_false_eq_true, pk_us, pk_un]); refine Prod.ext (funext fun z => ?_) rfl; simp only [setR]; (repeat' split) <;> first | rfl | (exfalso; omega))) rfl (by first | rfl | (simp (disch := omega) only [setR_at, setR_twice, setL_at, setL_twice, setR_2, setL_1, setR_ne, setL_ne, ne_eq, Nat.reduceEqDiff, not_false_eq_true, pk_us, pk_un]; done) | ((try simp (disch := omega) only [setR_at, setR_twice, setL_at, setL_twice, setR_2, setL_1, setR_ne, setL_ne, ne_eq, Nat.reduceEqDiff, not_false_eq_true, pk_us, pk_un]); refine Prod.ext (funext fun z => ?_) rfl; simp only [setR]; (repeat' split) <;> first | rfl | (exfalso; omega))) ?_
    exact aw_iretP (pc := 36) C rfl dX9_winner_36 (pm_scr (an' := .inr (nI (b), σ.1 20)) (by simp only [sWinner, hb]) rfl (fun r hr => by simp only [anS, setR]; (repeat' split) <;> first | rfl | (subst_vars; first | rfl | exact absurd (by decide) hr)) rfl)
theorem c_X9_place (σ : St) (n : Nat) (hok : Ok n (σ.1 20)) (r : Int32) : AMet Y_X9_place [.ref 73, .int r] σ (PM σ (sPlace (σ.1 20) n r)) := by
  refine am_intro (by decide +kernel) (Nat.le_of_ble_eq_true rfl) (fun K C => ?_)
  have hz := hok.1
  have hn := hok.2.1
  refine aw_aload_n (pc := 0) C 0 dX9_place_0 rfl ?_
  refine aw_iload_n (pc := 1) C 1 dX9_place_1 rfl ?_
  refine aw_cVI (pc := 2) C (c_X9_isRunner _ n hn hz r ) lk_X9_91 sh73 rfl dX9_place_2 (by decide) (Nat.le_of_ble_eq_true rfl) rfl rfl ?_
  refine aw_if_neB (pc := 5) C 15 dX9_place_5 (by decide) (fun h5 => ?_) (fun h5 => ?_)
  · obtain ⟨rr, rfl, hrr⟩ := rgR h5 hz
    refine aw_aload_n (pc := 15) C 0 dX9_place_15 rfl ?_
    refine aw_getR (pc := 16) C fl_X9_9 sh73 rfl dX9_place_16 ?_
    refine aw_aload_n (pc := 19) C 0 dX9_place_19 rfl ?_
    refine aw_getR (pc := 20) C fl_X9_16 sh73 rfl dX9_place_20 ?_
    refine aw_cS0 (pc := 23) C (c_X9_row_74_76 _  ) lk_X9_166 dX9_place_23 (by decide) (Nat.le_of_ble_eq_true rfl) rfl rfl ?_
    refine aw_aload_n (pc := 26) C 0 dX9_place_26 rfl ?_
    refine aw_cV0 (pc := 27) C (c_X9_allGoHome _ n (by simp (disch := omega) only [setR_at, setR_twice, setL_at, setL_twice, setR_2, setL_1, setR_ne, setL_ne, ne_eq, Nat.reduceEqDiff, not_false_eq_true, pk_us, pk_un]; exact hok) ) lk_X9_173 sh73 rfl dX9_place_27 (by decide) (Nat.le_of_ble_eq_true rfl) rfl rfl ?_
    refine aw_conv (σ' := setR (setR σ 22 (σ.1 20)) 20 (goM n (σ.1 20) 180)) (st' := []) (by first | rfl | (simp (disch := omega) only [setR_at, setR_twice, setL_at, setL_twice, setR_2, setL_1, setR_ne, setL_ne, ne_eq, Nat.reduceEqDiff, not_false_eq_true, pk_us, pk_un]; done) | ((try simp (disch := omega) only [setR_at, setR_twice, setL_at, setL_twice, setR_2, setL_1, setR_ne, setL_ne, ne_eq, Nat.reduceEqDiff, not_false_eq_true, pk_us, pk_un]); refine Prod.ext (funext fun z => ?_) rfl; simp only [setR]; (repeat' split) <;> first | rfl | (exfalso; omega))) rfl (by first | rfl | (simp (disch := omega) only [setR_at, setR_twice, setL_at, setL_twice, setR_2, setL_1, setR_ne, setL_ne, ne_eq, Nat.reduceEqDiff, not_false_eq_true, pk_us, pk_un]; done) | ((try simp (disch := omega) only [setR_at, setR_twice, setL_at, setL_twice, setR_2, setL_1, setR_ne, setL_ne, ne_eq, Nat.reduceEqDiff, not_false_eq_true, pk_us, pk_un]); refine Prod.ext (funext fun z => ?_) rfl; simp only [setR]; (repeat' split) <;> first | rfl | (exfalso; omega))) ?_
    have hokk := hok.go 180
    refine aw_iconst (pc := 30) (v := 1) C dX9_place_30 rfl ?_
    refine aw_istore_n (pc := 31) C [(2, .int 1), (0, .ref 73), (1, .int (nI rr))] dX9_place_31 (Nat.le_of_ble_eq_true rfl) rfl ?_
    refine aw_iconst (pc := 32) (v := 0) C dX9_place_32 rfl ?_
    refine aw_istore_n (pc := 33) C [(3, .int 0), (2, .int 1), (0, .ref 73), (1, .int (nI rr))] dX9_place_33 (Nat.le_of_ble_eq_true rfl) rfl ?_
    refine aw_lvs C [0, 1, 2, 3] [(3, .int 0), (2, .int 1), (0, .ref 73), (1, .int (nI rr))] rfl ?_
    refine aw_conv (σ' := setR (setR σ 22 (σ.1 20)) 20 (goM n (σ.1 20) 180)) (lv' := [(3, .int (nI 0)), (2, .int (placeS (goM n (σ.1 20) 180) rr 0)), (0, .ref 73), (1, .int (nI rr))]) rfl rfl rfl ?_
    refine loop_up (P := fun k => AW _ K _ (setR (setR σ 22 (σ.1 20)) 20 (goM n (σ.1 20) 180)) 34 [(3, .int (nI k)), (2, .int (placeS (goM n (σ.1 20) 180) rr k)), (0, .ref 73), (1, .int (nI rr))] []) n ?_ ?_ 0 (by omega) 
    · refine aw_iload_n (pc := 34) C 0 dX9_place_34 rfl ?_
      refine aw_aload_n (pc := 35) C 2 dX9_place_35 rfl ?_
      refine aw_getR (pc := 36) C fl_X9_9 sh73 rfl dX9_place_36 ?_
      refine aw_iconst (pc := 39) (v := 2) C dX9_place_39 rfl ?_
      refine aw_ild (pc := 40) (k := 2) C (2) ((goM n (σ.1 20) 180) 2) sh74 dX9_place_40 rfl (by omega) rfl (by first | rfl | (simp (disch := omega) only [setR_at, setR_twice, setL_at, setL_twice, setR_2, setL_1, setR_ne, setL_ne, ne_eq, Nat.reduceEqDiff, not_false_eq_true, pk_us, pk_un]; done) | ((try simp (disch := omega) only [setR_at, setR_twice, setL_at, setL_twice, setR_2, setL_1, setR_ne, setL_ne, ne_eq, Nat.reduceEqDiff, not_false_eq_true, pk_us, pk_un]); refine Prod.ext (funext fun z => ?_) rfl; simp only [setR]; (repeat' split) <;> first | rfl | (exfalso; omega))) ?_
      refine aw_top C (nI (n)) hokk.2.1 ?_
      refine aw_icmp_geN (pc := 41) C n n 72 rfl rfl (by omega) (by omega) dX9_place_41 (by decide) (fun h41 => ?_) (fun h41 => absurd h41 (by omega))
      refine aw_aload_n (pc := 72) C 2 dX9_place_72 rfl ?_
      refine aw_getR (pc := 73) C fl_X9_16 sh73 rfl dX9_place_73 ?_
      refine aw_aload_n (pc := 76) C 2 dX9_place_76 rfl ?_
      refine aw_getR (pc := 77) C fl_X9_9 sh73 rfl dX9_place_77 ?_
      refine aw_cS0 (pc := 80) C (c_X9_row_76_74 _  ) lk_X9_166 dX9_place_80 (by decide) (Nat.le_of_ble_eq_true rfl) rfl rfl ?_
      refine aw_conv (σ' := setR (setR σ 22 (σ.1 20)) 20 (σ.1 20)) (st' := []) (by first | rfl | (simp (disch := omega) only [setR_at, setR_twice, setL_at, setL_twice, setR_2, setL_1, setR_ne, setL_ne, ne_eq, Nat.reduceEqDiff, not_false_eq_true, pk_us, pk_un]; done) | ((try simp (disch := omega) only [setR_at, setR_twice, setL_at, setL_twice, setR_2, setL_1, setR_ne, setL_ne, ne_eq, Nat.reduceEqDiff, not_false_eq_true, pk_us, pk_un]); refine Prod.ext (funext fun z => ?_) rfl; simp only [setR]; (repeat' split) <;> first | rfl | (exfalso; omega))) rfl (by first | rfl | (simp (disch := omega) only [setR_at, setR_twice, setL_at, setL_twice, setR_2, setL_1, setR_ne, setL_ne, ne_eq, Nat.reduceEqDiff, not_false_eq_true, pk_us, pk_un]; done) | ((try simp (disch := omega) only [setR_at, setR_twice, setL_at, setL_twice, setR_2, setL_1, setR_ne, setL_ne, ne_eq, Nat.reduceEqDiff, not_false_eq_true, pk_us, pk_un]); refine Prod.ext (funext fun z => ?_) rfl; simp only [setR]; (repeat' split) <;> first | rfl | (exfalso; omega))) ?_
      refine aw_iload_n (pc := 83) C 1 dX9_place_83 rfl ?_
      exact aw_iretP (pc := 84) C rfl dX9_place_84 (pm_scr (an' := .inr (placeS (goM n (σ.1 20) 180) rr n, σ.1 20)) (by rw [sPlace, if_pos h5, cl_nI (show rr < 2147483648 by omega)]) rfl (fun r hr => by simp only [anS, setR]; (repeat' split) <;> first | rfl | (subst_vars; first | rfl | exact absurd (by decide) hr)) rfl)
    · intro k hk34 ih34 
      refine aw_iload_n (pc := 34) C 0 dX9_place_34 rfl ?_
      refine aw_aload_n (pc := 35) C 2 dX9_place_35 rfl ?_
      refine aw_getR (pc := 36) C fl_X9_9 sh73 rfl dX9_place_36 ?_
      refine aw_iconst (pc := 39) (v := 2) C dX9_place_39 rfl ?_
      refine aw_ild (pc := 40) (k := 2) C (2) ((goM n (σ.1 20) 180) 2) sh74 dX9_place_40 rfl (by omega) rfl (by first | rfl | (simp (disch := omega) only [setR_at, setR_twice, setL_at, setL_twice, setR_2, setL_1, setR_ne, setL_ne, ne_eq, Nat.reduceEqDiff, not_false_eq_true, pk_us, pk_un]; done) | ((try simp (disch := omega) only [setR_at, setR_twice, setL_at, setL_twice, setR_2, setL_1, setR_ne, setL_ne, ne_eq, Nat.reduceEqDiff, not_false_eq_true, pk_us, pk_un]); refine Prod.ext (funext fun z => ?_) rfl; simp only [setR]; (repeat' split) <;> first | rfl | (exfalso; omega))) ?_
      refine aw_top C (nI (n)) hokk.2.1 ?_
      refine aw_icmp_geN (pc := 41) C k n 72 rfl rfl (by omega) (by omega) dX9_place_41 (by decide) (fun h41 => absurd h41 (by omega)) (fun h41 => ?_)
      refine aw_iload_n (pc := 44) C 1 dX9_place_44 rfl ?_
      refine aw_iload_n (pc := 45) C 0 dX9_place_45 rfl ?_
      refine aw_iload_n (pc := 46) C 3 dX9_place_46 rfl ?_
      refine aw_icmp_eqN (pc := 47) C k rr 63 rfl rfl (by omega) (by omega) dX9_place_47 (by decide) (fun h47 => ?_) (fun h47 => ?_)
      · refine aw_iconst (pc := 63) (v := 0) C dX9_place_63 rfl ?_
        refine aw_iadd (pc := 64) C dX9_place_64 ?_
        refine aw_istore_n (pc := 65) C [(2, .int ((placeS (goM n (σ.1 20) 180) rr k) + 0)), (3, .int (nI k)), (0, .ref 73), (1, .int (nI rr))] dX9_place_65 (Nat.le_of_ble_eq_true rfl) rfl ?_
        refine aw_iincN (pc := 66) C 1 k [(3, .int (nI (k + 1))), (2, .int ((placeS (goM n (σ.1 20) 180) rr k) + 0)), (0, .ref 73), (1, .int (nI rr))] dX9_place_66 rfl rfl rfl (Nat.le_of_ble_eq_true rfl) rfl ?_
        refine aw_goto (pc := 69) C 34 dX9_place_69 (by decide) ?_
        refine aw_lvs C [0, 1, 2, 3] [(3, .int (nI (k + 1))), (2, .int ((placeS (goM n (σ.1 20) 180) rr k) + 0)), (0, .ref 73), (1, .int (nI rr))] rfl ?_
        exact aw_conv (σ' := setR (setR σ 22 (σ.1 20)) 20 (goM n (σ.1 20) 180)) (lv' := [(3, .int (nI (k + 1))), (2, .int (placeS (goM n (σ.1 20) 180) rr (k + 1))), (0, .ref 73), (1, .int (nI rr))]) rfl (by rw [placeS, if_pos h47]) rfl ih34
      · refine aw_aload_n (pc := 50) C 2 dX9_place_50 rfl ?_
        refine aw_iload_n (pc := 51) C 0 dX9_place_51 rfl ?_
        refine aw_iload_n (pc := 52) C 3 dX9_place_52 rfl ?_
        refine aw_cVI (pc := 53) C (c_X9_isAhead _ k rr (by omega) (by omega)) lk_X9_170 sh73 rfl dX9_place_53 (by decide) (Nat.le_of_ble_eq_true rfl) rfl rfl ?_
        refine aw_conv (σ' := setR (setR σ 22 (σ.1 20)) 20 (goM n (σ.1 20) 180)) (st' := [.int (b2i (aheadP (goM n (σ.1 20) 180) k rr)), .int (placeS (goM n (σ.1 20) 180) rr k)]) (by first | rfl | (simp (disch := omega) only [setR_at, setR_twice, setL_at, setL_twice, setR_2, setL_1, setR_ne, setL_ne, ne_eq, Nat.reduceEqDiff, not_false_eq_true, pk_us, pk_un]; done) | ((try simp (disch := omega) only [setR_at, setR_twice, setL_at, setL_twice, setR_2, setL_1, setR_ne, setL_ne, ne_eq, Nat.reduceEqDiff, not_false_eq_true, pk_us, pk_un]); refine Prod.ext (funext fun z => ?_) rfl; simp only [setR]; (repeat' split) <;> first | rfl | (exfalso; omega))) rfl (by first | rfl | (simp (disch := omega) only [setR_at, setR_twice, setL_at, setL_twice, setR_2, setL_1, setR_ne, setL_ne, ne_eq, Nat.reduceEqDiff, not_false_eq_true, pk_us, pk_un]; done) | ((try simp (disch := omega) only [setR_at, setR_twice, setL_at, setL_twice, setR_2, setL_1, setR_ne, setL_ne, ne_eq, Nat.reduceEqDiff, not_false_eq_true, pk_us, pk_un]); refine Prod.ext (funext fun z => ?_) rfl; simp only [setR]; (repeat' split) <;> first | rfl | (exfalso; omega))) ?_
        refine aw_if_eqB (pc := 56) C 63 dX9_place_56 (by decide) (fun h56 => ?_) (fun h56 => ?_)
        · refine aw_iconst (pc := 63) (v := 0) C dX9_place_63 rfl ?_
          refine aw_iadd (pc := 64) C dX9_place_64 ?_
          refine aw_istore_n (pc := 65) C [(2, .int ((placeS (goM n (σ.1 20) 180) rr k) + 0)), (3, .int (nI k)), (0, .ref 73), (1, .int (nI rr))] dX9_place_65 (Nat.le_of_ble_eq_true rfl) rfl ?_
          refine aw_iincN (pc := 66) C 1 k [(3, .int (nI (k + 1))), (2, .int ((placeS (goM n (σ.1 20) 180) rr k) + 0)), (0, .ref 73), (1, .int (nI rr))] dX9_place_66 rfl rfl rfl (Nat.le_of_ble_eq_true rfl) rfl ?_
          refine aw_goto (pc := 69) C 34 dX9_place_69 (by decide) ?_
          refine aw_lvs C [0, 1, 2, 3] [(3, .int (nI (k + 1))), (2, .int ((placeS (goM n (σ.1 20) 180) rr k) + 0)), (0, .ref 73), (1, .int (nI rr))] rfl ?_
          exact aw_conv (σ' := setR (setR σ 22 (σ.1 20)) 20 (goM n (σ.1 20) 180)) (lv' := [(3, .int (nI (k + 1))), (2, .int (placeS (goM n (σ.1 20) 180) rr (k + 1))), (0, .ref 73), (1, .int (nI rr))]) rfl (by rw [placeS, if_neg h47, if_neg h56]) rfl ih34
        · refine aw_iconst (pc := 59) (v := 1) C dX9_place_59 rfl ?_
          refine aw_goto (pc := 60) C 64 dX9_place_60 (by decide) ?_
          refine aw_iadd (pc := 64) C dX9_place_64 ?_
          refine aw_istore_n (pc := 65) C [(2, .int ((placeS (goM n (σ.1 20) 180) rr k) + 1)), (3, .int (nI k)), (0, .ref 73), (1, .int (nI rr))] dX9_place_65 (Nat.le_of_ble_eq_true rfl) rfl ?_
          refine aw_iincN (pc := 66) C 1 k [(3, .int (nI (k + 1))), (2, .int ((placeS (goM n (σ.1 20) 180) rr k) + 1)), (0, .ref 73), (1, .int (nI rr))] dX9_place_66 rfl rfl rfl (Nat.le_of_ble_eq_true rfl) rfl ?_
          refine aw_goto (pc := 69) C 34 dX9_place_69 (by decide) ?_
          refine aw_lvs C [0, 1, 2, 3] [(3, .int (nI (k + 1))), (2, .int ((placeS (goM n (σ.1 20) 180) rr k) + 1)), (0, .ref 73), (1, .int (nI rr))] rfl ?_
          exact aw_conv (σ' := setR (setR σ 22 (σ.1 20)) 20 (goM n (σ.1 20) 180)) (lv' := [(3, .int (nI (k + 1))), (2, .int (placeS (goM n (σ.1 20) 180) rr (k + 1))), (0, .ref 73), (1, .int (nI rr))]) rfl (by rw [placeS, if_neg h47, if_pos h56]) rfl ih34
  · refine aw_aload_n (pc := 8) C 0 dX9_place_8 rfl ?_
    refine aw_ldc (pc := 9) C dX9_place_9 kc_X9_46 ?_
    refine aw_cVI (pc := 11) C (c_X9_finds _ (-100000001) 0 (by decide) (by decide)) lk_X9_48 sh73 rfl dX9_place_11 (by decide) (Nat.le_of_ble_eq_true rfl) rfl rfl ?_
    exact aw_iretP (pc := 14) C rfl dX9_place_14 (pm_of (an' := .inl 0) (by rw [sPlace, if_neg (fun z => h5 (z))]) rfl rfl)
theorem c_X9_wins (σ : St) (n : Nat) (hok : Ok n (σ.1 20)) (r k : Int32) : AMet Y_X9_wins [.ref 73, .int r, .int k] σ (PM σ (sWins (σ.1 20) n r k)) := by
  refine am_intro (by decide +kernel) (Nat.le_of_ble_eq_true rfl) (fun K C => ?_)
  have hz := hok.1
  have hn := hok.2.1
  refine aw_aload_n (pc := 0) C 0 dX9_wins_0 rfl ?_
  refine aw_iload_n (pc := 1) C 1 dX9_wins_1 rfl ?_
  refine aw_cVI (pc := 2) C (c_X9_isRunner _ n hn hz r ) lk_X9_91 sh73 rfl dX9_wins_2 (by decide) (Nat.le_of_ble_eq_true rfl) rfl rfl ?_
  refine aw_if_eqB (pc := 5) C 20 dX9_wins_5 (by decide) (fun h5 => ?_) (fun h5 => ?_)
  · refine aw_aload_n (pc := 20) C 0 dX9_wins_20 rfl ?_
    refine aw_ldc (pc := 21) C dX9_wins_21 kc_X9_46 ?_
    refine aw_cVI (pc := 23) C (c_X9_finds _ (-100000001) 0 (by decide) (by decide)) lk_X9_48 sh73 rfl dX9_wins_23 (by decide) (Nat.le_of_ble_eq_true rfl) rfl rfl ?_
    exact aw_iretP (pc := 26) C rfl dX9_wins_26 (pm_of (an' := .inl 0) (by rw [sWins, if_neg (fun z => h5 (z.1))]) rfl rfl)
  · refine aw_iload_n (pc := 8) C 2 dX9_wins_8 rfl ?_
    refine aw_i2l (pc := 9) C dX9_wins_9 ?_
    refine aw_lconst (pc := 10) (v := 1) C dX9_wins_10 rfl ?_
    refine aw_ldc2 (pc := 11) C dX9_wins_11 kc_X9_179 ?_
    refine aw_cSI (pc := 14) C (c_X9_in _ k 1 10 _ _ _ rfl (by decide) (by decide)) lk_X9_54 dX9_wins_14 (by decide) (Nat.le_of_ble_eq_true rfl) rfl rfl ?_
    refine aw_if_neB (pc := 17) C 27 dX9_wins_17 (by decide) (fun h17 => ?_) (fun h17 => ?_)
    · obtain ⟨rr, rfl, hrr⟩ := rgR h5 hz
      obtain ⟨jj, rfl, hjj0, hjj⟩ := rg 1 10 h17 (by omega) (by omega)
      refine aw_aload_n (pc := 27) C 0 dX9_wins_27 rfl ?_
      refine aw_getR (pc := 28) C fl_X9_9 sh73 rfl dX9_wins_28 ?_
      refine aw_aload_n (pc := 31) C 0 dX9_wins_31 rfl ?_
      refine aw_getR (pc := 32) C fl_X9_16 sh73 rfl dX9_wins_32 ?_
      refine aw_cS0 (pc := 35) C (c_X9_row_74_76 _  ) lk_X9_166 dX9_wins_35 (by decide) (Nat.le_of_ble_eq_true rfl) rfl rfl ?_
      refine aw_iconst (pc := 38) (v := 0) C dX9_wins_38 rfl ?_
      refine aw_istore_n (pc := 39) C [(3, .int 0), (0, .ref 73), (1, .int (nI rr)), (2, .int (nI jj))] dX9_wins_39 (Nat.le_of_ble_eq_true rfl) rfl ?_
      refine aw_iconst (pc := 40) (v := 0) C dX9_wins_40 rfl ?_
      refine aw_istore (pc := 41) C [(4, .int 0), (3, .int 0), (0, .ref 73), (1, .int (nI rr)), (2, .int (nI jj))] dX9_wins_41 (Nat.le_of_ble_eq_true rfl) rfl ?_
      refine aw_lvs C [0, 1, 2, 3, 4] [(4, .int 0), (3, .int 0), (0, .ref 73), (1, .int (nI rr)), (2, .int (nI jj))] rfl ?_
      refine aw_conv (σ' := setR (setR σ 22 (σ.1 20)) 20 (raceM n (σ.1 20) 0)) (lv' := [(4, .int (nI 0)), (3, .int (winsS n (σ.1 20) (nI rr) 0)), (0, .ref 73), (1, .int (nI rr)), (2, .int (nI jj))]) (setR_same (setR σ 22 (σ.1 20)) 20).symm rfl rfl ?_
      refine loop_up (P := fun k => AW _ K _ (setR (setR σ 22 (σ.1 20)) 20 (raceM n (σ.1 20) k)) 43 [(4, .int (nI k)), (3, .int (winsS n (σ.1 20) (nI rr) k)), (0, .ref 73), (1, .int (nI rr)), (2, .int (nI jj))] []) jj ?_ ?_ 0 (by omega) 
      · refine aw_iload (pc := 43) C 0 dX9_wins_43 rfl ?_
        refine aw_iload_n (pc := 45) C 4 dX9_wins_45 rfl ?_
        refine aw_icmp_geN (pc := 46) C jj jj 79 rfl rfl (by omega) (by omega) dX9_wins_46 (by decide) (fun h46 => ?_) (fun h46 => absurd h46 (by omega))
        refine aw_aload_n (pc := 79) C 2 dX9_wins_79 rfl ?_
        refine aw_getR (pc := 80) C fl_X9_9 sh73 rfl dX9_wins_80 ?_
        refine aw_iconst (pc := 83) (v := 1) C dX9_wins_83 rfl ?_
        refine aw_ild (pc := 84) (k := 1) C (1) ((raceM n (σ.1 20) jj) 1) sh74 dX9_wins_84 rfl (by omega) rfl (by first | rfl | (simp (disch := omega) only [setR_at, setR_twice, setL_at, setL_twice, setR_2, setL_1, setR_ne, setL_ne, ne_eq, Nat.reduceEqDiff, not_false_eq_true, pk_us, pk_un]; done) | ((try simp (disch := omega) only [setR_at, setR_twice, setL_at, setL_twice, setR_2, setL_1, setR_ne, setL_ne, ne_eq, Nat.reduceEqDiff, not_false_eq_true, pk_us, pk_un]); refine Prod.ext (funext fun z => ?_) rfl; simp only [setR]; (repeat' split) <;> first | rfl | (exfalso; omega))) ?_
        refine aw_istore (pc := 85) C [(4, .int ((raceM n (σ.1 20) jj) 1)), (3, .int (winsS n (σ.1 20) (nI rr) jj)), (0, .ref 73), (1, .int (nI rr)), (2, .int (nI jj))] dX9_wins_85 (Nat.le_of_ble_eq_true rfl) rfl ?_
        refine aw_aload_n (pc := 87) C 2 dX9_wins_87 rfl ?_
        refine aw_getR (pc := 88) C fl_X9_16 sh73 rfl dX9_wins_88 ?_
        refine aw_aload_n (pc := 91) C 2 dX9_wins_91 rfl ?_
        refine aw_getR (pc := 92) C fl_X9_9 sh73 rfl dX9_wins_92 ?_
        refine aw_cS0 (pc := 95) C (c_X9_row_76_74 _  ) lk_X9_166 dX9_wins_95 (by decide) (Nat.le_of_ble_eq_true rfl) rfl rfl ?_
        refine aw_conv (σ' := setR (setR σ 22 (σ.1 20)) 20 (σ.1 20)) (st' := []) (by first | rfl | (simp (disch := omega) only [setR_at, setR_twice, setL_at, setL_twice, setR_2, setL_1, setR_ne, setL_ne, ne_eq, Nat.reduceEqDiff, not_false_eq_true, pk_us, pk_un]; done) | ((try simp (disch := omega) only [setR_at, setR_twice, setL_at, setL_twice, setR_2, setL_1, setR_ne, setL_ne, ne_eq, Nat.reduceEqDiff, not_false_eq_true, pk_us, pk_un]); refine Prod.ext (funext fun z => ?_) rfl; simp only [setR]; (repeat' split) <;> first | rfl | (exfalso; omega))) rfl (by first | rfl | (simp (disch := omega) only [setR_at, setR_twice, setL_at, setL_twice, setR_2, setL_1, setR_ne, setL_ne, ne_eq, Nat.reduceEqDiff, not_false_eq_true, pk_us, pk_un]; done) | ((try simp (disch := omega) only [setR_at, setR_twice, setL_at, setL_twice, setR_2, setL_1, setR_ne, setL_ne, ne_eq, Nat.reduceEqDiff, not_false_eq_true, pk_us, pk_un]); refine Prod.ext (funext fun z => ?_) rfl; simp only [setR]; (repeat' split) <;> first | rfl | (exfalso; omega))) ?_
        refine aw_aload_n (pc := 98) C 2 dX9_wins_98 rfl ?_
        refine aw_getR (pc := 99) C fl_X9_9 sh73 rfl dX9_wins_99 ?_
        refine aw_iconst (pc := 102) (v := 1) C dX9_wins_102 rfl ?_
        refine aw_iload (pc := 103) C 0 dX9_wins_103 rfl ?_
        refine aw_ist (pc := 105) (k := 1) C (1) (setR (setR σ 22 (σ.1 20)) 20 (upd (σ.1 20) 1 ((raceM n (σ.1 20) jj) 1))) sh74 dX9_wins_105 rfl (by omega) rfl (by first | rfl | (simp (disch := omega) only [setR_at, setR_twice, setL_at, setL_twice, setR_2, setL_1, setR_ne, setL_ne, ne_eq, Nat.reduceEqDiff, not_false_eq_true, pk_us, pk_un]; done) | ((try simp (disch := omega) only [setR_at, setR_twice, setL_at, setL_twice, setR_2, setL_1, setR_ne, setL_ne, ne_eq, Nat.reduceEqDiff, not_false_eq_true, pk_us, pk_un]); refine Prod.ext (funext fun z => ?_) rfl; simp only [setR]; (repeat' split) <;> first | rfl | (exfalso; omega))) ?_
        refine aw_iload_n (pc := 106) C 1 dX9_wins_106 rfl ?_
        exact aw_iretP (pc := 107) C rfl dX9_wins_107 (pm_scr (an' := .inr (winsS n (σ.1 20) (nI rr) jj, upd (σ.1 20) 1 ((raceM n (σ.1 20) jj) 1))) (by rw [sWins, if_pos ⟨h5, h17⟩, cl_nI (show jj < 2147483648 by omega)]) rfl (fun r hr => by simp only [anS, setR]; (repeat' split) <;> first | rfl | (subst_vars; first | rfl | exact absurd (by decide) hr)) rfl)
      · intro k hk43 ih43 
        refine aw_iload (pc := 43) C 0 dX9_wins_43 rfl ?_
        refine aw_iload_n (pc := 45) C 4 dX9_wins_45 rfl ?_
        refine aw_icmp_geN (pc := 46) C k jj 79 rfl rfl (by omega) (by omega) dX9_wins_46 (by decide) (fun h46 => absurd h46 (by omega)) (fun h46 => ?_)
        have hokr := hok.race k
        refine aw_aload_n (pc := 49) C 2 dX9_wins_49 rfl ?_
        refine aw_cV0 (pc := 50) C (c_X9_starts _ n (by first | rfl | (simp (disch := omega) only [setR_at, setR_twice, setL_at, setL_twice, setR_2, setL_1, setR_ne, setL_ne, ne_eq, Nat.reduceEqDiff, not_false_eq_true, pk_us, pk_un]; exact hokr.2.1)) hz ) lk_X9_163 sh73 rfl dX9_wins_50 (by decide) (Nat.le_of_ble_eq_true rfl) rfl rfl ?_
        refine aw_conv (σ' := setR (setR σ 22 (σ.1 20)) 20 (startM (raceM n (σ.1 20) k) n)) (st' := []) (by first | rfl | (simp (disch := omega) only [setR_at, setR_twice, setL_at, setL_twice, setR_2, setL_1, setR_ne, setL_ne, ne_eq, Nat.reduceEqDiff, not_false_eq_true, pk_us, pk_un]; done) | ((try simp (disch := omega) only [setR_at, setR_twice, setL_at, setL_twice, setR_2, setL_1, setR_ne, setL_ne, ne_eq, Nat.reduceEqDiff, not_false_eq_true, pk_us, pk_un]); refine Prod.ext (funext fun z => ?_) rfl; simp only [setR]; (repeat' split) <;> first | rfl | (exfalso; omega))) rfl (by first | rfl | (simp (disch := omega) only [setR_at, setR_twice, setL_at, setL_twice, setR_2, setL_1, setR_ne, setL_ne, ne_eq, Nat.reduceEqDiff, not_false_eq_true, pk_us, pk_un]; done) | ((try simp (disch := omega) only [setR_at, setR_twice, setL_at, setL_twice, setR_2, setL_1, setR_ne, setL_ne, ne_eq, Nat.reduceEqDiff, not_false_eq_true, pk_us, pk_un]); refine Prod.ext (funext fun z => ?_) rfl; simp only [setR]; (repeat' split) <;> first | rfl | (exfalso; omega))) ?_
        have hoks := hokr.start
        refine aw_aload_n (pc := 53) C 2 dX9_wins_53 rfl ?_
        refine aw_cV0 (pc := 54) C (c_X9_allGoHome _ n (by simp (disch := omega) only [setR_at, setR_twice, setL_at, setL_twice, setR_2, setL_1, setR_ne, setL_ne, ne_eq, Nat.reduceEqDiff, not_false_eq_true, pk_us, pk_un]; exact hoks) ) lk_X9_173 sh73 rfl dX9_wins_54 (by decide) (Nat.le_of_ble_eq_true rfl) rfl rfl ?_
        refine aw_conv (σ' := setR (setR σ 22 (σ.1 20)) 20 (goM n (startM (raceM n (σ.1 20) k) n) 180)) (st' := []) (by first | rfl | (simp (disch := omega) only [setR_at, setR_twice, setL_at, setL_twice, setR_2, setL_1, setR_ne, setL_ne, ne_eq, Nat.reduceEqDiff, not_false_eq_true, pk_us, pk_un]; done) | ((try simp (disch := omega) only [setR_at, setR_twice, setL_at, setL_twice, setR_2, setL_1, setR_ne, setL_ne, ne_eq, Nat.reduceEqDiff, not_false_eq_true, pk_us, pk_un]); refine Prod.ext (funext fun z => ?_) rfl; simp only [setR]; (repeat' split) <;> first | rfl | (exfalso; omega))) rfl (by first | rfl | (simp (disch := omega) only [setR_at, setR_twice, setL_at, setL_twice, setR_2, setL_1, setR_ne, setL_ne, ne_eq, Nat.reduceEqDiff, not_false_eq_true, pk_us, pk_un]; done) | ((try simp (disch := omega) only [setR_at, setR_twice, setL_at, setL_twice, setR_2, setL_1, setR_ne, setL_ne, ne_eq, Nat.reduceEqDiff, not_false_eq_true, pk_us, pk_un]); refine Prod.ext (funext fun z => ?_) rfl; simp only [setR]; (repeat' split) <;> first | rfl | (exfalso; omega))) ?_
        have hokg : Ok n (raceM n (σ.1 20) (k + 1)) := hok.race (k + 1)
        refine aw_iload_n (pc := 57) C 1 dX9_wins_57 rfl ?_
        refine aw_aload_n (pc := 58) C 2 dX9_wins_58 rfl ?_
        refine aw_cVI (pc := 59) C (c_X9_firstHome _ n (by first | rfl | (simp (disch := omega) only [setR_at, setR_twice, setL_at, setL_twice, setR_2, setL_1, setR_ne, setL_ne, ne_eq, Nat.reduceEqDiff, not_false_eq_true, pk_us, pk_un]; exact hokg.2.1)) hz ) lk_X9_176 sh73 rfl dX9_wins_59 (by decide) (Nat.le_of_ble_eq_true rfl) rfl rfl ?_
        refine aw_conv (σ' := setR (setR σ 22 (σ.1 20)) 20 (goM n (startM (raceM n (σ.1 20) k) n) 180)) (st' := [.int (oI (fst (goM n (startM (raceM n (σ.1 20) k) n) 180) n)), .int (winsS n (σ.1 20) (nI rr) k)]) (by first | rfl | (simp (disch := omega) only [setR_at, setR_twice, setL_at, setL_twice, setR_2, setL_1, setR_ne, setL_ne, ne_eq, Nat.reduceEqDiff, not_false_eq_true, pk_us, pk_un]; done) | ((try simp (disch := omega) only [setR_at, setR_twice, setL_at, setL_twice, setR_2, setL_1, setR_ne, setL_ne, ne_eq, Nat.reduceEqDiff, not_false_eq_true, pk_us, pk_un]); refine Prod.ext (funext fun z => ?_) rfl; simp only [setR]; (repeat' split) <;> first | rfl | (exfalso; omega))) rfl (by first | rfl | (simp (disch := omega) only [setR_at, setR_twice, setL_at, setL_twice, setR_2, setL_1, setR_ne, setL_ne, ne_eq, Nat.reduceEqDiff, not_false_eq_true, pk_us, pk_un]; done) | ((try simp (disch := omega) only [setR_at, setR_twice, setL_at, setL_twice, setR_2, setL_1, setR_ne, setL_ne, ne_eq, Nat.reduceEqDiff, not_false_eq_true, pk_us, pk_un]); refine Prod.ext (funext fun z => ?_) rfl; simp only [setR]; (repeat' split) <;> first | rfl | (exfalso; omega))) ?_
        refine aw_iload_n (pc := 62) C 3 dX9_wins_62 rfl ?_
        refine aw_icmp_ne (pc := 63) C 70 dX9_wins_63 (by decide) (fun h63 => ?_) (fun h63 => ?_)
        · refine aw_iconst (pc := 70) (v := 0) C dX9_wins_70 rfl ?_
          refine aw_iadd (pc := 71) C dX9_wins_71 ?_
          refine aw_istore_n (pc := 72) C [(3, .int ((winsS n (σ.1 20) (nI rr) k) + 0)), (4, .int (nI k)), (0, .ref 73), (1, .int (nI rr)), (2, .int (nI jj))] dX9_wins_72 (Nat.le_of_ble_eq_true rfl) rfl ?_
          refine aw_iincN (pc := 73) C 1 k [(4, .int (nI (k + 1))), (3, .int ((winsS n (σ.1 20) (nI rr) k) + 0)), (0, .ref 73), (1, .int (nI rr)), (2, .int (nI jj))] dX9_wins_73 rfl rfl rfl (Nat.le_of_ble_eq_true rfl) rfl ?_
          refine aw_goto (pc := 76) C 43 dX9_wins_76 (by decide) ?_
          refine aw_lvs C [0, 1, 2, 3, 4] [(4, .int (nI (k + 1))), (3, .int ((winsS n (σ.1 20) (nI rr) k) + 0)), (0, .ref 73), (1, .int (nI rr)), (2, .int (nI jj))] rfl ?_
          exact aw_conv (σ' := setR (setR σ 22 (σ.1 20)) 20 (raceM n (σ.1 20) (k + 1))) (lv' := [(4, .int (nI (k + 1))), (3, .int (winsS n (σ.1 20) (nI rr) (k + 1))), (0, .ref 73), (1, .int (nI rr)), (2, .int (nI jj))]) rfl (by rw [winsS, show raceM n (σ.1 20) (k + 1) = goM n (startM (raceM n (σ.1 20) k) n) 180 from rfl, if_neg h63]) rfl ih43
        · refine aw_iconst (pc := 66) (v := 1) C dX9_wins_66 rfl ?_
          refine aw_goto (pc := 67) C 71 dX9_wins_67 (by decide) ?_
          refine aw_iadd (pc := 71) C dX9_wins_71 ?_
          refine aw_istore_n (pc := 72) C [(3, .int ((winsS n (σ.1 20) (nI rr) k) + 1)), (4, .int (nI k)), (0, .ref 73), (1, .int (nI rr)), (2, .int (nI jj))] dX9_wins_72 (Nat.le_of_ble_eq_true rfl) rfl ?_
          refine aw_iincN (pc := 73) C 1 k [(4, .int (nI (k + 1))), (3, .int ((winsS n (σ.1 20) (nI rr) k) + 1)), (0, .ref 73), (1, .int (nI rr)), (2, .int (nI jj))] dX9_wins_73 rfl rfl rfl (Nat.le_of_ble_eq_true rfl) rfl ?_
          refine aw_goto (pc := 76) C 43 dX9_wins_76 (by decide) ?_
          refine aw_lvs C [0, 1, 2, 3, 4] [(4, .int (nI (k + 1))), (3, .int ((winsS n (σ.1 20) (nI rr) k) + 1)), (0, .ref 73), (1, .int (nI rr)), (2, .int (nI jj))] rfl ?_
          exact aw_conv (σ' := setR (setR σ 22 (σ.1 20)) 20 (raceM n (σ.1 20) (k + 1))) (lv' := [(4, .int (nI (k + 1))), (3, .int (winsS n (σ.1 20) (nI rr) (k + 1))), (0, .ref 73), (1, .int (nI rr)), (2, .int (nI jj))]) rfl (by rw [winsS, show raceM n (σ.1 20) (k + 1) = goM n (startM (raceM n (σ.1 20) k) n) 180 from rfl, if_pos h63]) rfl ih43
    · refine aw_aload_n (pc := 20) C 0 dX9_wins_20 rfl ?_
      refine aw_ldc (pc := 21) C dX9_wins_21 kc_X9_46 ?_
      refine aw_cVI (pc := 23) C (c_X9_finds _ (-100000001) 0 (by decide) (by decide)) lk_X9_48 sh73 rfl dX9_wins_23 (by decide) (Nat.le_of_ble_eq_true rfl) rfl rfl ?_
      exact aw_iretP (pc := 26) C rfl dX9_wins_26 (pm_of (an' := .inl 0) (by rw [sWins, if_neg (fun z => h17 (z.2))]) rfl rfl)
