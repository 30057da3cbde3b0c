/-! the class: more calls -/
theorem c_X8_odds (σ : St) (n : Nat) (hok : Ok n (σ.1 0)) (r y p s : Int32) : AMet Y_X8_odds [.ref 0, .int r, .int y, .int p, .int s] σ (PC σ (sOdds (σ.1 0) n r y p s)) := by
  refine am_intro (by decide +kernel) (Nat.le_of_ble_eq_true rfl) (fun K C => ?_)
  have hz := hok.1
  have hn := hok.2.1
  refine aw_aload_n (pc := 0) C 0 dX8_odds_0 rfl ?_
  refine aw_iload_n (pc := 1) C 1 dX8_odds_1 rfl ?_
  refine aw_cVI (pc := 2) C (c_X8_isRunner _ n hn hz r ) lk_X8_96 sh0 rfl dX8_odds_2 (by decide) (Nat.le_of_ble_eq_true rfl) rfl rfl ?_
  refine aw_if_eqB (pc := 5) C 32 dX8_odds_5 (by decide) (fun h5 => ?_) (fun h5 => ?_)
  · refine aw_aload_n (pc := 32) C 0 dX8_odds_32 rfl ?_
    refine aw_iconst (pc := 33) (v := 0) C dX8_odds_33 rfl ?_
    refine aw_cVI (pc := 34) C (c_X8_found _ 0 (by omega)) lk_X8_78 sh0 rfl dX8_odds_34 (by decide) (Nat.le_of_ble_eq_true rfl) rfl rfl ?_
    exact aw_iretP (pc := 37) C rfl dX8_odds_37 (pc_of (an' := .inl 0) (by rw [sOdds, if_neg (fun z => h5 (z.1))]) rfl rfl)
  · refine aw_iload_n (pc := 8) C 2 dX8_odds_8 rfl ?_
    refine aw_cSI (pc := 9) C (c_X8_isYard _ y ) lk_X8_70 dX8_odds_9 (by decide) (Nat.le_of_ble_eq_true rfl) rfl rfl ?_
    refine aw_if_eqB (pc := 12) C 32 dX8_odds_12 (by decide) (fun h12 => ?_) (fun h12 => ?_)
    · refine aw_aload_n (pc := 32) C 0 dX8_odds_32 rfl ?_
      refine aw_iconst (pc := 33) (v := 0) C dX8_odds_33 rfl ?_
      refine aw_cVI (pc := 34) C (c_X8_found _ 0 (by omega)) lk_X8_78 sh0 rfl dX8_odds_34 (by decide) (Nat.le_of_ble_eq_true rfl) rfl rfl ?_
      exact aw_iretP (pc := 37) C rfl dX8_odds_37 (pc_of (an' := .inl 0) (by rw [sOdds, if_neg (fun z => h12 (z.2.1))]) rfl rfl)
    · refine aw_iload_n (pc := 15) C 3 dX8_odds_15 rfl ?_
      refine aw_cSI (pc := 16) C (c_X8_isPace _ p ) lk_X8_115 dX8_odds_16 (by decide) (Nat.le_of_ble_eq_true rfl) rfl rfl ?_
      refine aw_if_eqB (pc := 19) C 32 dX8_odds_19 (by decide) (fun h19 => ?_) (fun h19 => ?_)
      · refine aw_aload_n (pc := 32) C 0 dX8_odds_32 rfl ?_
        refine aw_iconst (pc := 33) (v := 0) C dX8_odds_33 rfl ?_
        refine aw_cVI (pc := 34) C (c_X8_found _ 0 (by omega)) lk_X8_78 sh0 rfl dX8_odds_34 (by decide) (Nat.le_of_ble_eq_true rfl) rfl rfl ?_
        exact aw_iretP (pc := 37) C rfl dX8_odds_37 (pc_of (an' := .inl 0) (by rw [sOdds, if_neg (fun z => h19 (z.2.2.1))]) rfl rfl)
      · refine aw_iload (pc := 22) C 4 dX8_odds_22 rfl ?_
        refine aw_iconst (pc := 24) (v := 0) C dX8_odds_24 rfl ?_
        refine aw_iconst (pc := 25) (v := 1) C dX8_odds_25 rfl ?_
        refine aw_cSI (pc := 26) C (c_X8_within _ s 0 1 ) lk_X8_74 dX8_odds_26 (by decide) (Nat.le_of_ble_eq_true rfl) rfl rfl ?_
        refine aw_if_neB (pc := 29) C 38 dX8_odds_29 (by decide) (fun h29 => ?_) (fun h29 => ?_)
        · obtain ⟨rr, rfl, hrr⟩ := rgR h5 hz
          obtain ⟨yy, rfl, hyy0, hyy⟩ := rg 0 29 h12 (by omega) (by omega)
          obtain ⟨pp, rfl, hpp0, hpp⟩ := rg 1 9 h19 (by omega) (by omega)
          obtain ⟨ss, rfl, hss0, hss⟩ := rg 0 1 h29 (by omega) (by omega)
          obtain ⟨k, hk7, hk⟩ := (hok.2.2.2.2.1 rr (by omega)).1
          obtain ⟨g, hg5, hg⟩ := hok.2.2.2.1 yy (by omega)
          refine aw_aload_n (pc := 38) C 0 dX8_odds_38 rfl ?_
          refine aw_getR (pc := 39) C fl_X8_16 sh0 rfl dX8_odds_39 ?_
          refine aw_aload_n (pc := 42) C 0 dX8_odds_42 rfl ?_
          refine aw_getR (pc := 43) C fl_X8_16 sh0 rfl dX8_odds_43 ?_
          refine aw_getR (pc := 46) C fl_X8_99 (shM (by decide : 0 < 3)) rfl dX8_odds_46 ?_
          refine aw_iload_n (pc := 49) C 1 dX8_odds_49 rfl ?_
          refine aw_aald (pc := 50) (k := rr) C (shRs (by decide : 0 < 3)) dX8_odds_50 rfl (by omega) ?_
          refine aw_iload_n (pc := 51) C 2 dX8_odds_51 rfl ?_
          refine aw_iload_n (pc := 52) C 3 dX8_odds_52 rfl ?_
          refine aw_iload (pc := 53) C 4 dX8_odds_53 rfl ?_
          refine aw_iconst (pc := 55) (v := 0) C dX8_odds_55 rfl ?_
          refine aw_cVI (pc := 56) C (c_X2_oddsOf _  0 (by decide : 0 < 3) rr (by omega) k hk hk7 yy pp (nI (ss)) 0 g hg (by omega) (by omega) (by omega) (by omega)) lk_X8_127 (shM (by decide : 0 < 3)) rfl dX8_odds_56 (by decide) (Nat.le_of_ble_eq_true rfl) rfl rfl ?_
          refine aw_top C (oddsM (σ.1 0) rr yy (nI pp) (shk (nI ss = 1)) 0) (by rw [shk01 (by omega)]) ?_
          exact aw_iretP (pc := 59) C rfl dX8_odds_59 (pc_of (an' := .inr (oddsM (σ.1 0) rr yy (nI pp) (shk (nI ss = 1)) 0, σ.1 0)) (by rw [sOdds, if_pos ⟨h5, h12, h19, h29⟩, cl_nI (show rr < 2147483648 by omega), cl_nI (show yy < 2147483648 by omega)]) rfl (setR_same _ 0).symm)
        · refine aw_aload_n (pc := 32) C 0 dX8_odds_32 rfl ?_
          refine aw_iconst (pc := 33) (v := 0) C dX8_odds_33 rfl ?_
          refine aw_cVI (pc := 34) C (c_X8_found _ 0 (by omega)) lk_X8_78 sh0 rfl dX8_odds_34 (by decide) (Nat.le_of_ble_eq_true rfl) rfl rfl ?_
          exact aw_iretP (pc := 37) C rfl dX8_odds_37 (pc_of (an' := .inl 0) (by rw [sOdds, if_neg (fun z => h29 (z.2.2.2))]) rfl rfl)
theorem c_X8_now (σ : St) (n : Nat) (hok : Ok n (σ.1 0)) (r : Int32) : AMet Y_X8_now [.ref 0, .int r] σ (PC σ (sNow (σ.1 0) n r)) := by
  refine am_intro (by decide +kernel) (Nat.le_of_ble_eq_true rfl) (fun K C => ?_)
  have hz := hok.1
  have hn := hok.2.1
  refine aw_aload_n (pc := 0) C 0 dX8_now_0 rfl ?_
  refine aw_iload_n (pc := 1) C 1 dX8_now_1 rfl ?_
  refine aw_cVI (pc := 2) C (c_X8_isRunner _ n hn hz r ) lk_X8_96 sh0 rfl dX8_now_2 (by decide) (Nat.le_of_ble_eq_true rfl) rfl rfl ?_
  refine aw_if_neB (pc := 5) C 14 dX8_now_5 (by decide) (fun h5 => ?_) (fun h5 => ?_)
  · obtain ⟨rr, rfl, hrr⟩ := rgR h5 hz
    obtain ⟨yk, hyk30, hyk⟩ := (hok.2.2.2.2.1 rr (by omega)).2.2.2.1
    refine aw_aload_n (pc := 14) C 0 dX8_now_14 rfl ?_
    refine aw_getR (pc := 15) C fl_X8_16 sh0 rfl dX8_now_15 ?_
    refine aw_getR (pc := 18) C fl_X8_99 (shM (by decide : 0 < 3)) rfl dX8_now_18 ?_
    refine aw_iload_n (pc := 21) C 1 dX8_now_21 rfl ?_
    refine aw_aald (pc := 22) (k := rr) C (shRs (by decide : 0 < 3)) dX8_now_22 rfl (by omega) ?_
    refine aw_cVI (pc := 23) C (c_X4_isHome _ 0 (by decide : 0 < 3) rr (by omega) yk hyk hyk30) lk_X8_131 (shR (by decide : 0 < 3) (by omega)) rfl dX8_now_23 (by decide) (Nat.le_of_ble_eq_true rfl) rfl rfl ?_
    refine aw_if_eqB (pc := 26) C 35 dX8_now_26 (by decide) (fun h26 => ?_) (fun h26 => ?_)
    · obtain ⟨y, hy3, hy⟩ := hok.yard hrr h26
      refine aw_aload_n (pc := 35) C 0 dX8_now_35 rfl ?_
      refine aw_getR (pc := 36) C fl_X8_16 sh0 rfl dX8_now_36 ?_
      refine aw_iload_n (pc := 39) C 1 dX8_now_39 rfl ?_
      refine aw_cVI (pc := 40) C (c_X2_oddsInStep _ 0 (by decide : 0 < 3) n hok rr (by omega) y hy hy3) lk_X8_135 (shM (by decide : 0 < 3)) rfl dX8_now_40 (by decide) (Nat.le_of_ble_eq_true rfl) rfl rfl ?_
      exact aw_iretP (pc := 43) C rfl dX8_now_43 (pc_of (an' := .inr (oddsN (σ.1 0) n rr, σ.1 0)) (by rw [sNow, if_pos h5, cl_nI (show rr < 2147483648 by omega), if_neg h26]) rfl (setR_same _ 0).symm)
    · refine aw_aload_n (pc := 29) C 0 dX8_now_29 rfl ?_
      refine aw_iconst (pc := 30) (v := 4) C dX8_now_30 rfl ?_
      refine aw_cVI (pc := 31) C (c_X8_found _ 4 (by omega)) lk_X8_78 sh0 rfl dX8_now_31 (by decide) (Nat.le_of_ble_eq_true rfl) rfl rfl ?_
      exact aw_iretP (pc := 34) C rfl dX8_now_34 (pc_of (an' := .inl 4) (by rw [sNow, if_pos h5, cl_nI (show rr < 2147483648 by omega), if_pos h26]) rfl rfl)
  · refine aw_aload_n (pc := 8) C 0 dX8_now_8 rfl ?_
    refine aw_iconst (pc := 9) (v := 0) C dX8_now_9 rfl ?_
    refine aw_cVI (pc := 10) C (c_X8_found _ 0 (by omega)) lk_X8_78 sh0 rfl dX8_now_10 (by decide) (Nat.le_of_ble_eq_true rfl) rfl rfl ?_
    exact aw_iretP (pc := 13) C rfl dX8_now_13 (pc_of (an' := .inl 0) (by rw [sNow, if_neg (fun z => h5 (z))]) rfl rfl)
theorem c_X8_rain (σ : St) (n : Nat) (hok : Ok n (σ.1 0)) (k : Int32) : AMet Y_X8_rain [.ref 0, .int k] σ (PC σ (sRain (σ.1 0) k)) := by
  refine am_intro (by decide +kernel) (Nat.le_of_ble_eq_true rfl) (fun K C => ?_)
  have hz := hok.1
  have hn := hok.2.1
  refine aw_iload_n (pc := 0) C 1 dX8_rain_0 rfl ?_
  refine aw_iconst (pc := 1) (v := 1) C dX8_rain_1 rfl ?_
  refine aw_bipush (pc := 2) (v := 12) C dX8_rain_2 rfl ?_
  refine aw_cSI (pc := 4) C (c_X8_within _ k 1 12 ) lk_X8_74 dX8_rain_4 (by decide) (Nat.le_of_ble_eq_true rfl) rfl rfl ?_
  refine aw_if_neB (pc := 7) C 16 dX8_rain_7 (by decide) (fun h7 => ?_) (fun h7 => ?_)
  · obtain ⟨kk, rfl, hkk0, hkk⟩ := rg 1 12 h7 (by omega) (by omega)
    refine aw_iconst (pc := 16) (v := 0) C dX8_rain_16 rfl ?_
    refine aw_istore_n (pc := 17) C [(2, .int 0), (0, .ref 0), (1, .int (nI kk))] dX8_rain_17 (Nat.le_of_ble_eq_true rfl) rfl ?_
    refine aw_lvs C [0, 1, 2] [(2, .int 0), (0, .ref 0), (1, .int (nI kk))] rfl ?_
    refine aw_conv (σ' := setR σ 0 (rnM (σ.1 0) 0)) (lv' := [(2, .int (nI 0)), (0, .ref 0), (1, .int (nI kk))]) (setR_same σ 0).symm rfl rfl ?_
    refine loop_up (P := fun k => AW _ K _ (setR σ 0 (rnM (σ.1 0) k)) 18 [(2, .int (nI k)), (0, .ref 0), (1, .int (nI kk))] []) kk ?_ ?_ 0 (by omega) 
    · refine aw_iload_n (pc := 18) C 0 dX8_rain_18 rfl ?_
      refine aw_iload_n (pc := 19) C 2 dX8_rain_19 rfl ?_
      refine aw_icmp_geN (pc := 20) C kk kk 58 rfl rfl (by omega) (by omega) dX8_rain_20 (by decide) (fun h20 => ?_) (fun h20 => absurd h20 (by omega))
      refine aw_aload_n (pc := 58) C 1 dX8_rain_58 rfl ?_
      refine aw_getR (pc := 59) C fl_X8_16 sh0 rfl dX8_rain_59 ?_
      refine aw_cVI (pc := 62) C (c_X2_countGrass _ 0 (by decide : 0 < 3) ) lk_X8_234 (shM (by decide : 0 < 3)) rfl dX8_rain_62 (by decide) (Nat.le_of_ble_eq_true rfl) rfl rfl ?_
      refine aw_conv (σ' := setR σ 0 (rnM (σ.1 0) kk)) (st' := [.int (grS (rnM (σ.1 0) kk) 30)]) (by first | with_reducible rfl | (simp (disch := omega) only [setR_at, setR_twice, setL_at, setL_twice, setR_2, setL_1, setR_ne, setL_ne, ne_eq, Nat.reduceEqDiff, not_false_eq_true, pk_us, pk_un]; done) | (simp (disch := omega) only [setR_at, setR_twice, setL_at, setL_twice, setR_2, setL_1, setR_ne, setL_ne, ne_eq, Nat.reduceEqDiff, not_false_eq_true, pk_us, pk_un, Option.toList_some, Option.toList_none, List.cons_append, List.nil_append]; done) | ((try simp (disch := omega) only [setR_at, setR_twice, setL_at, setL_twice, setR_2, setL_1, setR_ne, setL_ne, ne_eq, Nat.reduceEqDiff, not_false_eq_true, pk_us, pk_un]); refine Prod.ext (funext fun z => ?_) rfl; simp only [setR]; (repeat' split) <;> first | with_reducible rfl | (exfalso; omega)) | rfl) rfl (by first | with_reducible rfl | (simp (disch := omega) only [setR_at, setR_twice, setL_at, setL_twice, setR_2, setL_1, setR_ne, setL_ne, ne_eq, Nat.reduceEqDiff, not_false_eq_true, pk_us, pk_un]; done) | (simp (disch := omega) only [setR_at, setR_twice, setL_at, setL_twice, setR_2, setL_1, setR_ne, setL_ne, ne_eq, Nat.reduceEqDiff, not_false_eq_true, pk_us, pk_un, Option.toList_some, Option.toList_none, List.cons_append, List.nil_append]; done) | ((try simp (disch := omega) only [setR_at, setR_twice, setL_at, setL_twice, setR_2, setL_1, setR_ne, setL_ne, ne_eq, Nat.reduceEqDiff, not_false_eq_true, pk_us, pk_un]); refine Prod.ext (funext fun z => ?_) rfl; simp only [setR]; (repeat' split) <;> first | with_reducible rfl | (exfalso; omega)) | rfl) ?_
      exact aw_iretP (pc := 65) C rfl dX8_rain_65 (pc_of (an' := .inr (grS (rnM (σ.1 0) kk) 30, rnM (σ.1 0) kk)) (by rw [sRain, if_pos h7, cl_nI (show kk < 2147483648 by omega)]) rfl rfl)
    · intro k hk18 ih18 
      refine aw_iload_n (pc := 18) C 0 dX8_rain_18 rfl ?_
      refine aw_iload_n (pc := 19) C 2 dX8_rain_19 rfl ?_
      refine aw_icmp_geN (pc := 20) C k kk 58 rfl rfl (by omega) (by omega) dX8_rain_20 (by decide) (fun h20 => absurd h20 (by omega)) (fun h20 => ?_)
      refine aw_aload_n (pc := 23) C 1 dX8_rain_23 rfl ?_
      refine aw_getR (pc := 24) C fl_X8_16 sh0 rfl dX8_rain_24 ?_
      refine aw_cVI (pc := 27) C (c_X2_draw _ 0 (by decide : 0 < 3) ) lk_X8_231 (shM (by decide : 0 < 3)) rfl dX8_rain_27 (by decide) (Nat.le_of_ble_eq_true rfl) rfl rfl ?_
      refine aw_conv (σ' := setR σ 0 (upd (rnM (σ.1 0) k) 1 (drawZ (rnM (σ.1 0) k)))) (st' := [.int (drawV (rnM (σ.1 0) k))]) (by first | with_reducible rfl | (simp (disch := omega) only [setR_at, setR_twice, setL_at, setL_twice, setR_2, setL_1, setR_ne, setL_ne, ne_eq, Nat.reduceEqDiff, not_false_eq_true, pk_us, pk_un]; done) | (simp (disch := omega) only [setR_at, setR_twice, setL_at, setL_twice, setR_2, setL_1, setR_ne, setL_ne, ne_eq, Nat.reduceEqDiff, not_false_eq_true, pk_us, pk_un, Option.toList_some, Option.toList_none, List.cons_append, List.nil_append]; done) | ((try simp (disch := omega) only [setR_at, setR_twice, setL_at, setL_twice, setR_2, setL_1, setR_ne, setL_ne, ne_eq, Nat.reduceEqDiff, not_false_eq_true, pk_us, pk_un]); refine Prod.ext (funext fun z => ?_) rfl; simp only [setR]; (repeat' split) <;> first | with_reducible rfl | (exfalso; omega)) | rfl) rfl (by first | with_reducible rfl | (simp (disch := omega) only [setR_at, setR_twice, setL_at, setL_twice, setR_2, setL_1, setR_ne, setL_ne, ne_eq, Nat.reduceEqDiff, not_false_eq_true, pk_us, pk_un]; done) | (simp (disch := omega) only [setR_at, setR_twice, setL_at, setL_twice, setR_2, setL_1, setR_ne, setL_ne, ne_eq, Nat.reduceEqDiff, not_false_eq_true, pk_us, pk_un, Option.toList_some, Option.toList_none, List.cons_append, List.nil_append]; done) | ((try simp (disch := omega) only [setR_at, setR_twice, setL_at, setL_twice, setR_2, setL_1, setR_ne, setL_ne, ne_eq, Nat.reduceEqDiff, not_false_eq_true, pk_us, pk_un]); refine Prod.ext (funext fun z => ?_) rfl; simp only [setR]; (repeat' split) <;> first | with_reducible rfl | (exfalso; omega)) | rfl) ?_
      refine aw_bipush (pc := 30) (v := 30) C dX8_rain_30 rfl ?_
      refine aw_irem (pc := 32) C dX8_rain_32 (by decide) ?_
      obtain ⟨j, hj, ej⟩ := draw_rem (rnM (σ.1 0) k) 30 (by omega) (by omega)
      refine aw_top C (nI (j)) ej ?_
      refine aw_istore_n (pc := 33) C [(3, .int (nI j)), (2, .int (nI k)), (0, .ref 0), (1, .int (nI kk))] dX8_rain_33 (Nat.le_of_ble_eq_true rfl) rfl ?_
      refine aw_aload_n (pc := 34) C 2 dX8_rain_34 rfl ?_
      refine aw_getR (pc := 35) C fl_X8_16 sh0 rfl dX8_rain_35 ?_
      refine aw_getR (pc := 38) C fl_X8_82 (shM (by decide : 0 < 3)) rfl dX8_rain_38 ?_
      refine aw_iload_n (pc := 41) C 0 dX8_rain_41 rfl ?_
      refine aw_aload_n (pc := 42) C 2 dX8_rain_42 rfl ?_
      refine aw_getR (pc := 43) C fl_X8_16 sh0 rfl dX8_rain_43 ?_
      refine aw_cVI (pc := 46) C (c_X2_draw _ 0 (by decide : 0 < 3) ) lk_X8_231 (shM (by decide : 0 < 3)) rfl dX8_rain_46 (by decide) (Nat.le_of_ble_eq_true rfl) rfl rfl ?_
      refine aw_conv (σ' := setR σ 0 (upd (upd (rnM (σ.1 0) k) 1 (drawZ (rnM (σ.1 0) k))) 1 (drawZ (upd (rnM (σ.1 0) k) 1 (drawZ (rnM (σ.1 0) k)))))) (st' := [.int (drawV (upd (rnM (σ.1 0) k) 1 (drawZ (rnM (σ.1 0) k)))), .int (nI j), .ref 26]) (by first | with_reducible rfl | (simp (disch := omega) only [setR_at, setR_twice, setL_at, setL_twice, setR_2, setL_1, setR_ne, setL_ne, ne_eq, Nat.reduceEqDiff, not_false_eq_true, pk_us, pk_un]; done) | (simp (disch := omega) only [setR_at, setR_twice, setL_at, setL_twice, setR_2, setL_1, setR_ne, setL_ne, ne_eq, Nat.reduceEqDiff, not_false_eq_true, pk_us, pk_un, Option.toList_some, Option.toList_none, List.cons_append, List.nil_append]; done) | ((try simp (disch := omega) only [setR_at, setR_twice, setL_at, setL_twice, setR_2, setL_1, setR_ne, setL_ne, ne_eq, Nat.reduceEqDiff, not_false_eq_true, pk_us, pk_un]); refine Prod.ext (funext fun z => ?_) rfl; simp only [setR]; (repeat' split) <;> first | with_reducible rfl | (exfalso; omega)) | rfl) rfl (by first | with_reducible rfl | (simp (disch := omega) only [setR_at, setR_twice, setL_at, setL_twice, setR_2, setL_1, setR_ne, setL_ne, ne_eq, Nat.reduceEqDiff, not_false_eq_true, pk_us, pk_un]; done) | (simp (disch := omega) only [setR_at, setR_twice, setL_at, setL_twice, setR_2, setL_1, setR_ne, setL_ne, ne_eq, Nat.reduceEqDiff, not_false_eq_true, pk_us, pk_un, Option.toList_some, Option.toList_none, List.cons_append, List.nil_append]; done) | ((try simp (disch := omega) only [setR_at, setR_twice, setL_at, setL_twice, setR_2, setL_1, setR_ne, setL_ne, ne_eq, Nat.reduceEqDiff, not_false_eq_true, pk_us, pk_un]); refine Prod.ext (funext fun z => ?_) rfl; simp only [setR]; (repeat' split) <;> first | with_reducible rfl | (exfalso; omega)) | rfl) ?_
      refine aw_iconst (pc := 49) (v := 5) C dX8_rain_49 rfl ?_
      refine aw_irem (pc := 50) C dX8_rain_50 (by decide) ?_
      refine aw_ist (pc := 51) (k := j) C (3 + j) (setR σ 0 (upd (upd (upd (rnM (σ.1 0) k) 1 (drawZ (rnM (σ.1 0) k))) 1 (drawZ (upd (rnM (σ.1 0) k) 1 (drawZ (rnM (σ.1 0) k))))) (3 + j) ((drawV (upd (rnM (σ.1 0) k) 1 (drawZ (rnM (σ.1 0) k)))) - (drawV (upd (rnM (σ.1 0) k) 1 (drawZ (rnM (σ.1 0) k)))) / 5 * 5))) (shG (by decide : 0 < 3)) dX8_rain_51 rfl (by omega) (by omega) (by first | with_reducible rfl | (simp (disch := omega) only [setR_at, setR_twice, setL_at, setL_twice, setR_2, setL_1, setR_ne, setL_ne, ne_eq, Nat.reduceEqDiff, not_false_eq_true, pk_us, pk_un]; done) | (simp (disch := omega) only [setR_at, setR_twice, setL_at, setL_twice, setR_2, setL_1, setR_ne, setL_ne, ne_eq, Nat.reduceEqDiff, not_false_eq_true, pk_us, pk_un, Option.toList_some, Option.toList_none, List.cons_append, List.nil_append]; done) | ((try simp (disch := omega) only [setR_at, setR_twice, setL_at, setL_twice, setR_2, setL_1, setR_ne, setL_ne, ne_eq, Nat.reduceEqDiff, not_false_eq_true, pk_us, pk_un]); refine Prod.ext (funext fun z => ?_) rfl; simp only [setR]; (repeat' split) <;> first | with_reducible rfl | (exfalso; omega)) | rfl) ?_
      refine aw_iincN (pc := 52) C 1 k [(2, .int (nI (k + 1))), (3, .int (nI j)), (0, .ref 0), (1, .int (nI kk))] dX8_rain_52 rfl rfl rfl (Nat.le_of_ble_eq_true rfl) rfl ?_
      refine aw_goto (pc := 55) C 18 dX8_rain_55 (by decide) ?_
      refine aw_lvs C [0, 2, 3] [(2, .int (nI (k + 1))), (0, .ref 0), (1, .int (nI kk))] rfl ?_
      exact aw_conv (σ' := setR σ 0 (rnM (σ.1 0) (k + 1))) (lv' := [(2, .int (nI (k + 1))), (0, .ref 0), (1, .int (nI kk))]) (by rw [rnM]; simp only [rem, rn1, show drawV (rnM (σ.1 0) k) - drawV (rnM (σ.1 0) k) / 30 * 30 = nI j from ej, cl_nI (show j < 2147483648 by omega)]) rfl rfl ih18
  · refine aw_aload_n (pc := 10) C 0 dX8_rain_10 rfl ?_
    refine aw_iconst (pc := 11) (v := 0) C dX8_rain_11 rfl ?_
    refine aw_cVI (pc := 12) C (c_X8_found _ 0 (by omega)) lk_X8_78 sh0 rfl dX8_rain_12 (by decide) (Nat.le_of_ble_eq_true rfl) rfl rfl ?_
    exact aw_iretP (pc := 15) C rfl dX8_rain_15 (pc_of (an' := .inl 0) (by rw [sRain, if_neg (fun z => h7 (z))]) rfl rfl)
theorem c_X8_seed (σ : St) (v : Int32) : AMet Y_X8_seed [.ref 0, .int v] σ (PC σ (sSeed (σ.1 0) v)) := by
  refine am_intro (by decide +kernel) (Nat.le_of_ble_eq_true rfl) (fun K C => ?_)
  refine aw_aload_n (pc := 0) C 0 dX8_seed_0 rfl ?_
  refine aw_getR (pc := 1) C fl_X8_16 sh0 rfl dX8_seed_1 ?_
  refine aw_gld (pc := 4) C (σ.1 0 1) fl_X8_170 (shM (by decide : 0 < 3)) rfl dX8_seed_4 rfl ?_
  refine aw_istore_n (pc := 7) C [(2, .int (σ.1 0 1)), (0, .ref 0), (1, .int v)] dX8_seed_7 (Nat.le_of_ble_eq_true rfl) rfl ?_
  refine aw_aload_n (pc := 8) C 1 dX8_seed_8 rfl ?_
  refine aw_getR (pc := 9) C fl_X8_16 sh0 rfl dX8_seed_9 ?_
  refine aw_iload_n (pc := 12) C 2 dX8_seed_12 rfl ?_
  refine aw_pst (pc := 13) C (setR σ 0 (upd (σ.1 0) 1 (v))) fp_X8_170 (shM (by decide : 0 < 3)) rfl dX8_seed_13 rfl ?_
  refine aw_iload_n (pc := 16) C 0 dX8_seed_16 rfl ?_
  exact aw_iretP (pc := 17) C rfl dX8_seed_17 (pc_of (an' := .inr (σ.1 0 1, upd (σ.1 0) 1 (v))) rfl rfl rfl)
theorem c_X8_hold (σ : St) (n : Nat) (hok : Ok n (σ.1 0)) (s r : Int32) : AMet Y_X8_hold [.ref 0, .int s, .int r] σ (PC σ (sHold (σ.1 0) n s r)) := by
  refine am_intro (by decide +kernel) (Nat.le_of_ble_eq_true rfl) (fun K C => ?_)
  have hz := hok.1
  have hn := hok.2.1
  refine aw_iload_n (pc := 0) C 1 dX8_hold_0 rfl ?_
  refine aw_cSI (pc := 1) C (c_X8_isSpot _ s ) lk_X8_246 dX8_hold_1 (by decide) (Nat.le_of_ble_eq_true rfl) rfl rfl ?_
  refine aw_if_eqB (pc := 4) C 20 dX8_hold_4 (by decide) (fun h4 => ?_) (fun h4 => ?_)
  · refine aw_aload_n (pc := 20) C 0 dX8_hold_20 rfl ?_
    refine aw_iconst (pc := 21) (v := 0) C dX8_hold_21 rfl ?_
    refine aw_cVI (pc := 22) C (c_X8_found _ 0 (by omega)) lk_X8_78 sh0 rfl dX8_hold_22 (by decide) (Nat.le_of_ble_eq_true rfl) rfl rfl ?_
    exact aw_iretP (pc := 25) C rfl dX8_hold_25 (pc_of (an' := .inl 0) (by rw [sHold, if_neg (fun z => h4 z.1)]) rfl rfl)
  · refine aw_iload_n (pc := 7) C 2 dX8_hold_7 rfl ?_
    refine aw_iconst (pc := 8) (v := (-1)) C dX8_hold_8 rfl ?_
    refine aw_icmp_eq (pc := 9) C 26 dX8_hold_9 (by decide) (fun h9 => ?_) (fun h9 => ?_)
    · obtain ⟨ss, rfl, hss0, hss⟩ := rg 0 9 h4 (by omega) (by omega)
      refine aw_aload_n (pc := 26) C 0 dX8_hold_26 rfl ?_
      refine aw_getR (pc := 27) C fl_X8_16 sh0 rfl dX8_hold_27 ?_
      refine aw_getR (pc := 30) C fl_X8_249 (shM (by decide : 0 < 3)) rfl dX8_hold_30 ?_
      refine aw_iload_n (pc := 33) C 1 dX8_hold_33 rfl ?_
      refine aw_iload_n (pc := 34) C 2 dX8_hold_34 rfl ?_
      refine aw_ist (pc := 35) (k := ss) C (255 + ss) (setR σ 0 (upd (σ.1 0) (255 + ss) (r))) (shSp (by decide : 0 < 3)) dX8_hold_35 rfl (by omega) (by omega) rfl ?_
      refine aw_iconst (pc := 36) (v := 1) C dX8_hold_36 rfl ?_
      exact aw_iretP (pc := 37) C rfl dX8_hold_37 (pc_of (an' := .inr (1, upd (σ.1 0) (255 + ss) (r))) (by rw [sHold, if_pos ⟨h4, Or.inl h9⟩, cl_nI (show ss < 2147483648 by omega)]) rfl rfl)
    · refine aw_aload_n (pc := 12) C 0 dX8_hold_12 rfl ?_
      refine aw_iload_n (pc := 13) C 2 dX8_hold_13 rfl ?_
      refine aw_cVI (pc := 14) C (c_X8_isRunner _ n hn hz r ) lk_X8_96 sh0 rfl dX8_hold_14 (by decide) (Nat.le_of_ble_eq_true rfl) rfl rfl ?_
      refine aw_if_neB (pc := 17) C 26 dX8_hold_17 (by decide) (fun h17 => ?_) (fun h17 => ?_)
      · obtain ⟨ss, rfl, hss0, hss⟩ := rg 0 9 h4 (by omega) (by omega)
        refine aw_aload_n (pc := 26) C 0 dX8_hold_26 rfl ?_
        refine aw_getR (pc := 27) C fl_X8_16 sh0 rfl dX8_hold_27 ?_
        refine aw_getR (pc := 30) C fl_X8_249 (shM (by decide : 0 < 3)) rfl dX8_hold_30 ?_
        refine aw_iload_n (pc := 33) C 1 dX8_hold_33 rfl ?_
        refine aw_iload_n (pc := 34) C 2 dX8_hold_34 rfl ?_
        refine aw_ist (pc := 35) (k := ss) C (255 + ss) (setR σ 0 (upd (σ.1 0) (255 + ss) (r))) (shSp (by decide : 0 < 3)) dX8_hold_35 rfl (by omega) (by omega) rfl ?_
        refine aw_iconst (pc := 36) (v := 1) C dX8_hold_36 rfl ?_
        exact aw_iretP (pc := 37) C rfl dX8_hold_37 (pc_of (an' := .inr (1, upd (σ.1 0) (255 + ss) (r))) (by rw [sHold, if_pos ⟨h4, Or.inr h17⟩, cl_nI (show ss < 2147483648 by omega)]) rfl rfl)
      · refine aw_aload_n (pc := 20) C 0 dX8_hold_20 rfl ?_
        refine aw_iconst (pc := 21) (v := 0) C dX8_hold_21 rfl ?_
        refine aw_cVI (pc := 22) C (c_X8_found _ 0 (by omega)) lk_X8_78 sh0 rfl dX8_hold_22 (by decide) (Nat.le_of_ble_eq_true rfl) rfl rfl ?_
        exact aw_iretP (pc := 25) C rfl dX8_hold_25 (pc_of (an' := .inl 0) (by rw [sHold, if_neg (fun z => z.2.elim h9 h17)]) rfl rfl)
theorem c_X8_mean (σ : St) (n : Nat) (hok : Ok n (σ.1 0)) (r y s : Int32) : AMet Y_X8_mean [.ref 0, .int r, .int y, .int s] σ (PC σ (sMean (σ.1 0) n r y s)) := by
  refine am_intro (by decide +kernel) (Nat.le_of_ble_eq_true rfl) (fun K C => ?_)
  have hz := hok.1
  have hn := hok.2.1
  refine aw_aload_n (pc := 0) C 0 dX8_mean_0 rfl ?_
  refine aw_iload_n (pc := 1) C 1 dX8_mean_1 rfl ?_
  refine aw_cVI (pc := 2) C (c_X8_isRunner _ n hn hz r ) lk_X8_96 sh0 rfl dX8_mean_2 (by decide) (Nat.le_of_ble_eq_true rfl) rfl rfl ?_
  refine aw_if_eqB (pc := 5) C 27 dX8_mean_5 (by decide) (fun h5 => ?_) (fun h5 => ?_)
  · refine aw_aload_n (pc := 27) C 0 dX8_mean_27 rfl ?_
    refine aw_iconst (pc := 28) (v := 0) C dX8_mean_28 rfl ?_
    refine aw_cVI (pc := 29) C (c_X8_found _ 0 (by omega)) lk_X8_78 sh0 rfl dX8_mean_29 (by decide) (Nat.le_of_ble_eq_true rfl) rfl rfl ?_
    exact aw_iretP (pc := 32) C rfl dX8_mean_32 (pc_of (an' := .inl 0) (by rw [sMean, if_neg (fun z => h5 (z.1))]) rfl rfl)
  · refine aw_iload_n (pc := 8) C 2 dX8_mean_8 rfl ?_
    refine aw_iconst (pc := 9) (v := 0) C dX8_mean_9 rfl ?_
    refine aw_bipush (pc := 10) (v := 30) C dX8_mean_10 rfl ?_
    refine aw_cSI (pc := 12) C (c_X8_within _ y 0 30 ) lk_X8_74 dX8_mean_12 (by decide) (Nat.le_of_ble_eq_true rfl) rfl rfl ?_
    refine aw_if_eqB (pc := 15) C 27 dX8_mean_15 (by decide) (fun h15 => ?_) (fun h15 => ?_)
    · refine aw_aload_n (pc := 27) C 0 dX8_mean_27 rfl ?_
      refine aw_iconst (pc := 28) (v := 0) C dX8_mean_28 rfl ?_
      refine aw_cVI (pc := 29) C (c_X8_found _ 0 (by omega)) lk_X8_78 sh0 rfl dX8_mean_29 (by decide) (Nat.le_of_ble_eq_true rfl) rfl rfl ?_
      exact aw_iretP (pc := 32) C rfl dX8_mean_32 (pc_of (an' := .inl 0) (by rw [sMean, if_neg (fun z => h15 (z.2.1))]) rfl rfl)
    · refine aw_iload_n (pc := 18) C 3 dX8_mean_18 rfl ?_
      refine aw_iconst (pc := 19) (v := 0) C dX8_mean_19 rfl ?_
      refine aw_iconst (pc := 20) (v := 3) C dX8_mean_20 rfl ?_
      refine aw_cSI (pc := 21) C (c_X8_within _ s 0 3 ) lk_X8_74 dX8_mean_21 (by decide) (Nat.le_of_ble_eq_true rfl) rfl rfl ?_
      refine aw_if_neB (pc := 24) C 33 dX8_mean_24 (by decide) (fun h24 => ?_) (fun h24 => ?_)
      · obtain ⟨rr, rfl, hrr⟩ := rgR h5 hz
        obtain ⟨yy, rfl, hyy0, hyy⟩ := rg 0 30 h15 (by omega) (by omega)
        obtain ⟨ss, rfl, hss0, hss⟩ := rg 0 3 h24 (by omega) (by omega)
        refine aw_aload_n (pc := 33) C 0 dX8_mean_33 rfl ?_
        refine aw_getR (pc := 34) C fl_X8_29 sh0 rfl dX8_mean_34 ?_
        refine aw_aload_n (pc := 37) C 0 dX8_mean_37 rfl ?_
        refine aw_getR (pc := 38) C fl_X8_16 sh0 rfl dX8_mean_38 ?_
        refine aw_iload_n (pc := 41) C 1 dX8_mean_41 rfl ?_
        refine aw_iload_n (pc := 42) C 2 dX8_mean_42 rfl ?_
        refine aw_bipush (pc := 43) (v := 30) C dX8_mean_43 rfl ?_
        refine aw_iload_n (pc := 45) C 3 dX8_mean_45 rfl ?_
        refine aw_callV (pc := 46) C (c_X1_atPaces _  0 (by decide : 0 < 3) n hok rr yy 30 ss (by omega) (by omega) (by omega) (by omega)) lk_X8_180 sh2 rfl (by decide) rfl (Nat.le_of_ble_eq_true rfl) dX8_mean_46 rfl (fun w s hq => ?_)
        obtain ⟨f46, g46, rfl, rfl⟩ := hq
        refine aw_conv (σ' := setR (setR σ 5 (f46)) 6 (g46)) (st' := [.int (mRow false (σ.1 0) rr 30 yy ss)]) (by first | with_reducible rfl | (simp (disch := omega) only [setR_at, setR_twice, setL_at, setL_twice, setR_2, setL_1, setR_ne, setL_ne, ne_eq, Nat.reduceEqDiff, not_false_eq_true, pk_us, pk_un]; done) | (simp (disch := omega) only [setR_at, setR_twice, setL_at, setL_twice, setR_2, setL_1, setR_ne, setL_ne, ne_eq, Nat.reduceEqDiff, not_false_eq_true, pk_us, pk_un, Option.toList_some, Option.toList_none, List.cons_append, List.nil_append]; done) | ((try simp (disch := omega) only [setR_at, setR_twice, setL_at, setL_twice, setR_2, setL_1, setR_ne, setL_ne, ne_eq, Nat.reduceEqDiff, not_false_eq_true, pk_us, pk_un]); refine Prod.ext (funext fun z => ?_) rfl; simp only [setR]; (repeat' split) <;> first | with_reducible rfl | (exfalso; omega)) | rfl) rfl (by first | with_reducible rfl | (simp (disch := omega) only [setR_at, setR_twice, setL_at, setL_twice, setR_2, setL_1, setR_ne, setL_ne, ne_eq, Nat.reduceEqDiff, not_false_eq_true, pk_us, pk_un]; done) | (simp (disch := omega) only [setR_at, setR_twice, setL_at, setL_twice, setR_2, setL_1, setR_ne, setL_ne, ne_eq, Nat.reduceEqDiff, not_false_eq_true, pk_us, pk_un, Option.toList_some, Option.toList_none, List.cons_append, List.nil_append]; done) | ((try simp (disch := omega) only [setR_at, setR_twice, setL_at, setL_twice, setR_2, setL_1, setR_ne, setL_ne, ne_eq, Nat.reduceEqDiff, not_false_eq_true, pk_us, pk_un]); refine Prod.ext (funext fun z => ?_) rfl; simp only [setR]; (repeat' split) <;> first | with_reducible rfl | (exfalso; omega)) | rfl) ?_
        exact aw_iretP (pc := 49) C rfl dX8_mean_49 (pc_scr (an' := .inr (mRow false (σ.1 0) rr 30 yy ss, σ.1 0)) (by rw [sMean, if_pos ⟨h5, h15, h24⟩, cl_nI (show rr < 2147483648 by omega), cl_nI (show yy < 2147483648 by omega), cl_nI (show ss < 2147483648 by omega)]) rfl (fun r hr => by simp only [anS, setR]; (repeat' split) <;> first | rfl | (subst_vars; first | rfl | exact absurd (by decide) hr)))
      · refine aw_aload_n (pc := 27) C 0 dX8_mean_27 rfl ?_
        refine aw_iconst (pc := 28) (v := 0) C dX8_mean_28 rfl ?_
        refine aw_cVI (pc := 29) C (c_X8_found _ 0 (by omega)) lk_X8_78 sh0 rfl dX8_mean_29 (by decide) (Nat.le_of_ble_eq_true rfl) rfl rfl ?_
        exact aw_iretP (pc := 32) C rfl dX8_mean_32 (pc_of (an' := .inl 0) (by rw [sMean, if_neg (fun z => h24 (z.2.2))]) rfl rfl)
theorem c_X8_least (σ : St) (n : Nat) (hok : Ok n (σ.1 0)) (r y s : Int32) : AMet Y_X8_least [.ref 0, .int r, .int y, .int s] σ (PC σ (sLeast (σ.1 0) n r y s)) := by
  refine am_intro (by decide +kernel) (Nat.le_of_ble_eq_true rfl) (fun K C => ?_)
  have hz := hok.1
  have hn := hok.2.1
  refine aw_aload_n (pc := 0) C 0 dX8_least_0 rfl ?_
  refine aw_iload_n (pc := 1) C 1 dX8_least_1 rfl ?_
  refine aw_cVI (pc := 2) C (c_X8_isRunner _ n hn hz r ) lk_X8_96 sh0 rfl dX8_least_2 (by decide) (Nat.le_of_ble_eq_true rfl) rfl rfl ?_
  refine aw_if_eqB (pc := 5) C 27 dX8_least_5 (by decide) (fun h5 => ?_) (fun h5 => ?_)
  · refine aw_aload_n (pc := 27) C 0 dX8_least_27 rfl ?_
    refine aw_iconst (pc := 28) (v := 0) C dX8_least_28 rfl ?_
    refine aw_cVI (pc := 29) C (c_X8_found _ 0 (by omega)) lk_X8_78 sh0 rfl dX8_least_29 (by decide) (Nat.le_of_ble_eq_true rfl) rfl rfl ?_
    exact aw_iretP (pc := 32) C rfl dX8_least_32 (pc_of (an' := .inl 0) (by rw [sLeast, if_neg (fun z => h5 (z.1))]) rfl rfl)
  · refine aw_iload_n (pc := 8) C 2 dX8_least_8 rfl ?_
    refine aw_iconst (pc := 9) (v := 0) C dX8_least_9 rfl ?_
    refine aw_bipush (pc := 10) (v := 30) C dX8_least_10 rfl ?_
    refine aw_cSI (pc := 12) C (c_X8_within _ y 0 30 ) lk_X8_74 dX8_least_12 (by decide) (Nat.le_of_ble_eq_true rfl) rfl rfl ?_
    refine aw_if_eqB (pc := 15) C 27 dX8_least_15 (by decide) (fun h15 => ?_) (fun h15 => ?_)
    · refine aw_aload_n (pc := 27) C 0 dX8_least_27 rfl ?_
      refine aw_iconst (pc := 28) (v := 0) C dX8_least_28 rfl ?_
      refine aw_cVI (pc := 29) C (c_X8_found _ 0 (by omega)) lk_X8_78 sh0 rfl dX8_least_29 (by decide) (Nat.le_of_ble_eq_true rfl) rfl rfl ?_
      exact aw_iretP (pc := 32) C rfl dX8_least_32 (pc_of (an' := .inl 0) (by rw [sLeast, if_neg (fun z => h15 (z.2.1))]) rfl rfl)
    · refine aw_iload_n (pc := 18) C 3 dX8_least_18 rfl ?_
      refine aw_iconst (pc := 19) (v := 0) C dX8_least_19 rfl ?_
      refine aw_iconst (pc := 20) (v := 3) C dX8_least_20 rfl ?_
      refine aw_cSI (pc := 21) C (c_X8_within _ s 0 3 ) lk_X8_74 dX8_least_21 (by decide) (Nat.le_of_ble_eq_true rfl) rfl rfl ?_
      refine aw_if_neB (pc := 24) C 33 dX8_least_24 (by decide) (fun h24 => ?_) (fun h24 => ?_)
      · obtain ⟨rr, rfl, hrr⟩ := rgR h5 hz
        obtain ⟨yy, rfl, hyy0, hyy⟩ := rg 0 30 h15 (by omega) (by omega)
        obtain ⟨ss, rfl, hss0, hss⟩ := rg 0 3 h24 (by omega) (by omega)
        refine aw_aload_n (pc := 33) C 0 dX8_least_33 rfl ?_
        refine aw_getR (pc := 34) C fl_X8_29 sh0 rfl dX8_least_34 ?_
        refine aw_aload_n (pc := 37) C 0 dX8_least_37 rfl ?_
        refine aw_getR (pc := 38) C fl_X8_16 sh0 rfl dX8_least_38 ?_
        refine aw_iload_n (pc := 41) C 1 dX8_least_41 rfl ?_
        refine aw_iload_n (pc := 42) C 2 dX8_least_42 rfl ?_
        refine aw_iload_n (pc := 43) C 3 dX8_least_43 rfl ?_
        refine aw_callV (pc := 44) C (c_X1_atBest _  0 (by decide : 0 < 3) n hok rr yy ss (by omega) (by omega) (by omega)) lk_X8_184 sh2 rfl (by decide) rfl (Nat.le_of_ble_eq_true rfl) dX8_least_44 rfl (fun w s hq => ?_)
        obtain ⟨f44, g44, h44x, hC44, rfl, rfl⟩ := hq
        refine aw_conv (σ' := setR (setR (setR σ 5 (f44)) 6 (g44)) 7 (h44x)) (st' := [.int (mRow true (σ.1 0) rr 30 yy ss)]) (by first | with_reducible rfl | (simp (disch := omega) only [setR_at, setR_twice, setL_at, setL_twice, setR_2, setL_1, setR_ne, setL_ne, ne_eq, Nat.reduceEqDiff, not_false_eq_true, pk_us, pk_un]; done) | (simp (disch := omega) only [setR_at, setR_twice, setL_at, setL_twice, setR_2, setL_1, setR_ne, setL_ne, ne_eq, Nat.reduceEqDiff, not_false_eq_true, pk_us, pk_un, Option.toList_some, Option.toList_none, List.cons_append, List.nil_append]; done) | ((try simp (disch := omega) only [setR_at, setR_twice, setL_at, setL_twice, setR_2, setL_1, setR_ne, setL_ne, ne_eq, Nat.reduceEqDiff, not_false_eq_true, pk_us, pk_un]); refine Prod.ext (funext fun z => ?_) rfl; simp only [setR]; (repeat' split) <;> first | with_reducible rfl | (exfalso; omega)) | rfl) rfl (by first | with_reducible rfl | (simp (disch := omega) only [setR_at, setR_twice, setL_at, setL_twice, setR_2, setL_1, setR_ne, setL_ne, ne_eq, Nat.reduceEqDiff, not_false_eq_true, pk_us, pk_un]; done) | (simp (disch := omega) only [setR_at, setR_twice, setL_at, setL_twice, setR_2, setL_1, setR_ne, setL_ne, ne_eq, Nat.reduceEqDiff, not_false_eq_true, pk_us, pk_un, Option.toList_some, Option.toList_none, List.cons_append, List.nil_append]; done) | ((try simp (disch := omega) only [setR_at, setR_twice, setL_at, setL_twice, setR_2, setL_1, setR_ne, setL_ne, ne_eq, Nat.reduceEqDiff, not_false_eq_true, pk_us, pk_un]); refine Prod.ext (funext fun z => ?_) rfl; simp only [setR]; (repeat' split) <;> first | with_reducible rfl | (exfalso; omega)) | rfl) ?_
        exact aw_iretP (pc := 47) C rfl dX8_least_47 (pc_scr (an' := .inr (mRow true (σ.1 0) rr 30 yy ss, σ.1 0)) (by rw [sLeast, if_pos ⟨h5, h15, h24⟩, cl_nI (show rr < 2147483648 by omega), cl_nI (show yy < 2147483648 by omega), cl_nI (show ss < 2147483648 by omega)]) rfl (fun r hr => by simp only [anS, setR]; (repeat' split) <;> first | rfl | (subst_vars; first | rfl | exact absurd (by decide) hr)))
      · refine aw_aload_n (pc := 27) C 0 dX8_least_27 rfl ?_
        refine aw_iconst (pc := 28) (v := 0) C dX8_least_28 rfl ?_
        refine aw_cVI (pc := 29) C (c_X8_found _ 0 (by omega)) lk_X8_78 sh0 rfl dX8_least_29 (by decide) (Nat.le_of_ble_eq_true rfl) rfl rfl ?_
        exact aw_iretP (pc := 32) C rfl dX8_least_32 (pc_of (an' := .inl 0) (by rw [sLeast, if_neg (fun z => h24 (z.2.2))]) rfl rfl)
theorem c_X8_best (σ : St) (n : Nat) (hok : Ok n (σ.1 0)) (r y s : Int32) : AMet Y_X8_best [.ref 0, .int r, .int y, .int s] σ (PC σ (sBest (σ.1 0) n r y s)) := by
  refine am_intro (by decide +kernel) (Nat.le_of_ble_eq_true rfl) (fun K C => ?_)
  have hz := hok.1
  have hn := hok.2.1
  refine aw_aload_n (pc := 0) C 0 dX8_best_0 rfl ?_
  refine aw_iload_n (pc := 1) C 1 dX8_best_1 rfl ?_
  refine aw_cVI (pc := 2) C (c_X8_isRunner _ n hn hz r ) lk_X8_96 sh0 rfl dX8_best_2 (by decide) (Nat.le_of_ble_eq_true rfl) rfl rfl ?_
  refine aw_if_eqB (pc := 5) C 24 dX8_best_5 (by decide) (fun h5 => ?_) (fun h5 => ?_)
  · refine aw_aload_n (pc := 24) C 0 dX8_best_24 rfl ?_
    refine aw_iconst (pc := 25) (v := 0) C dX8_best_25 rfl ?_
    refine aw_cVI (pc := 26) C (c_X8_found _ 0 (by omega)) lk_X8_78 sh0 rfl dX8_best_26 (by decide) (Nat.le_of_ble_eq_true rfl) rfl rfl ?_
    exact aw_iretP (pc := 29) C rfl dX8_best_29 (pc_of (an' := .inl 0) (by rw [sBest, if_neg (fun z => h5 (z.1))]) rfl rfl)
  · refine aw_iload_n (pc := 8) C 2 dX8_best_8 rfl ?_
    refine aw_cSI (pc := 9) C (c_X8_isYard _ y ) lk_X8_70 dX8_best_9 (by decide) (Nat.le_of_ble_eq_true rfl) rfl rfl ?_
    refine aw_if_eqB (pc := 12) C 24 dX8_best_12 (by decide) (fun h12 => ?_) (fun h12 => ?_)
    · refine aw_aload_n (pc := 24) C 0 dX8_best_24 rfl ?_
      refine aw_iconst (pc := 25) (v := 0) C dX8_best_25 rfl ?_
      refine aw_cVI (pc := 26) C (c_X8_found _ 0 (by omega)) lk_X8_78 sh0 rfl dX8_best_26 (by decide) (Nat.le_of_ble_eq_true rfl) rfl rfl ?_
      exact aw_iretP (pc := 29) C rfl dX8_best_29 (pc_of (an' := .inl 0) (by rw [sBest, if_neg (fun z => h12 (z.2.1))]) rfl rfl)
    · refine aw_iload_n (pc := 15) C 3 dX8_best_15 rfl ?_
      refine aw_iconst (pc := 16) (v := 0) C dX8_best_16 rfl ?_
      refine aw_iconst (pc := 17) (v := 3) C dX8_best_17 rfl ?_
      refine aw_cSI (pc := 18) C (c_X8_within _ s 0 3 ) lk_X8_74 dX8_best_18 (by decide) (Nat.le_of_ble_eq_true rfl) rfl rfl ?_
      refine aw_if_neB (pc := 21) C 30 dX8_best_21 (by decide) (fun h21 => ?_) (fun h21 => ?_)
      · obtain ⟨rr, rfl, hrr⟩ := rgR h5 hz
        obtain ⟨yy, rfl, hyy0, hyy⟩ := rg 0 29 h12 (by omega) (by omega)
        obtain ⟨ss, rfl, hss0, hss⟩ := rg 0 3 h21 (by omega) (by omega)
        refine aw_aload_n (pc := 30) C 0 dX8_best_30 rfl ?_
        refine aw_getR (pc := 31) C fl_X8_29 sh0 rfl dX8_best_31 ?_
        refine aw_aload_n (pc := 34) C 0 dX8_best_34 rfl ?_
        refine aw_getR (pc := 35) C fl_X8_16 sh0 rfl dX8_best_35 ?_
        refine aw_iload_n (pc := 38) C 1 dX8_best_38 rfl ?_
        refine aw_iload_n (pc := 39) C 2 dX8_best_39 rfl ?_
        refine aw_iload_n (pc := 40) C 3 dX8_best_40 rfl ?_
        refine aw_callV (pc := 41) C (c_X1_atBest _  0 (by decide : 0 < 3) n hok rr yy ss (by omega) (by omega) (by omega)) lk_X8_184 sh2 rfl (by decide) rfl (Nat.le_of_ble_eq_true rfl) dX8_best_41 rfl (fun w s hq => ?_)
        obtain ⟨f41, g41, h41x, hC41, rfl, rfl⟩ := hq
        refine aw_conv (σ' := setR (setR (setR σ 5 (f41)) 6 (g41)) 7 (h41x)) (st' := [.int (mRow true (σ.1 0) rr 30 yy ss)]) (by first | with_reducible rfl | (simp (disch := omega) only [setR_at, setR_twice, setL_at, setL_twice, setR_2, setL_1, setR_ne, setL_ne, ne_eq, Nat.reduceEqDiff, not_false_eq_true, pk_us, pk_un]; done) | (simp (disch := omega) only [setR_at, setR_twice, setL_at, setL_twice, setR_2, setL_1, setR_ne, setL_ne, ne_eq, Nat.reduceEqDiff, not_false_eq_true, pk_us, pk_un, Option.toList_some, Option.toList_none, List.cons_append, List.nil_append]; done) | ((try simp (disch := omega) only [setR_at, setR_twice, setL_at, setL_twice, setR_2, setL_1, setR_ne, setL_ne, ne_eq, Nat.reduceEqDiff, not_false_eq_true, pk_us, pk_un]); refine Prod.ext (funext fun z => ?_) rfl; simp only [setR]; (repeat' split) <;> first | with_reducible rfl | (exfalso; omega)) | rfl) rfl (by first | with_reducible rfl | (simp (disch := omega) only [setR_at, setR_twice, setL_at, setL_twice, setR_2, setL_1, setR_ne, setL_ne, ne_eq, Nat.reduceEqDiff, not_false_eq_true, pk_us, pk_un]; done) | (simp (disch := omega) only [setR_at, setR_twice, setL_at, setL_twice, setR_2, setL_1, setR_ne, setL_ne, ne_eq, Nat.reduceEqDiff, not_false_eq_true, pk_us, pk_un, Option.toList_some, Option.toList_none, List.cons_append, List.nil_append]; done) | ((try simp (disch := omega) only [setR_at, setR_twice, setL_at, setL_twice, setR_2, setL_1, setR_ne, setL_ne, ne_eq, Nat.reduceEqDiff, not_false_eq_true, pk_us, pk_un]); refine Prod.ext (funext fun z => ?_) rfl; simp only [setR]; (repeat' split) <;> first | with_reducible rfl | (exfalso; omega)) | rfl) ?_
        refine aw_pop (pc := 44) C dX8_best_44 rfl ?_
        refine aw_aload_n (pc := 45) C 0 dX8_best_45 rfl ?_
        refine aw_getR (pc := 46) C fl_X8_29 sh0 rfl dX8_best_46 ?_
        refine aw_iload_n (pc := 49) C 2 dX8_best_49 rfl ?_
        refine aw_iload_n (pc := 50) C 3 dX8_best_50 rfl ?_
        refine aw_cVI (pc := 51) C (c_X1_chosenPace _ yy ss (by omega) (by omega)) lk_X8_188 sh2 rfl dX8_best_51 (by decide) (Nat.le_of_ble_eq_true rfl) rfl rfl ?_
        refine aw_conv (σ' := setR (setR (setR σ 5 (f41)) 6 (g41)) 7 (h41x)) (st' := [.int (h41x (yy * 4 + ss))]) (by first | with_reducible rfl | (simp (disch := omega) only [setR_at, setR_twice, setL_at, setL_twice, setR_2, setL_1, setR_ne, setL_ne, ne_eq, Nat.reduceEqDiff, not_false_eq_true, pk_us, pk_un]; done) | (simp (disch := omega) only [setR_at, setR_twice, setL_at, setL_twice, setR_2, setL_1, setR_ne, setL_ne, ne_eq, Nat.reduceEqDiff, not_false_eq_true, pk_us, pk_un, Option.toList_some, Option.toList_none, List.cons_append, List.nil_append]; done) | ((try simp (disch := omega) only [setR_at, setR_twice, setL_at, setL_twice, setR_2, setL_1, setR_ne, setL_ne, ne_eq, Nat.reduceEqDiff, not_false_eq_true, pk_us, pk_un]); refine Prod.ext (funext fun z => ?_) rfl; simp only [setR]; (repeat' split) <;> first | with_reducible rfl | (exfalso; omega)) | rfl) rfl (by first | with_reducible rfl | (simp (disch := omega) only [setR_at, setR_twice, setL_at, setL_twice, setR_2, setL_1, setR_ne, setL_ne, ne_eq, Nat.reduceEqDiff, not_false_eq_true, pk_us, pk_un]; done) | (simp (disch := omega) only [setR_at, setR_twice, setL_at, setL_twice, setR_2, setL_1, setR_ne, setL_ne, ne_eq, Nat.reduceEqDiff, not_false_eq_true, pk_us, pk_un, Option.toList_some, Option.toList_none, List.cons_append, List.nil_append]; done) | ((try simp (disch := omega) only [setR_at, setR_twice, setL_at, setL_twice, setR_2, setL_1, setR_ne, setL_ne, ne_eq, Nat.reduceEqDiff, not_false_eq_true, pk_us, pk_un]); refine Prod.ext (funext fun z => ?_) rfl; simp only [setR]; (repeat' split) <;> first | with_reducible rfl | (exfalso; omega)) | rfl) ?_
        refine aw_top C (mPc true (σ.1 0) rr 30 yy ss) (by rw [show yy * 4 + ss = 4 * yy + ss by omega]; exact hC41 yy (by omega) (by omega) ss (by omega)) ?_
        exact aw_iretP (pc := 54) C rfl dX8_best_54 (pc_scr (an' := .inr (mPc true (σ.1 0) rr 30 yy ss, σ.1 0)) (by rw [sBest, if_pos ⟨h5, h12, h21⟩, cl_nI (show rr < 2147483648 by omega), cl_nI (show yy < 2147483648 by omega), cl_nI (show ss < 2147483648 by omega)]) rfl (fun r hr => by simp only [anS, setR]; (repeat' split) <;> first | rfl | (subst_vars; first | rfl | exact absurd (by decide) hr)))
      · refine aw_aload_n (pc := 24) C 0 dX8_best_24 rfl ?_
        refine aw_iconst (pc := 25) (v := 0) C dX8_best_25 rfl ?_
        refine aw_cVI (pc := 26) C (c_X8_found _ 0 (by omega)) lk_X8_78 sh0 rfl dX8_best_26 (by decide) (Nat.le_of_ble_eq_true rfl) rfl rfl ?_
        exact aw_iretP (pc := 29) C rfl dX8_best_29 (pc_of (an' := .inl 0) (by rw [sBest, if_neg (fun z => h21 (z.2.2))]) rfl rfl)
theorem c_X8_costs (σ : St) (n : Nat) (hok : Ok n (σ.1 0)) (r y : Int32) : AMet Y_X8_costs [.ref 0, .int r, .int y] σ (PC σ (sCosts (σ.1 0) n r y)) := by
  refine am_intro (by decide +kernel) (Nat.le_of_ble_eq_true rfl) (fun K C => ?_)
  have hz := hok.1
  have hn := hok.2.1
  refine aw_aload_n (pc := 0) C 0 dX8_costs_0 rfl ?_
  refine aw_iload_n (pc := 1) C 1 dX8_costs_1 rfl ?_
  refine aw_cVI (pc := 2) C (c_X8_isRunner _ n hn hz r ) lk_X8_96 sh0 rfl dX8_costs_2 (by decide) (Nat.le_of_ble_eq_true rfl) rfl rfl ?_
  refine aw_if_eqB (pc := 5) C 15 dX8_costs_5 (by decide) (fun h5 => ?_) (fun h5 => ?_)
  · refine aw_aload_n (pc := 15) C 0 dX8_costs_15 rfl ?_
    refine aw_iconst (pc := 16) (v := 0) C dX8_costs_16 rfl ?_
    refine aw_cVI (pc := 17) C (c_X8_found _ 0 (by omega)) lk_X8_78 sh0 rfl dX8_costs_17 (by decide) (Nat.le_of_ble_eq_true rfl) rfl rfl ?_
    exact aw_iretP (pc := 20) C rfl dX8_costs_20 (pc_of (an' := .inl 0) (by rw [sCosts, if_neg (fun z => h5 (z.1))]) rfl rfl)
  · refine aw_iload_n (pc := 8) C 2 dX8_costs_8 rfl ?_
    refine aw_cSI (pc := 9) C (c_X8_isYard _ y ) lk_X8_70 dX8_costs_9 (by decide) (Nat.le_of_ble_eq_true rfl) rfl rfl ?_
    refine aw_if_neB (pc := 12) C 21 dX8_costs_12 (by decide) (fun h12 => ?_) (fun h12 => ?_)
    · obtain ⟨rr, rfl, hrr⟩ := rgR h5 hz
      obtain ⟨yy, rfl, hyy0, hyy⟩ := rg 0 29 h12 (by omega) (by omega)
      refine aw_aload_n (pc := 21) C 0 dX8_costs_21 rfl ?_
      refine aw_getR (pc := 22) C fl_X8_29 sh0 rfl dX8_costs_22 ?_
      refine aw_aload_n (pc := 25) C 0 dX8_costs_25 rfl ?_
      refine aw_getR (pc := 26) C fl_X8_16 sh0 rfl dX8_costs_26 ?_
      refine aw_iload_n (pc := 29) C 1 dX8_costs_29 rfl ?_
      refine aw_iload_n (pc := 30) C 2 dX8_costs_30 rfl ?_
      refine aw_iconst (pc := 31) (v := 1) C dX8_costs_31 rfl ?_
      refine aw_iaddN (pc := 32) C yy 1 rfl rfl dX8_costs_32 ?_
      refine aw_bipush (pc := 33) (v := 30) C dX8_costs_33 rfl ?_
      refine aw_iconst (pc := 35) (v := 3) C dX8_costs_35 rfl ?_
      refine aw_callV (pc := 36) C (c_X1_atPaces _  0 (by decide : 0 < 3) n hok rr (yy + 1) 30 3 (by omega) (by omega) (by omega) (by omega)) lk_X8_180 sh2 rfl (by decide) rfl (Nat.le_of_ble_eq_true rfl) dX8_costs_36 rfl (fun w s hq => ?_)
      obtain ⟨f36, g36, rfl, rfl⟩ := hq
      refine aw_conv (σ' := setR (setR σ 5 (f36)) 6 (g36)) (st' := [.int (mRow false (σ.1 0) rr 30 (yy + 1) 3)]) (by first | with_reducible rfl | (simp (disch := omega) only [setR_at, setR_twice, setL_at, setL_twice, setR_2, setL_1, setR_ne, setL_ne, ne_eq, Nat.reduceEqDiff, not_false_eq_true, pk_us, pk_un]; done) | (simp (disch := omega) only [setR_at, setR_twice, setL_at, setL_twice, setR_2, setL_1, setR_ne, setL_ne, ne_eq, Nat.reduceEqDiff, not_false_eq_true, pk_us, pk_un, Option.toList_some, Option.toList_none, List.cons_append, List.nil_append]; done) | ((try simp (disch := omega) only [setR_at, setR_twice, setL_at, setL_twice, setR_2, setL_1, setR_ne, setL_ne, ne_eq, Nat.reduceEqDiff, not_false_eq_true, pk_us, pk_un]); refine Prod.ext (funext fun z => ?_) rfl; simp only [setR]; (repeat' split) <;> first | with_reducible rfl | (exfalso; omega)) | rfl) rfl (by first | with_reducible rfl | (simp (disch := omega) only [setR_at, setR_twice, setL_at, setL_twice, setR_2, setL_1, setR_ne, setL_ne, ne_eq, Nat.reduceEqDiff, not_false_eq_true, pk_us, pk_un]; done) | (simp (disch := omega) only [setR_at, setR_twice, setL_at, setL_twice, setR_2, setL_1, setR_ne, setL_ne, ne_eq, Nat.reduceEqDiff, not_false_eq_true, pk_us, pk_un, Option.toList_some, Option.toList_none, List.cons_append, List.nil_append]; done) | ((try simp (disch := omega) only [setR_at, setR_twice, setL_at, setL_twice, setR_2, setL_1, setR_ne, setL_ne, ne_eq, Nat.reduceEqDiff, not_false_eq_true, pk_us, pk_un]); refine Prod.ext (funext fun z => ?_) rfl; simp only [setR]; (repeat' split) <;> first | with_reducible rfl | (exfalso; omega)) | rfl) ?_
      refine aw_istore_n (pc := 39) C [(3, .int (mRow false (σ.1 0) rr 30 (yy + 1) 3)), (0, .ref 0), (1, .int (nI rr)), (2, .int (nI yy))] dX8_costs_39 (Nat.le_of_ble_eq_true rfl) rfl ?_
      refine aw_aload_n (pc := 40) C 1 dX8_costs_40 rfl ?_
      refine aw_getR (pc := 41) C fl_X8_29 sh0 rfl dX8_costs_41 ?_
      refine aw_aload_n (pc := 44) C 1 dX8_costs_44 rfl ?_
      refine aw_getR (pc := 45) C fl_X8_16 sh0 rfl dX8_costs_45 ?_
      refine aw_iload_n (pc := 48) C 2 dX8_costs_48 rfl ?_
      refine aw_iload_n (pc := 49) C 3 dX8_costs_49 rfl ?_
      refine aw_iconst (pc := 50) (v := 1) C dX8_costs_50 rfl ?_
      refine aw_iaddN (pc := 51) C yy 1 rfl rfl dX8_costs_51 ?_
      refine aw_bipush (pc := 52) (v := 30) C dX8_costs_52 rfl ?_
      refine aw_iconst (pc := 54) (v := 0) C dX8_costs_54 rfl ?_
      refine aw_callV (pc := 55) C (c_X1_atPaces _  0 (by decide : 0 < 3) n (by simp (disch := omega) only [setR_at, setR_twice, setL_at, setL_twice, setR_2, setL_1, setR_ne, setL_ne, ne_eq, Nat.reduceEqDiff, not_false_eq_true, pk_us, pk_un]; exact hok) rr (yy + 1) 30 0 (by omega) (by omega) (by omega) (by omega)) lk_X8_180 sh2 rfl (by decide) rfl (Nat.le_of_ble_eq_true rfl) dX8_costs_55 rfl (fun w s hq => ?_)
      obtain ⟨f55, g55, rfl, rfl⟩ := hq
      refine aw_conv (σ' := setR (setR σ 5 (f55)) 6 (g55)) (st' := [.int (mRow false (σ.1 0) rr 30 (yy + 1) 0)]) (by first | with_reducible rfl | (simp (disch := omega) only [setR_at, setR_twice, setL_at, setL_twice, setR_2, setL_1, setR_ne, setL_ne, ne_eq, Nat.reduceEqDiff, not_false_eq_true, pk_us, pk_un]; done) | (simp (disch := omega) only [setR_at, setR_twice, setL_at, setL_twice, setR_2, setL_1, setR_ne, setL_ne, ne_eq, Nat.reduceEqDiff, not_false_eq_true, pk_us, pk_un, Option.toList_some, Option.toList_none, List.cons_append, List.nil_append]; done) | ((try simp (disch := omega) only [setR_at, setR_twice, setL_at, setL_twice, setR_2, setL_1, setR_ne, setL_ne, ne_eq, Nat.reduceEqDiff, not_false_eq_true, pk_us, pk_un]); refine Prod.ext (funext fun z => ?_) rfl; simp only [setR]; (repeat' split) <;> first | with_reducible rfl | (exfalso; omega)) | rfl) rfl (by first | with_reducible rfl | (simp (disch := omega) only [setR_at, setR_twice, setL_at, setL_twice, setR_2, setL_1, setR_ne, setL_ne, ne_eq, Nat.reduceEqDiff, not_false_eq_true, pk_us, pk_un]; done) | (simp (disch := omega) only [setR_at, setR_twice, setL_at, setL_twice, setR_2, setL_1, setR_ne, setL_ne, ne_eq, Nat.reduceEqDiff, not_false_eq_true, pk_us, pk_un, Option.toList_some, Option.toList_none, List.cons_append, List.nil_append]; done) | ((try simp (disch := omega) only [setR_at, setR_twice, setL_at, setL_twice, setR_2, setL_1, setR_ne, setL_ne, ne_eq, Nat.reduceEqDiff, not_false_eq_true, pk_us, pk_un]); refine Prod.ext (funext fun z => ?_) rfl; simp only [setR]; (repeat' split) <;> first | with_reducible rfl | (exfalso; omega)) | rfl) ?_
      refine aw_istore (pc := 58) C [(4, .int (mRow false (σ.1 0) rr 30 (yy + 1) 0)), (3, .int (mRow false (σ.1 0) rr 30 (yy + 1) 3)), (0, .ref 0), (1, .int (nI rr)), (2, .int (nI yy))] dX8_costs_58 (Nat.le_of_ble_eq_true rfl) rfl ?_
      refine aw_sipush (pc := 60) (v := 1000) C dX8_costs_60 rfl ?_
      refine aw_aload_n (pc := 63) C 2 dX8_costs_63 rfl ?_
      refine aw_getR (pc := 64) C fl_X8_16 sh0 rfl dX8_costs_64 ?_
      refine aw_gld (pc := 67) C (σ.1 0 0) fl_X8_85 (shM (by decide : 0 < 3)) rfl dX8_costs_67 (by first | with_reducible rfl | (simp (disch := omega) only [setR_at, setR_twice, setL_at, setL_twice, setR_2, setL_1, setR_ne, setL_ne, ne_eq, Nat.reduceEqDiff, not_false_eq_true, pk_us, pk_un]; done) | (simp (disch := omega) only [setR_at, setR_twice, setL_at, setL_twice, setR_2, setL_1, setR_ne, setL_ne, ne_eq, Nat.reduceEqDiff, not_false_eq_true, pk_us, pk_un, Option.toList_some, Option.toList_none, List.cons_append, List.nil_append]; done) | ((try simp (disch := omega) only [setR_at, setR_twice, setL_at, setL_twice, setR_2, setL_1, setR_ne, setL_ne, ne_eq, Nat.reduceEqDiff, not_false_eq_true, pk_us, pk_un]); refine Prod.ext (funext fun z => ?_) rfl; simp only [setR]; (repeat' split) <;> first | with_reducible rfl | (exfalso; omega)) | rfl) ?_
      refine aw_imul (pc := 70) C dX8_costs_70 ?_
      refine aw_iload_n (pc := 71) C 1 dX8_costs_71 rfl ?_
      refine aw_iadd (pc := 72) C dX8_costs_72 ?_
      refine aw_iload (pc := 73) C 0 dX8_costs_73 rfl ?_
      refine aw_isub (pc := 75) C dX8_costs_75 ?_
      exact aw_iretP (pc := 76) C rfl dX8_costs_76 (pc_scr (an' := .inr (((1000 * (σ.1 0 0)) + (mRow false (σ.1 0) rr 30 (yy + 1) 3)) - (mRow false (σ.1 0) rr 30 (yy + 1) 0), σ.1 0)) (by rw [sCosts, if_pos ⟨h5, h12⟩, cl_nI (show rr < 2147483648 by omega), cl_nI (show yy < 2147483648 by omega)]) rfl (fun r hr => by simp only [anS, setR]; (repeat' split) <;> first | rfl | (subst_vars; first | rfl | exact absurd (by decide) hr)))
    · refine aw_aload_n (pc := 15) C 0 dX8_costs_15 rfl ?_
      refine aw_iconst (pc := 16) (v := 0) C dX8_costs_16 rfl ?_
      refine aw_cVI (pc := 17) C (c_X8_found _ 0 (by omega)) lk_X8_78 sh0 rfl dX8_costs_17 (by decide) (Nat.le_of_ble_eq_true rfl) rfl rfl ?_
      exact aw_iretP (pc := 20) C rfl dX8_costs_20 (pc_of (an' := .inl 0) (by rw [sCosts, if_neg (fun z => h12 (z.2))]) rfl rfl)
