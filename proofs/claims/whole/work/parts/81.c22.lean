/-! the class: races ahead, the calls -/
theorem c_X8_winner (σ : St) (n : Nat) (hok : Ok n (σ.1 0)) : AMet Y_X8_winner [.ref 0] σ (PC σ (sWinner (σ.1 0) n)) := by
  refine am_intro (by decide +kernel) (Nat.le_of_ble_eq_true rfl) (fun K C => ?_)
  have hz := hok.1
  have hn := hok.2.1
  have hokt : Ok n (bcm (σ.1 2) (σ.1 0) n) := hok.agr Agr.bcm.sym
  refine aw_aload_n (pc := 0) C 0 dX8_winner_0 rfl ?_
  refine aw_getR (pc := 1) C fl_X8_16 sh0 rfl dX8_winner_1 ?_
  refine aw_gld (pc := 4) C (σ.1 0 2) fl_X8_89 (shM (by decide : 0 < 3)) rfl dX8_winner_4 rfl ?_
  refine aw_top C (nI (n)) hn ?_
  refine aw_if_neN (pc := 7) C n 16 rfl (by omega) dX8_winner_7 (by decide) (fun h7 => ?_) (fun h7 => ?_)
  · refine aw_aload_n (pc := 16) C 0 dX8_winner_16 rfl ?_
    refine aw_cV0 (pc := 17) C (c_X8_runAllHome _  n hok) lk_X8_161 sh0 rfl dX8_winner_17 (by decide) (Nat.le_of_ble_eq_true rfl) rfl rfl ?_
    have hokg : Ok n (goM n (bcm (σ.1 2) (σ.1 0) n) 180) := hokt.go 180
    have hag : Agr n (goM n (bcm (σ.1 2) (σ.1 0) n) 180) (goM n (σ.1 0) 180) := (go_agr Agr.bcm hok 180).1
    refine aw_aload_n (pc := 20) C 0 dX8_winner_20 rfl ?_
    refine aw_getR (pc := 21) C fl_X8_23 sh0 rfl dX8_winner_21 ?_
    refine aw_cVI (pc := 24) C (c_X2_leastInTime _ 2 (by decide : 2 < 3) n (by simp (disch := omega) only [setR_at, setR_twice, setL_at, setL_twice, setR_2, setL_1, setR_ne, setL_ne, ne_eq, Nat.reduceEqDiff, not_false_eq_true, pk_us, pk_un]; exact hokg) (by omega)) lk_X8_164 (shM (by decide : 2 < 3)) rfl dX8_winner_24 (by decide) (Nat.le_of_ble_eq_true rfl) rfl rfl ?_
    refine aw_conv (σ' := setR σ 2 (goM n (bcm (σ.1 2) (σ.1 0) n) 180)) (st' := [.int (oI (fst (goM n (bcm (σ.1 2) (σ.1 0) n) 180) n))]) (by first | with_reducible rfl | (simp (disch := omega) only [setR_at, setR_twice, setL_at, setL_twice, setR_2, setL_1, setR_ne, setL_ne, ne_eq, Nat.reduceEqDiff, not_false_eq_true, pk_us, pk_un]; done) | (simp (disch := omega) only [setR_at, setR_twice, setL_at, setL_twice, setR_2, setL_1, setR_ne, setL_ne, ne_eq, Nat.reduceEqDiff, not_false_eq_true, pk_us, pk_un, Option.toList_some, Option.toList_none, List.cons_append, List.nil_append]; done) | ((try simp (disch := omega) only [setR_at, setR_twice, setL_at, setL_twice, setR_2, setL_1, setR_ne, setL_ne, ne_eq, Nat.reduceEqDiff, not_false_eq_true, pk_us, pk_un]); refine Prod.ext (funext fun z => ?_) rfl; simp only [setR]; (repeat' split) <;> first | with_reducible rfl | (exfalso; omega)) | rfl) rfl (by first | with_reducible rfl | (simp (disch := omega) only [setR_at, setR_twice, setL_at, setL_twice, setR_2, setL_1, setR_ne, setL_ne, ne_eq, Nat.reduceEqDiff, not_false_eq_true, pk_us, pk_un]; done) | (simp (disch := omega) only [setR_at, setR_twice, setL_at, setL_twice, setR_2, setL_1, setR_ne, setL_ne, ne_eq, Nat.reduceEqDiff, not_false_eq_true, pk_us, pk_un, Option.toList_some, Option.toList_none, List.cons_append, List.nil_append]; done) | ((try simp (disch := omega) only [setR_at, setR_twice, setL_at, setL_twice, setR_2, setL_1, setR_ne, setL_ne, ne_eq, Nat.reduceEqDiff, not_false_eq_true, pk_us, pk_un]); refine Prod.ext (funext fun z => ?_) rfl; simp only [setR]; (repeat' split) <;> first | with_reducible rfl | (exfalso; omega)) | rfl) ?_
    obtain ⟨b, hb⟩ := fst_some (μ := goM n (σ.1 0) 180) (show 0 < n by omega)
    refine aw_top C (nI (b)) (by rw [fst_agr hag (Nat.le_refl n), hb]; rfl) ?_
    exact aw_iretP (pc := 27) C rfl dX8_winner_27 (pc_scr (an' := .inr (nI b, σ.1 0)) (by simp only [sWinner, hb]) rfl (fun r hr => by simp only [anS, setR]; (repeat' split) <;> first | rfl | (subst_vars; first | rfl | exact absurd (by decide) hr)))
  · refine aw_aload_n (pc := 10) C 0 dX8_winner_10 rfl ?_
    refine aw_iconst (pc := 11) (v := 3) C dX8_winner_11 rfl ?_
    refine aw_cVI (pc := 12) C (c_X8_found _ 3 (by omega)) lk_X8_78 sh0 rfl dX8_winner_12 (by decide) (Nat.le_of_ble_eq_true rfl) rfl rfl ?_
    exact aw_iretP (pc := 15) C rfl dX8_winner_15 (pc_of (an' := .inl 3) (by have hb : fst (goM n (σ.1 0) 180) n = none := (by rw [show n = 0 from h7]; rfl); simp only [sWinner, hb]) rfl rfl)
theorem c_X8_place (σ : St) (n : Nat) (hok : Ok n (σ.1 0)) (r : Int32) : AMet Y_X8_place [.ref 0, .int r] σ (PC σ (sPlace (σ.1 0) n r)) := by
  refine am_intro (by decide +kernel) (Nat.le_of_ble_eq_true rfl) (fun K C => ?_)
  have hz := hok.1
  have hn := hok.2.1
  have hokt : Ok n (bcm (σ.1 2) (σ.1 0) n) := hok.agr Agr.bcm.sym
  refine aw_aload_n (pc := 0) C 0 dX8_place_0 rfl ?_
  refine aw_iload_n (pc := 1) C 1 dX8_place_1 rfl ?_
  refine aw_cVI (pc := 2) C (c_X8_isRunner _ n hn hz r ) lk_X8_96 sh0 rfl dX8_place_2 (by decide) (Nat.le_of_ble_eq_true rfl) rfl rfl ?_
  refine aw_if_neB (pc := 5) C 14 dX8_place_5 (by decide) (fun h5 => ?_) (fun h5 => ?_)
  · obtain ⟨rr, rfl, hrr⟩ := rgR h5 hz
    refine aw_aload_n (pc := 14) C 0 dX8_place_14 rfl ?_
    refine aw_cV0 (pc := 15) C (c_X8_runAllHome _  n hok) lk_X8_161 sh0 rfl dX8_place_15 (by decide) (Nat.le_of_ble_eq_true rfl) rfl rfl ?_
    have hokg : Ok n (goM n (bcm (σ.1 2) (σ.1 0) n) 180) := hokt.go 180
    have hag : Agr n (goM n (bcm (σ.1 2) (σ.1 0) n) 180) (goM n (σ.1 0) 180) := (go_agr Agr.bcm hok 180).1
    refine aw_aload_n (pc := 18) C 0 dX8_place_18 rfl ?_
    refine aw_getR (pc := 19) C fl_X8_23 sh0 rfl dX8_place_19 ?_
    refine aw_iload_n (pc := 22) C 1 dX8_place_22 rfl ?_
    refine aw_cVI (pc := 23) C (c_X2_placeOf _ 2 (by decide : 2 < 3) n (by simp (disch := omega) only [setR_at, setR_twice, setL_at, setL_twice, setR_2, setL_1, setR_ne, setL_ne, ne_eq, Nat.reduceEqDiff, not_false_eq_true, pk_us, pk_un]; exact hokg) rr (by omega)) lk_X8_167 (shM (by decide : 2 < 3)) rfl dX8_place_23 (by decide) (Nat.le_of_ble_eq_true rfl) rfl rfl ?_
    refine aw_conv (σ' := setR σ 2 (goM n (bcm (σ.1 2) (σ.1 0) n) 180)) (st' := [.int (placeS (goM n (bcm (σ.1 2) (σ.1 0) n) 180) rr n)]) (by first | with_reducible rfl | (simp (disch := omega) only [setR_at, setR_twice, setL_at, setL_twice, setR_2, setL_1, setR_ne, setL_ne, ne_eq, Nat.reduceEqDiff, not_false_eq_true, pk_us, pk_un]; done) | (simp (disch := omega) only [setR_at, setR_twice, setL_at, setL_twice, setR_2, setL_1, setR_ne, setL_ne, ne_eq, Nat.reduceEqDiff, not_false_eq_true, pk_us, pk_un, Option.toList_some, Option.toList_none, List.cons_append, List.nil_append]; done) | ((try simp (disch := omega) only [setR_at, setR_twice, setL_at, setL_twice, setR_2, setL_1, setR_ne, setL_ne, ne_eq, Nat.reduceEqDiff, not_false_eq_true, pk_us, pk_un]); refine Prod.ext (funext fun z => ?_) rfl; simp only [setR]; (repeat' split) <;> first | with_reducible rfl | (exfalso; omega)) | rfl) rfl (by first | with_reducible rfl | (simp (disch := omega) only [setR_at, setR_twice, setL_at, setL_twice, setR_2, setL_1, setR_ne, setL_ne, ne_eq, Nat.reduceEqDiff, not_false_eq_true, pk_us, pk_un]; done) | (simp (disch := omega) only [setR_at, setR_twice, setL_at, setL_twice, setR_2, setL_1, setR_ne, setL_ne, ne_eq, Nat.reduceEqDiff, not_false_eq_true, pk_us, pk_un, Option.toList_some, Option.toList_none, List.cons_append, List.nil_append]; done) | ((try simp (disch := omega) only [setR_at, setR_twice, setL_at, setL_twice, setR_2, setL_1, setR_ne, setL_ne, ne_eq, Nat.reduceEqDiff, not_false_eq_true, pk_us, pk_un]); refine Prod.ext (funext fun z => ?_) rfl; simp only [setR]; (repeat' split) <;> first | with_reducible rfl | (exfalso; omega)) | rfl) ?_
    refine aw_top C (placeS (goM n (σ.1 0) 180) rr n) (place_agr hag hrr (Nat.le_refl n)) ?_
    exact aw_iretP (pc := 26) C rfl dX8_place_26 (pc_scr (an' := .inr (placeS (goM n (σ.1 0) 180) rr n, σ.1 0)) (by rw [sPlace, if_pos h5, cl_nI (show rr < 2147483648 by omega)]) rfl (fun r hr => by simp only [anS, setR]; (repeat' split) <;> first | rfl | (subst_vars; first | rfl | exact absurd (by decide) hr)))
  · refine aw_aload_n (pc := 8) C 0 dX8_place_8 rfl ?_
    refine aw_iconst (pc := 9) (v := 0) C dX8_place_9 rfl ?_
    refine aw_cVI (pc := 10) C (c_X8_found _ 0 (by omega)) lk_X8_78 sh0 rfl dX8_place_10 (by decide) (Nat.le_of_ble_eq_true rfl) rfl rfl ?_
    exact aw_iretP (pc := 13) C rfl dX8_place_13 (pc_of (an' := .inl 0) (by rw [sPlace, if_neg (fun z => h5 (z))]) rfl rfl)
theorem c_X8_wins (σ : St) (n : Nat) (hok : Ok n (σ.1 0)) (r k : Int32) : AMet Y_X8_wins [.ref 0, .int r, .int k] σ (PC σ (sWins (σ.1 0) n r k)) := by
  refine am_intro (by decide +kernel) (Nat.le_of_ble_eq_true rfl) (fun K C => ?_)
  have hz := hok.1
  have hn := hok.2.1
  have hokt : Ok n (bcm (σ.1 2) (σ.1 0) n) := hok.agr Agr.bcm.sym
  refine aw_aload_n (pc := 0) C 0 dX8_wins_0 rfl ?_
  refine aw_iload_n (pc := 1) C 1 dX8_wins_1 rfl ?_
  refine aw_cVI (pc := 2) C (c_X8_isRunner _ n hn hz r ) lk_X8_96 sh0 rfl dX8_wins_2 (by decide) (Nat.le_of_ble_eq_true rfl) rfl rfl ?_
  refine aw_if_eqB (pc := 5) C 18 dX8_wins_5 (by decide) (fun h5 => ?_) (fun h5 => ?_)
  · refine aw_aload_n (pc := 18) C 0 dX8_wins_18 rfl ?_
    refine aw_iconst (pc := 19) (v := 0) C dX8_wins_19 rfl ?_
    refine aw_cVI (pc := 20) C (c_X8_found _ 0 (by omega)) lk_X8_78 sh0 rfl dX8_wins_20 (by decide) (Nat.le_of_ble_eq_true rfl) rfl rfl ?_
    exact aw_iretP (pc := 23) C rfl dX8_wins_23 (pc_of (an' := .inl 0) (by rw [sWins, if_neg (fun z => h5 z.1)]) rfl rfl)
  · refine aw_iload_n (pc := 8) C 2 dX8_wins_8 rfl ?_
    refine aw_iconst (pc := 9) (v := 1) C dX8_wins_9 rfl ?_
    refine aw_bipush (pc := 10) (v := 10) C dX8_wins_10 rfl ?_
    refine aw_cSI (pc := 12) C (c_X8_within _ k 1 10 ) lk_X8_74 dX8_wins_12 (by decide) (Nat.le_of_ble_eq_true rfl) rfl rfl ?_
    refine aw_if_neB (pc := 15) C 24 dX8_wins_15 (by decide) (fun h15 => ?_) (fun h15 => ?_)
    · obtain ⟨rr, rfl, hrr⟩ := rgR h5 hz
      obtain ⟨kk, rfl, hkk0, hkk⟩ := rg 1 10 h15 (by omega) (by omega)
      refine aw_aload_n (pc := 24) C 0 dX8_wins_24 rfl ?_
      refine aw_getR (pc := 25) C fl_X8_23 sh0 rfl dX8_wins_25 ?_
      refine aw_aload_n (pc := 28) C 0 dX8_wins_28 rfl ?_
      refine aw_getR (pc := 29) C fl_X8_16 sh0 rfl dX8_wins_29 ?_
      refine aw_cV0 (pc := 32) C (c_X2_become _ 2 (by decide : 2 < 3) 0 (by decide : 0 < 3) (by decide) n hn hz) lk_X8_151 (shM (by decide : 2 < 3)) rfl dX8_wins_32 (by decide) (Nat.le_of_ble_eq_true rfl) rfl rfl ?_
      refine aw_iconst (pc := 35) (v := 0) C dX8_wins_35 rfl ?_
      refine aw_istore_n (pc := 36) C [(3, .int 0), (0, .ref 0), (1, .int (nI rr)), (2, .int (nI kk))] dX8_wins_36 (Nat.le_of_ble_eq_true rfl) rfl ?_
      refine aw_iconst (pc := 37) (v := 0) C dX8_wins_37 rfl ?_
      refine aw_istore (pc := 38) C [(4, .int 0), (3, .int 0), (0, .ref 0), (1, .int (nI rr)), (2, .int (nI kk))] dX8_wins_38 (Nat.le_of_ble_eq_true rfl) rfl ?_
      refine aw_lvs C [0, 1, 2, 3, 4] [(4, .int 0), (3, .int 0), (0, .ref 0), (1, .int (nI rr)), (2, .int (nI kk))] rfl ?_
      refine aw_conv (σ' := setR σ 2 (raceM n (bcm (σ.1 2) (σ.1 0) n) 0)) (lv' := [(4, .int (nI 0)), (3, .int (winsS n (bcm (σ.1 2) (σ.1 0) n) (nI rr) 0)), (0, .ref 0), (1, .int (nI rr)), (2, .int (nI kk))]) rfl rfl rfl ?_
      refine loop_up (P := fun k => AW _ K _ (setR σ 2 (raceM n (bcm (σ.1 2) (σ.1 0) n) k)) 40 [(4, .int (nI k)), (3, .int (winsS n (bcm (σ.1 2) (σ.1 0) n) (nI rr) k)), (0, .ref 0), (1, .int (nI rr)), (2, .int (nI kk))] []) kk ?_ ?_ 0 (by omega) 
      · refine aw_iload (pc := 40) C 0 dX8_wins_40 rfl ?_
        refine aw_iload_n (pc := 42) C 4 dX8_wins_42 rfl ?_
        refine aw_icmp_geN (pc := 43) C kk kk 90 rfl rfl (by omega) (by omega) dX8_wins_43 (by decide) (fun h43 => ?_) (fun h43 => absurd h43 (by omega))
        refine aw_aload_n (pc := 90) C 2 dX8_wins_90 rfl ?_
        refine aw_getR (pc := 91) C fl_X8_16 sh0 rfl dX8_wins_91 ?_
        refine aw_aload_n (pc := 94) C 2 dX8_wins_94 rfl ?_
        refine aw_getR (pc := 95) C fl_X8_23 sh0 rfl dX8_wins_95 ?_
        refine aw_gld (pc := 98) C ((raceM n (bcm (σ.1 2) (σ.1 0) n) kk) 1) fl_X8_170 (shM (by decide : 2 < 3)) rfl dX8_wins_98 (by first | with_reducible rfl | (simp (disch := omega) only [setR_at, setR_twice, setL_at, setL_twice, setR_2, setL_1, setR_ne, setL_ne, ne_eq, Nat.reduceEqDiff, not_false_eq_true, pk_us, pk_un]; done) | (simp (disch := omega) only [setR_at, setR_twice, setL_at, setL_twice, setR_2, setL_1, setR_ne, setL_ne, ne_eq, Nat.reduceEqDiff, not_false_eq_true, pk_us, pk_un, Option.toList_some, Option.toList_none, List.cons_append, List.nil_append]; done) | ((try simp (disch := omega) only [setR_at, setR_twice, setL_at, setL_twice, setR_2, setL_1, setR_ne, setL_ne, ne_eq, Nat.reduceEqDiff, not_false_eq_true, pk_us, pk_un]); refine Prod.ext (funext fun z => ?_) rfl; simp only [setR]; (repeat' split) <;> first | with_reducible rfl | (exfalso; omega)) | rfl) ?_
        refine aw_pst (pc := 101) C (setR (setR σ 2 (raceM n (bcm (σ.1 2) (σ.1 0) n) kk)) 0 (upd (σ.1 0) 1 ((raceM n (bcm (σ.1 2) (σ.1 0) n) kk) 1))) fp_X8_170 (shM (by decide : 0 < 3)) rfl dX8_wins_101 (by first | with_reducible rfl | (simp (disch := omega) only [setR_at, setR_twice, setL_at, setL_twice, setR_2, setL_1, setR_ne, setL_ne, ne_eq, Nat.reduceEqDiff, not_false_eq_true, pk_us, pk_un]; done) | (simp (disch := omega) only [setR_at, setR_twice, setL_at, setL_twice, setR_2, setL_1, setR_ne, setL_ne, ne_eq, Nat.reduceEqDiff, not_false_eq_true, pk_us, pk_un, Option.toList_some, Option.toList_none, List.cons_append, List.nil_append]; done) | ((try simp (disch := omega) only [setR_at, setR_twice, setL_at, setL_twice, setR_2, setL_1, setR_ne, setL_ne, ne_eq, Nat.reduceEqDiff, not_false_eq_true, pk_us, pk_un]); refine Prod.ext (funext fun z => ?_) rfl; simp only [setR]; (repeat' split) <;> first | with_reducible rfl | (exfalso; omega)) | rfl) ?_
        refine aw_iload_n (pc := 104) C 1 dX8_wins_104 rfl ?_
        exact aw_iretP (pc := 105) C rfl dX8_wins_105 (pc_scr (an' := .inr (winsS n (σ.1 0) (nI rr) kk, upd (σ.1 0) 1 (raceM n (σ.1 0) kk 1))) (by rw [sWins, if_pos ⟨h5, h15⟩, cl_nI (show kk < 2147483648 by omega)]) (wins_agr Agr.bcm hok kk) (by rw [← (race_agr (Agr.bcm (μ := σ.1 2)) hok kk) 1 (by omega)]; exact (fun r hr => by simp only [anS, setR]; (repeat' split) <;> first | rfl | (subst_vars; first | rfl | exact absurd (by decide) hr))))
      · intro k hk40 ih40 
        refine aw_iload (pc := 40) C 0 dX8_wins_40 rfl ?_
        refine aw_iload_n (pc := 42) C 4 dX8_wins_42 rfl ?_
        refine aw_icmp_geN (pc := 43) C k kk 90 rfl rfl (by omega) (by omega) dX8_wins_43 (by decide) (fun h43 => absurd h43 (by omega)) (fun h43 => ?_)
        have hokr := hokt.race k
        refine aw_aload_n (pc := 46) C 2 dX8_wins_46 rfl ?_
        refine aw_getR (pc := 47) C fl_X8_23 sh0 rfl dX8_wins_47 ?_
        refine aw_cVI (pc := 50) C (c_X2_restart _ 2 (by decide : 2 < 3) n (by simp (disch := omega) only [setR_at, setR_twice, setL_at, setL_twice, setR_2, setL_1, setR_ne, setL_ne, ne_eq, Nat.reduceEqDiff, not_false_eq_true, pk_us, pk_un]; exact hokr)) lk_X8_148 (shM (by decide : 2 < 3)) rfl dX8_wins_50 (by decide) (Nat.le_of_ble_eq_true rfl) rfl rfl ?_
        refine aw_conv (σ' := setR σ 2 (startM (raceM n (bcm (σ.1 2) (σ.1 0) n) k) n)) (st' := [.int (manyS (homeS (raceM n (bcm (σ.1 2) (σ.1 0) n) k) n) 6)]) (by first | with_reducible rfl | (simp (disch := omega) only [setR_at, setR_twice, setL_at, setL_twice, setR_2, setL_1, setR_ne, setL_ne, ne_eq, Nat.reduceEqDiff, not_false_eq_true, pk_us, pk_un]; done) | (simp (disch := omega) only [setR_at, setR_twice, setL_at, setL_twice, setR_2, setL_1, setR_ne, setL_ne, ne_eq, Nat.reduceEqDiff, not_false_eq_true, pk_us, pk_un, Option.toList_some, Option.toList_none, List.cons_append, List.nil_append]; done) | ((try simp (disch := omega) only [setR_at, setR_twice, setL_at, setL_twice, setR_2, setL_1, setR_ne, setL_ne, ne_eq, Nat.reduceEqDiff, not_false_eq_true, pk_us, pk_un]); refine Prod.ext (funext fun z => ?_) rfl; simp only [setR]; (repeat' split) <;> first | with_reducible rfl | (exfalso; omega)) | rfl) rfl (by first | with_reducible rfl | (simp (disch := omega) only [setR_at, setR_twice, setL_at, setL_twice, setR_2, setL_1, setR_ne, setL_ne, ne_eq, Nat.reduceEqDiff, not_false_eq_true, pk_us, pk_un]; done) | (simp (disch := omega) only [setR_at, setR_twice, setL_at, setL_twice, setR_2, setL_1, setR_ne, setL_ne, ne_eq, Nat.reduceEqDiff, not_false_eq_true, pk_us, pk_un, Option.toList_some, Option.toList_none, List.cons_append, List.nil_append]; done) | ((try simp (disch := omega) only [setR_at, setR_twice, setL_at, setL_twice, setR_2, setL_1, setR_ne, setL_ne, ne_eq, Nat.reduceEqDiff, not_false_eq_true, pk_us, pk_un]); refine Prod.ext (funext fun z => ?_) rfl; simp only [setR]; (repeat' split) <;> first | with_reducible rfl | (exfalso; omega)) | rfl) ?_
        refine aw_pop (pc := 53) C dX8_wins_53 rfl ?_
        have hoks := hokr.start
        refine aw_aload_n (pc := 54) C 2 dX8_wins_54 rfl ?_
        refine aw_getR (pc := 55) C fl_X8_23 sh0 rfl dX8_wins_55 ?_
        refine aw_sipush (pc := 58) (v := 180) C dX8_wins_58 rfl ?_
        refine aw_cVI (pc := 61) C (c_X2_go _ 2 (by decide : 2 < 3) n (by simp (disch := omega) only [setR_at, setR_twice, setL_at, setL_twice, setR_2, setL_1, setR_ne, setL_ne, ne_eq, Nat.reduceEqDiff, not_false_eq_true, pk_us, pk_un]; exact hoks) 180 (by omega)) lk_X8_145 (shM (by decide : 2 < 3)) rfl dX8_wins_61 (by decide) (Nat.le_of_ble_eq_true rfl) rfl rfl ?_
        refine aw_conv (σ' := setR σ 2 (goM n (startM (raceM n (bcm (σ.1 2) (σ.1 0) n) k) n) 180)) (st' := [.int (goD n (startM (raceM n (bcm (σ.1 2) (σ.1 0) n) k) n) 180)]) (by first | with_reducible rfl | (simp (disch := omega) only [setR_at, setR_twice, setL_at, setL_twice, setR_2, setL_1, setR_ne, setL_ne, ne_eq, Nat.reduceEqDiff, not_false_eq_true, pk_us, pk_un]; done) | (simp (disch := omega) only [setR_at, setR_twice, setL_at, setL_twice, setR_2, setL_1, setR_ne, setL_ne, ne_eq, Nat.reduceEqDiff, not_false_eq_true, pk_us, pk_un, Option.toList_some, Option.toList_none, List.cons_append, List.nil_append]; done) | ((try simp (disch := omega) only [setR_at, setR_twice, setL_at, setL_twice, setR_2, setL_1, setR_ne, setL_ne, ne_eq, Nat.reduceEqDiff, not_false_eq_true, pk_us, pk_un]); refine Prod.ext (funext fun z => ?_) rfl; simp only [setR]; (repeat' split) <;> first | with_reducible rfl | (exfalso; omega)) | rfl) rfl (by first | with_reducible rfl | (simp (disch := omega) only [setR_at, setR_twice, setL_at, setL_twice, setR_2, setL_1, setR_ne, setL_ne, ne_eq, Nat.reduceEqDiff, not_false_eq_true, pk_us, pk_un]; done) | (simp (disch := omega) only [setR_at, setR_twice, setL_at, setL_twice, setR_2, setL_1, setR_ne, setL_ne, ne_eq, Nat.reduceEqDiff, not_false_eq_true, pk_us, pk_un, Option.toList_some, Option.toList_none, List.cons_append, List.nil_append]; done) | ((try simp (disch := omega) only [setR_at, setR_twice, setL_at, setL_twice, setR_2, setL_1, setR_ne, setL_ne, ne_eq, Nat.reduceEqDiff, not_false_eq_true, pk_us, pk_un]); refine Prod.ext (funext fun z => ?_) rfl; simp only [setR]; (repeat' split) <;> first | with_reducible rfl | (exfalso; omega)) | rfl) ?_
        refine aw_pop (pc := 64) C dX8_wins_64 rfl ?_
        have hokg : Ok n (raceM n (bcm (σ.1 2) (σ.1 0) n) (k + 1)) := hokt.race (k + 1)
        refine aw_iload_n (pc := 65) C 1 dX8_wins_65 rfl ?_
        refine aw_aload_n (pc := 66) C 2 dX8_wins_66 rfl ?_
        refine aw_getR (pc := 67) C fl_X8_23 sh0 rfl dX8_wins_67 ?_
        refine aw_cVI (pc := 70) C (c_X2_leastInTime _ 2 (by decide : 2 < 3) n (by simp (disch := omega) only [setR_at, setR_twice, setL_at, setL_twice, setR_2, setL_1, setR_ne, setL_ne, ne_eq, Nat.reduceEqDiff, not_false_eq_true, pk_us, pk_un]; exact hokg) (by omega)) lk_X8_164 (shM (by decide : 2 < 3)) rfl dX8_wins_70 (by decide) (Nat.le_of_ble_eq_true rfl) rfl rfl ?_
        refine aw_conv (σ' := setR σ 2 (goM n (startM (raceM n (bcm (σ.1 2) (σ.1 0) n) k) n) 180)) (st' := [.int (oI (fst (goM n (startM (raceM n (bcm (σ.1 2) (σ.1 0) n) k) n) 180) n)), .int (winsS n (bcm (σ.1 2) (σ.1 0) n) (nI rr) k)]) (by first | with_reducible rfl | (simp (disch := omega) only [setR_at, setR_twice, setL_at, setL_twice, setR_2, setL_1, setR_ne, setL_ne, ne_eq, Nat.reduceEqDiff, not_false_eq_true, pk_us, pk_un]; done) | (simp (disch := omega) only [setR_at, setR_twice, setL_at, setL_twice, setR_2, setL_1, setR_ne, setL_ne, ne_eq, Nat.reduceEqDiff, not_false_eq_true, pk_us, pk_un, Option.toList_some, Option.toList_none, List.cons_append, List.nil_append]; done) | ((try simp (disch := omega) only [setR_at, setR_twice, setL_at, setL_twice, setR_2, setL_1, setR_ne, setL_ne, ne_eq, Nat.reduceEqDiff, not_false_eq_true, pk_us, pk_un]); refine Prod.ext (funext fun z => ?_) rfl; simp only [setR]; (repeat' split) <;> first | with_reducible rfl | (exfalso; omega)) | rfl) rfl (by first | with_reducible rfl | (simp (disch := omega) only [setR_at, setR_twice, setL_at, setL_twice, setR_2, setL_1, setR_ne, setL_ne, ne_eq, Nat.reduceEqDiff, not_false_eq_true, pk_us, pk_un]; done) | (simp (disch := omega) only [setR_at, setR_twice, setL_at, setL_twice, setR_2, setL_1, setR_ne, setL_ne, ne_eq, Nat.reduceEqDiff, not_false_eq_true, pk_us, pk_un, Option.toList_some, Option.toList_none, List.cons_append, List.nil_append]; done) | ((try simp (disch := omega) only [setR_at, setR_twice, setL_at, setL_twice, setR_2, setL_1, setR_ne, setL_ne, ne_eq, Nat.reduceEqDiff, not_false_eq_true, pk_us, pk_un]); refine Prod.ext (funext fun z => ?_) rfl; simp only [setR]; (repeat' split) <;> first | with_reducible rfl | (exfalso; omega)) | rfl) ?_
        refine aw_iload_n (pc := 73) C 3 dX8_wins_73 rfl ?_
        refine aw_icmp_ne (pc := 74) C 81 dX8_wins_74 (by decide) (fun h74 => ?_) (fun h74 => ?_)
        · refine aw_iconst (pc := 81) (v := 0) C dX8_wins_81 rfl ?_
          refine aw_iadd (pc := 82) C dX8_wins_82 ?_
          refine aw_istore_n (pc := 83) C [(3, .int ((winsS n (bcm (σ.1 2) (σ.1 0) n) (nI rr) k) + 0)), (4, .int (nI k)), (0, .ref 0), (1, .int (nI rr)), (2, .int (nI kk))] dX8_wins_83 (Nat.le_of_ble_eq_true rfl) rfl ?_
          refine aw_iincN (pc := 84) C 1 k [(4, .int (nI (k + 1))), (3, .int ((winsS n (bcm (σ.1 2) (σ.1 0) n) (nI rr) k) + 0)), (0, .ref 0), (1, .int (nI rr)), (2, .int (nI kk))] dX8_wins_84 rfl rfl rfl (Nat.le_of_ble_eq_true rfl) rfl ?_
          refine aw_goto (pc := 87) C 40 dX8_wins_87 (by decide) ?_
          refine aw_lvs C [0, 1, 2, 3, 4] [(4, .int (nI (k + 1))), (3, .int ((winsS n (bcm (σ.1 2) (σ.1 0) n) (nI rr) k) + 0)), (0, .ref 0), (1, .int (nI rr)), (2, .int (nI kk))] rfl ?_
          exact aw_conv (σ' := setR σ 2 (raceM n (bcm (σ.1 2) (σ.1 0) n) (k + 1))) (lv' := [(4, .int (nI (k + 1))), (3, .int (winsS n (bcm (σ.1 2) (σ.1 0) n) (nI rr) (k + 1))), (0, .ref 0), (1, .int (nI rr)), (2, .int (nI kk))]) rfl (by rw [winsS, show raceM n (bcm (σ.1 2) (σ.1 0) n) (k + 1) = goM n (startM (raceM n (bcm (σ.1 2) (σ.1 0) n) k) n) 180 from rfl, if_neg h74]) rfl ih40
        · refine aw_iconst (pc := 77) (v := 1) C dX8_wins_77 rfl ?_
          refine aw_goto (pc := 78) C 82 dX8_wins_78 (by decide) ?_
          refine aw_iadd (pc := 82) C dX8_wins_82 ?_
          refine aw_istore_n (pc := 83) C [(3, .int ((winsS n (bcm (σ.1 2) (σ.1 0) n) (nI rr) k) + 1)), (4, .int (nI k)), (0, .ref 0), (1, .int (nI rr)), (2, .int (nI kk))] dX8_wins_83 (Nat.le_of_ble_eq_true rfl) rfl ?_
          refine aw_iincN (pc := 84) C 1 k [(4, .int (nI (k + 1))), (3, .int ((winsS n (bcm (σ.1 2) (σ.1 0) n) (nI rr) k) + 1)), (0, .ref 0), (1, .int (nI rr)), (2, .int (nI kk))] dX8_wins_84 rfl rfl rfl (Nat.le_of_ble_eq_true rfl) rfl ?_
          refine aw_goto (pc := 87) C 40 dX8_wins_87 (by decide) ?_
          refine aw_lvs C [0, 1, 2, 3, 4] [(4, .int (nI (k + 1))), (3, .int ((winsS n (bcm (σ.1 2) (σ.1 0) n) (nI rr) k) + 1)), (0, .ref 0), (1, .int (nI rr)), (2, .int (nI kk))] rfl ?_
          exact aw_conv (σ' := setR σ 2 (raceM n (bcm (σ.1 2) (σ.1 0) n) (k + 1))) (lv' := [(4, .int (nI (k + 1))), (3, .int (winsS n (bcm (σ.1 2) (σ.1 0) n) (nI rr) (k + 1))), (0, .ref 0), (1, .int (nI rr)), (2, .int (nI kk))]) rfl (by rw [winsS, show raceM n (bcm (σ.1 2) (σ.1 0) n) (k + 1) = goM n (startM (raceM n (bcm (σ.1 2) (σ.1 0) n) k) n) 180 from rfl, if_pos h74]) rfl ih40
    · refine aw_aload_n (pc := 18) C 0 dX8_wins_18 rfl ?_
      refine aw_iconst (pc := 19) (v := 0) C dX8_wins_19 rfl ?_
      refine aw_cVI (pc := 20) C (c_X8_found _ 0 (by omega)) lk_X8_78 sh0 rfl dX8_wins_20 (by decide) (Nat.le_of_ble_eq_true rfl) rfl rfl ?_
      exact aw_iretP (pc := 23) C rfl dX8_wins_23 (pc_of (an' := .inl 0) (by rw [sWins, if_neg (fun z => h15 z.2)]) rfl rfl)
