/-! the class: clean -/
theorem c_X8_clean (σ : St) (n : Nat) (hok : Ok n (σ.1 0)) (r y k : Int32) : AMet Y_X8_clean [.ref 0, .int r, .int y, .int k] σ (PCL σ (sClean (σ.1 0) n r y k)) := by
  refine am_intro (by decide +kernel) (Nat.le_of_ble_eq_true rfl) (fun K C => ?_)
  have hz := hok.1
  have hn := hok.2.1
  refine aw_aload_n (pc := 0) C 0 dX8_clean_0 rfl ?_
  refine aw_iload_n (pc := 1) C 1 dX8_clean_1 rfl ?_
  refine aw_iload_n (pc := 2) C 2 dX8_clean_2 rfl ?_
  refine aw_iload_n (pc := 3) C 3 dX8_clean_3 rfl ?_
  refine aw_cVI (pc := 4) C (c_X8_isStretch _ n hn hz r y k ) lk_X8_173 sh0 rfl dX8_clean_4 (by decide) (Nat.le_of_ble_eq_true rfl) rfl rfl ?_
  refine aw_if_eqB (pc := 7) C 20 dX8_clean_7 (by decide) (fun h7 => ?_) (fun h7 => ?_)
  · refine aw_aload_n (pc := 20) C 0 dX8_clean_20 rfl ?_
    refine aw_iconst (pc := 21) (v := 0) C dX8_clean_21 rfl ?_
    refine aw_cVI (pc := 22) C (c_X8_found _ 0 (by omega)) lk_X8_78 sh0 rfl dX8_clean_22 (by decide) (Nat.le_of_ble_eq_true rfl) rfl rfl ?_
    refine aw_i2l (pc := 25) C dX8_clean_25 ?_
    exact aw_lretP (pc := 26) C rfl dX8_clean_26 (pcl_low (by rw [sClean, if_neg (show ¬ strP n r y k 12 from fun z => h7 ((strC (B := 12) (by omega)).mpr z).1)]))
  · refine aw_iload_n (pc := 10) C 3 dX8_clean_10 rfl ?_
    refine aw_iconst (pc := 11) (v := 0) C dX8_clean_11 rfl ?_
    refine aw_bipush (pc := 12) (v := 12) C dX8_clean_12 rfl ?_
    refine aw_cSI (pc := 14) C (c_X8_within _ k 0 12 ) lk_X8_74 dX8_clean_14 (by decide) (Nat.le_of_ble_eq_true rfl) rfl rfl ?_
    refine aw_if_neB (pc := 17) C 27 dX8_clean_17 (by decide) (fun h17 => ?_) (fun h17 => ?_)
    · have hstr : strP n r y k 12 := (strC (B := 12) (by omega)).mp ⟨h7, h17⟩
      obtain ⟨rr, yy, kk, rfl, rfl, rfl, hrr, hyy, hkk, hyk⟩ := str_nat hstr hz (B := 12) rfl (by omega)
      obtain ⟨k, hk7, hk⟩ := (hok.2.2.2.2.1 rr (by omega)).1
      obtain ⟨k0, hk7, hk⟩ := (hok.2.2.2.2.1 rr (by omega)).1
      refine aw_aload_n (pc := 27) C 0 dX8_clean_27 rfl ?_
      refine aw_getR (pc := 28) C fl_X8_16 sh0 rfl dX8_clean_28 ?_
      refine aw_getR (pc := 31) C fl_X8_99 (shM (by decide : 0 < 3)) rfl dX8_clean_31 ?_
      refine aw_iload_n (pc := 34) C 1 dX8_clean_34 rfl ?_
      refine aw_aald (pc := 35) (k := rr) C (shRs (by decide : 0 < 3)) dX8_clean_35 rfl (by omega) ?_
      refine aw_astore (pc := 36) C [(4, .ref (29 + 2 * rr)), (0, .ref 0), (1, .int (nI rr)), (2, .int (nI yy)), (3, .int (nI kk))] dX8_clean_36 (Nat.le_of_ble_eq_true rfl) rfl ?_
      refine aw_lconst (pc := 38) (v := 1) C dX8_clean_38 rfl ?_
      refine aw_lstore (pc := 39) C [(5, .long (1)), (4, .ref (29 + 2 * rr)), (0, .ref 0), (1, .int (nI rr)), (2, .int (nI yy)), (3, .int (nI kk))] dX8_clean_39 (Nat.le_of_ble_eq_true rfl) rfl ?_
      refine aw_iload_n (pc := 41) C 4 dX8_clean_41 rfl ?_
      refine aw_istore (pc := 42) C [(7, .int (nI yy)), (5, .long (1)), (4, .ref (29 + 2 * rr)), (0, .ref 0), (1, .int (nI rr)), (2, .int (nI yy)), (3, .int (nI kk))] dX8_clean_42 (Nat.le_of_ble_eq_true rfl) rfl ?_
      refine aw_lvs C [0, 1, 2, 3, 4, 5, 6] [(7, .int (nI yy)), (5, .long (1)), (4, .ref (29 + 2 * rr)), (0, .ref 0), (1, .int (nI rr)), (2, .int (nI yy)), (3, .int (nI kk))] rfl ?_
      refine aw_conv (σ' := σ) (lv' := [(7, .int (nI (yy + 0))), (5, .long (cleanL (σ.1 0) rr yy 0)), (4, .ref (29 + 2 * rr)), (0, .ref 0), (1, .int (nI rr)), (2, .int (nI yy)), (3, .int (nI kk))]) rfl rfl rfl ?_
      refine loop_up (P := fun k => AW _ K _ (σ) 44 [(7, .int (nI (yy + k))), (5, .long (cleanL (σ.1 0) rr yy k)), (4, .ref (29 + 2 * rr)), (0, .ref 0), (1, .int (nI rr)), (2, .int (nI yy)), (3, .int (nI kk))] []) kk ?_ ?_ 0 (by omega) 
      · refine aw_iload (pc := 44) C 0 dX8_clean_44 rfl ?_
        refine aw_iload_n (pc := 46) C 5 dX8_clean_46 rfl ?_
        refine aw_iload_n (pc := 47) C 6 dX8_clean_47 rfl ?_
        refine aw_iaddN (pc := 48) C yy kk rfl rfl dX8_clean_48 ?_
        refine aw_icmp_geN (pc := 49) C (yy + kk) (yy + kk) 88 rfl rfl (by omega) (by omega) dX8_clean_49 (by decide) (fun h49 => ?_) (fun h49 => absurd h49 (by omega))
        refine aw_lload (pc := 88) C 1 dX8_clean_88 rfl ?_
        exact aw_lretP (pc := 90) C rfl dX8_clean_90 (pcl_of (by rw [sClean, if_pos hstr, cl_nI (show rr < 2147483648 by omega), cl_nI (show yy < 2147483648 by omega), cl_nI (show kk < 2147483648 by omega)]) rfl)
      · intro k hk44 ih44 
        refine aw_iload (pc := 44) C 0 dX8_clean_44 rfl ?_
        refine aw_iload_n (pc := 46) C 5 dX8_clean_46 rfl ?_
        refine aw_iload_n (pc := 47) C 6 dX8_clean_47 rfl ?_
        refine aw_iaddN (pc := 48) C yy kk rfl rfl dX8_clean_48 ?_
        refine aw_icmp_geN (pc := 49) C (yy + k) (yy + kk) 88 rfl rfl (by omega) (by omega) dX8_clean_49 (by decide) (fun h49 => absurd h49 (by omega)) (fun h49 => ?_)
        obtain ⟨g, hg5, hg⟩ := hok.2.2.2.1 (yy + k) (by omega)
        obtain ⟨p, hp1, hp9, hp⟩ := (hok.2.2.2.2.1 rr (by omega)).2.2.2.2.2 (yy + k) (by omega)
        refine aw_lload (pc := 52) C 1 dX8_clean_52 rfl ?_
        refine aw_bipush (pc := 54) (v := 24) C dX8_clean_54 rfl ?_
        refine aw_aload_n (pc := 56) C 3 dX8_clean_56 rfl ?_
        refine aw_getR (pc := 57) C fl_X8_16 sh0 rfl dX8_clean_57 ?_
        refine aw_aload (pc := 60) C 2 dX8_clean_60 rfl ?_
        refine aw_iload (pc := 62) C 0 dX8_clean_62 rfl ?_
        refine aw_aload (pc := 64) C 2 dX8_clean_64 rfl ?_
        refine aw_getR (pc := 66) C fl_X8_118 (shR (by decide : 0 < 3) (by omega)) rfl dX8_clean_66 ?_
        refine aw_iload (pc := 69) C 0 dX8_clean_69 rfl ?_
        refine aw_ild (pc := 71) (k := yy + k) C (33 + 37 * rr + (7 + (yy + k))) (σ.1 0 (33 + 37 * rr + (7 + (yy + k)))) (shP (by decide : 0 < 3) (by omega)) dX8_clean_71 rfl (by omega) (by omega) rfl ?_
        refine aw_top C (nI (p)) hp ?_
        refine aw_iconst (pc := 72) (v := 0) C dX8_clean_72 rfl ?_
        refine aw_iconst (pc := 73) (v := 0) C dX8_clean_73 rfl ?_
        refine aw_cVI (pc := 74) C (c_X2_oddsOf _  0 (by decide : 0 < 3) rr (by omega) k0 hk hk7 (yy + k) p 0 0 g hg (by omega) (by omega) (by omega) (by omega)) lk_X8_127 (shM (by decide : 0 < 3)) rfl dX8_clean_74 (by decide) (Nat.le_of_ble_eq_true rfl) rfl rfl ?_
        refine aw_top C (oddsA (σ.1 0) rr (yy + k) 0) (by rw [oddsA, show fl (σ.1 0) rr (7 + (yy + k)) = nI p from hp]; rfl) ?_
        refine aw_isub (pc := 77) C dX8_clean_77 ?_
        refine aw_i2l (pc := 78) C dX8_clean_78 ?_
        refine aw_lmul (pc := 79) C dX8_clean_79 ?_
        refine aw_lstore (pc := 80) C [(5, .long ((cleanL (σ.1 0) rr yy k) * ((24 - (oddsA (σ.1 0) rr (yy + k) 0)).toInt64))), (7, .int (nI (yy + k))), (4, .ref (29 + 2 * rr)), (0, .ref 0), (1, .int (nI rr)), (2, .int (nI yy)), (3, .int (nI kk))] dX8_clean_80 (Nat.le_of_ble_eq_true rfl) rfl ?_
        refine aw_iincN (pc := 82) C 1 (yy + k) [(7, .int (nI (yy + k + 1))), (5, .long ((cleanL (σ.1 0) rr yy k) * ((24 - (oddsA (σ.1 0) rr (yy + k) 0)).toInt64))), (4, .ref (29 + 2 * rr)), (0, .ref 0), (1, .int (nI rr)), (2, .int (nI yy)), (3, .int (nI kk))] dX8_clean_82 rfl rfl rfl (Nat.le_of_ble_eq_true rfl) rfl ?_
        refine aw_goto (pc := 85) C 44 dX8_clean_85 (by decide) ?_
        refine aw_lvs C [0, 1, 2, 3, 4, 5, 6] [(7, .int (nI (yy + k + 1))), (5, .long ((cleanL (σ.1 0) rr yy k) * ((24 - (oddsA (σ.1 0) rr (yy + k) 0)).toInt64))), (4, .ref (29 + 2 * rr)), (0, .ref 0), (1, .int (nI rr)), (2, .int (nI yy)), (3, .int (nI kk))] rfl ?_
        exact aw_conv (σ' := σ) (lv' := [(7, .int (nI (yy + (k + 1)))), (5, .long (cleanL (σ.1 0) rr yy (k + 1))), (4, .ref (29 + 2 * rr)), (0, .ref 0), (1, .int (nI rr)), (2, .int (nI yy)), (3, .int (nI kk))]) rfl rfl rfl ih44
    · refine aw_aload_n (pc := 20) C 0 dX8_clean_20 rfl ?_
      refine aw_iconst (pc := 21) (v := 0) C dX8_clean_21 rfl ?_
      refine aw_cVI (pc := 22) C (c_X8_found _ 0 (by omega)) lk_X8_78 sh0 rfl dX8_clean_22 (by decide) (Nat.le_of_ble_eq_true rfl) rfl rfl ?_
      refine aw_i2l (pc := 25) C dX8_clean_25 ?_
      exact aw_lretP (pc := 26) C rfl dX8_clean_26 (pcl_low (by rw [sClean, if_neg (show ¬ strP n r y k 12 from fun z => h17 ((strC (B := 12) (by omega)).mpr z).2)]))
