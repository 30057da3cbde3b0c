/-! the reference: stretches, drops -/
theorem c_X9_isStretch (σ : St) (n : Nat) (hn : σ.1 20 2 = nI n) (hz : n ≤ 6) (r y k m : Int32) : AMet Y_X9_isStretch [.ref 73, .int r, .int y, .int k, .int m] σ (fz (some (.int (b2i (strP n r y k m)))) (σ)) := by
  refine am_intro (by decide +kernel) (Nat.le_of_ble_eq_true rfl) (fun K C => ?_)
  refine aw_aload_n (pc := 0) C 0 dX9_isStretch_0 rfl ?_
  refine aw_iload_n (pc := 1) C 1 dX9_isStretch_1 rfl ?_
  refine aw_cVI (pc := 2) C (c_X9_isRunner _ n hn hz r ) lk_X9_91 sh73 rfl dX9_isStretch_2 (by decide) (Nat.le_of_ble_eq_true rfl) rfl rfl ?_
  refine aw_if_eqB (pc := 5) C 39 dX9_isStretch_5 (by decide) (fun h5 => ?_) (fun h5 => ?_)
  · refine aw_iconst (pc := 39) (v := 0) C dX9_isStretch_39 rfl ?_
    exact aw_zret (pc := 40) C rfl rfl dX9_isStretch_40 (b2i_f (fun z => h5 z.1)).symm rfl
  · refine aw_iload_n (pc := 8) C 2 dX9_isStretch_8 rfl ?_
    refine aw_cSI (pc := 9) C (c_X9_isYard _ y ) lk_X9_66 dX9_isStretch_9 (by decide) (Nat.le_of_ble_eq_true rfl) rfl rfl ?_
    refine aw_if_eqB (pc := 12) C 39 dX9_isStretch_12 (by decide) (fun h12 => ?_) (fun h12 => ?_)
    · refine aw_iconst (pc := 39) (v := 0) C dX9_isStretch_39 rfl ?_
      exact aw_zret (pc := 40) C rfl rfl dX9_isStretch_40 (b2i_f (fun z => h12 z.2.1)).symm rfl
    · refine aw_iload_n (pc := 15) C 3 dX9_isStretch_15 rfl ?_
      refine aw_i2l (pc := 16) C dX9_isStretch_16 ?_
      refine aw_lconst (pc := 17) (v := 0) C dX9_isStretch_17 rfl ?_
      refine aw_iload (pc := 18) C 4 dX9_isStretch_18 rfl ?_
      refine aw_i2l (pc := 20) C dX9_isStretch_20 ?_
      refine aw_cSI (pc := 21) C (c_X9_in _ k 0 m _ _ _ rfl (by decide) rfl) lk_X9_54 dX9_isStretch_21 (by decide) (Nat.le_of_ble_eq_true rfl) rfl rfl ?_
      refine aw_if_eqB (pc := 24) C 39 dX9_isStretch_24 (by decide) (fun h24 => ?_) (fun h24 => ?_)
      · refine aw_iconst (pc := 39) (v := 0) C dX9_isStretch_39 rfl ?_
        exact aw_zret (pc := 40) C rfl rfl dX9_isStretch_40 (b2i_f (fun z => h24 z.2.2.1)).symm rfl
      · refine aw_iload_n (pc := 27) C 2 dX9_isStretch_27 rfl ?_
        refine aw_iload_n (pc := 28) C 3 dX9_isStretch_28 rfl ?_
        refine aw_iadd (pc := 29) C dX9_isStretch_29 ?_
        refine aw_bipush (pc := 30) (v := 30) C dX9_isStretch_30 rfl ?_
        refine aw_icmp_gt (pc := 32) C 39 dX9_isStretch_32 (by decide) (fun h32 => ?_) (fun h32 => ?_)
        · refine aw_iconst (pc := 39) (v := 0) C dX9_isStretch_39 rfl ?_
          exact aw_zret (pc := 40) C rfl rfl dX9_isStretch_40 (b2i_f (fun z => z.2.2.2 h32)).symm rfl
        · refine aw_iconst (pc := 35) (v := 1) C dX9_isStretch_35 rfl ?_
          refine aw_goto (pc := 36) C 40 dX9_isStretch_36 (by decide) ?_
          exact aw_zret (pc := 40) C rfl rfl dX9_isStretch_40 (b2i_t ⟨h5, h12, h24, h32⟩).symm rfl
theorem c_X9_oddsAt (σ : St) (r y : Nat) (P : Prop) [Decidable P] (hr : r < 6) (hy : y < 30) : AMet Y_X9_oddsAt [.ref 73, .int (nI r), .int (nI y), .int (b2i (P))] σ (fz (some (.int (oddsA (σ.1 20) r y (shk P)))) (σ)) := by
  refine am_intro (by decide +kernel) (Nat.le_of_ble_eq_true rfl) (fun K C => ?_)
  refine aw_aload_n (pc := 0) C 0 dX9_oddsAt_0 rfl ?_
  refine aw_iload_n (pc := 1) C 1 dX9_oddsAt_1 rfl ?_
  refine aw_iload_n (pc := 2) C 2 dX9_oddsAt_2 rfl ?_
  refine aw_aload_n (pc := 3) C 0 dX9_oddsAt_3 rfl ?_
  refine aw_iload_n (pc := 4) C 1 dX9_oddsAt_4 rfl ?_
  refine aw_iload_n (pc := 5) C 2 dX9_oddsAt_5 rfl ?_
  refine aw_cVI (pc := 6) C (c_X9_paceAt _ r y (by omega) (by omega)) lk_X9_110 sh73 rfl dX9_oddsAt_6 (by decide) (Nat.le_of_ble_eq_true rfl) rfl rfl ?_
  refine aw_iload_n (pc := 9) C 3 dX9_oddsAt_9 rfl ?_
  refine aw_iconst (pc := 10) (v := 0) C dX9_oddsAt_10 rfl ?_
  refine aw_cVI (pc := 11) C (c_X9_oddsBy _ r y (σ.1 20 (33 + 37 * r + (7 + y))) P 0 (by omega) (by omega)) lk_X9_122 sh73 rfl dX9_oddsAt_11 (by decide) (Nat.le_of_ble_eq_true rfl) rfl rfl ?_
  exact aw_iret (pc := 14) C rfl dX9_oddsAt_14 rfl rfl
theorem c_X9_clean (σ : St) (n : Nat) (hn : σ.1 20 2 = nI n) (hz : n ≤ 6) (r y k : Int32) : AMet Y_X9_clean [.ref 73, .int r, .int y, .int k] σ (PML σ (sClean (σ.1 20) n r y k)) := by
  refine am_intro (by decide +kernel) (Nat.le_of_ble_eq_true rfl) (fun K C => ?_)
  refine aw_aload_n (pc := 0) C 0 dX9_clean_0 rfl ?_
  refine aw_iload_n (pc := 1) C 1 dX9_clean_1 rfl ?_
  refine aw_iload_n (pc := 2) C 2 dX9_clean_2 rfl ?_
  refine aw_iload_n (pc := 3) C 3 dX9_clean_3 rfl ?_
  refine aw_bipush (pc := 4) (v := 12) C dX9_clean_4 rfl ?_
  refine aw_cVI (pc := 6) C (c_X9_isStretch _ n hn hz r y k 12 ) lk_X9_181 sh73 rfl dX9_clean_6 (by decide) (Nat.le_of_ble_eq_true rfl) rfl rfl ?_
  refine aw_if_neB (pc := 9) C 20 dX9_clean_9 (by decide) (fun h9 => ?_) (fun h9 => ?_)
  · obtain ⟨rr, yy, kk, rfl, rfl, rfl, hrr, hyy, hkk, hyk⟩ := str_nat h9 hz (B := 12) rfl (by omega)
    refine aw_lconst (pc := 20) (v := 1) C dX9_clean_20 rfl ?_
    refine aw_lstore (pc := 21) C [(4, .long (1)), (0, .ref 73), (1, .int (nI rr)), (2, .int (nI yy)), (3, .int (nI kk))] dX9_clean_21 (Nat.le_of_ble_eq_true rfl) rfl ?_
    refine aw_iconst (pc := 23) (v := 0) C dX9_clean_23 rfl ?_
    refine aw_istore (pc := 24) C [(6, .int 0), (4, .long (1)), (0, .ref 73), (1, .int (nI rr)), (2, .int (nI yy)), (3, .int (nI kk))] dX9_clean_24 (Nat.le_of_ble_eq_true rfl) rfl ?_
    refine aw_lvs C [0, 1, 2, 3, 4, 5] [(6, .int 0), (4, .long (1)), (0, .ref 73), (1, .int (nI rr)), (2, .int (nI yy)), (3, .int (nI kk))] rfl ?_
    refine aw_conv (σ' := σ) (lv' := [(6, .int (nI 0)), (4, .long (cleanL (σ.1 20) rr yy 0)), (0, .ref 73), (1, .int (nI rr)), (2, .int (nI yy)), (3, .int (nI kk))]) rfl rfl rfl ?_
    refine loop_up (P := fun k => AW _ K _ (σ) 26 [(6, .int (nI k)), (4, .long (cleanL (σ.1 20) rr yy k)), (0, .ref 73), (1, .int (nI rr)), (2, .int (nI yy)), (3, .int (nI kk))] []) kk ?_ ?_ 0 (by omega) 
    · refine aw_iload (pc := 26) C 0 dX9_clean_26 rfl ?_
      refine aw_iload_n (pc := 28) C 5 dX9_clean_28 rfl ?_
      refine aw_icmp_geN (pc := 29) C kk kk 57 rfl rfl (by omega) (by omega) dX9_clean_29 (by decide) (fun h29 => ?_) (fun h29 => absurd h29 (by omega))
      refine aw_lload (pc := 57) C 1 dX9_clean_57 rfl ?_
      exact aw_lretP (pc := 59) C rfl dX9_clean_59 (pml_of (by rw [sClean, if_pos h9, cl_nI (show rr < 2147483648 by omega), cl_nI (show yy < 2147483648 by omega), cl_nI (show kk < 2147483648 by omega)]) rfl rfl)
    · intro k hk26 ih26 
      refine aw_iload (pc := 26) C 0 dX9_clean_26 rfl ?_
      refine aw_iload_n (pc := 28) C 5 dX9_clean_28 rfl ?_
      refine aw_icmp_geN (pc := 29) C k kk 57 rfl rfl (by omega) (by omega) dX9_clean_29 (by decide) (fun h29 => absurd h29 (by omega)) (fun h29 => ?_)
      refine aw_lload (pc := 32) C 1 dX9_clean_32 rfl ?_
      refine aw_bipush (pc := 34) (v := 24) C dX9_clean_34 rfl ?_
      refine aw_aload_n (pc := 36) C 2 dX9_clean_36 rfl ?_
      refine aw_iload_n (pc := 37) C 3 dX9_clean_37 rfl ?_
      refine aw_iload_n (pc := 38) C 4 dX9_clean_38 rfl ?_
      refine aw_iload (pc := 39) C 0 dX9_clean_39 rfl ?_
      refine aw_iaddN (pc := 41) C yy k rfl rfl dX9_clean_41 ?_
      refine aw_iconst (pc := 42) (v := 0) C dX9_clean_42 rfl ?_
      refine aw_top C (b2i False) rfl ?_
      refine aw_cVI (pc := 43) C (c_X9_oddsAt _ rr (yy + k) False (by omega) (by omega)) lk_X9_185 sh73 rfl dX9_clean_43 (by decide) (Nat.le_of_ble_eq_true rfl) rfl rfl ?_
      refine aw_isub (pc := 46) C dX9_clean_46 ?_
      refine aw_i2l (pc := 47) C dX9_clean_47 ?_
      refine aw_lmul (pc := 48) C dX9_clean_48 ?_
      refine aw_lstore (pc := 49) C [(4, .long ((cleanL (σ.1 20) rr yy k) * ((24 - (oddsA (σ.1 20) rr (yy + k) (shk (False)))).toInt64))), (6, .int (nI k)), (0, .ref 73), (1, .int (nI rr)), (2, .int (nI yy)), (3, .int (nI kk))] dX9_clean_49 (Nat.le_of_ble_eq_true rfl) rfl ?_
      refine aw_iincN (pc := 51) C 1 k [(6, .int (nI (k + 1))), (4, .long ((cleanL (σ.1 20) rr yy k) * ((24 - (oddsA (σ.1 20) rr (yy + k) (shk (False)))).toInt64))), (0, .ref 73), (1, .int (nI rr)), (2, .int (nI yy)), (3, .int (nI kk))] dX9_clean_51 rfl rfl rfl (Nat.le_of_ble_eq_true rfl) rfl ?_
      refine aw_goto (pc := 54) C 26 dX9_clean_54 (by decide) ?_
      refine aw_lvs C [0, 1, 2, 3, 4, 5] [(6, .int (nI (k + 1))), (4, .long ((cleanL (σ.1 20) rr yy k) * ((24 - (oddsA (σ.1 20) rr (yy + k) (shk (False)))).toInt64))), (0, .ref 73), (1, .int (nI rr)), (2, .int (nI yy)), (3, .int (nI kk))] rfl ?_
      exact aw_conv (σ' := σ) (lv' := [(6, .int (nI (k + 1))), (4, .long (cleanL (σ.1 20) rr yy (k + 1))), (0, .ref 73), (1, .int (nI rr)), (2, .int (nI yy)), (3, .int (nI kk))]) rfl rfl rfl ih26
  · refine aw_aload_n (pc := 12) C 0 dX9_clean_12 rfl ?_
    refine aw_ldc (pc := 13) C dX9_clean_13 kc_X9_46 ?_
    refine aw_cVI (pc := 15) C (c_X9_finds _ (-100000001) 0 (by decide) (by decide)) lk_X9_48 sh73 rfl dX9_clean_15 (by decide) (Nat.le_of_ble_eq_true rfl) rfl rfl ?_
    refine aw_i2l (pc := 18) C dX9_clean_18 ?_
    exact aw_lretP (pc := 19) C rfl dX9_clean_19 (pml_low (by rw [sClean, if_neg (fun z => h9 z)]) rfl rfl)
theorem c_X9_dropping_neg (σ : St) (r y : Int32) (n s : Int32) (d : Nat) : AMet (Y_X9_dropping d) [.ref 73, .int r, .int y, .int n, .int (-1), .int s] σ (fz (some (.long 0)) σ) := by
  refine am_intro (show plainName yX9_dropping.cls = true by decide +kernel) (Nat.le_of_ble_eq_true rfl) (fun K C => ?_)
  refine aw_iload (pc := 0) C 4 dX9_dropping_0 rfl ?_
  refine aw_if_lt (pc := 2) C 11 dX9_dropping_2 (by decide) (fun h2 => ?_) (fun h2 => absurd h2 (by decide))
  refine aw_lconst (pc := 11) (v := 0) C dX9_dropping_11 rfl ?_
  exact aw_lret (pc := 12) C rfl dX9_dropping_12 rfl rfl
theorem c_X9_dropping (σ : St) (r : Nat) (hr : r < 6) : ∀ (n y k s : Nat), y + n ≤ 30 → k < 100 → s < 100 → AMet (Y_X9_dropping n) [.ref 73, .int (nI r), .int (nI y), .int (nI n), .int (nI k), .int (nI s)] σ (fz (some (.long (dS (σ.1 20) r n y k s))) σ) := by
  intro n
  induction n with
  | zero =>
    intro y k s hy hk hs
    refine am_intro (show plainName yX9_dropping.cls = true by decide +kernel) (Nat.le_of_ble_eq_true rfl) (fun K C => ?_)
    refine aw_iload (pc := 0) C 4 dX9_dropping_0 rfl ?_
    refine aw_if_lt (pc := 2) C 11 dX9_dropping_2 (by decide) (fun h2 => absurd h2 (nI_pos (by omega))) (fun h2 => ?_)
    refine aw_iload (pc := 5) C 4 dX9_dropping_5 rfl ?_
    refine aw_iload_n (pc := 7) C 3 dX9_dropping_7 rfl ?_
    refine aw_icmp_leN (pc := 8) C k 0 13 rfl rfl (by omega) (by omega) dX9_dropping_8 (by decide) (fun h8 => ?_) (fun h8 => ?_)
    · refine aw_iload_n (pc := 13) C 3 dX9_dropping_13 rfl ?_
      refine aw_if_neN (pc := 14) C 0 19 rfl (by omega) dX9_dropping_14 (by decide) (fun h14 => absurd h14 (by decide)) (fun h14 => ?_)
      refine aw_lconst (pc := 17) (v := 1) C dX9_dropping_17 rfl ?_
      exact aw_lret (pc := 18) C rfl dX9_dropping_18 (by rw [dS, if_pos (by omega)]) rfl
    · refine aw_lconst (pc := 11) (v := 0) C dX9_dropping_11 rfl ?_
      exact aw_lret (pc := 12) C rfl dX9_dropping_12 (by rw [dS, if_neg (by omega)]) rfl
  | succ n ih =>
    intro y k s hy hk hs
    refine am_intro (show plainName yX9_dropping.cls = true by decide +kernel) (Nat.le_of_ble_eq_true rfl) (fun K C => ?_)
    refine aw_iload (pc := 0) C 4 dX9_dropping_0 rfl ?_
    refine aw_if_lt (pc := 2) C 11 dX9_dropping_2 (by decide) (fun h2 => absurd h2 (nI_pos (by omega))) (fun h2 => ?_)
    refine aw_iload (pc := 5) C 4 dX9_dropping_5 rfl ?_
    refine aw_iload_n (pc := 7) C 3 dX9_dropping_7 rfl ?_
    refine aw_icmp_leN (pc := 8) C k (n + 1) 13 rfl rfl (by omega) (by omega) dX9_dropping_8 (by decide) (fun h8 => ?_) (fun h8 => ?_)
    · refine aw_iload_n (pc := 13) C 3 dX9_dropping_13 rfl ?_
      refine aw_if_neN (pc := 14) C (n + 1) 19 rfl (by omega) dX9_dropping_14 (by decide) (fun h14 => ?_) (fun h14 => absurd h14 (by omega))
      refine aw_aload_n (pc := 19) C 0 dX9_dropping_19 rfl ?_
      refine aw_iload_n (pc := 20) C 1 dX9_dropping_20 rfl ?_
      refine aw_iload_n (pc := 21) C 2 dX9_dropping_21 rfl ?_
      refine aw_iload (pc := 22) C 5 dX9_dropping_22 rfl ?_
      refine aw_if_leN (pc := 24) C s 31 rfl (by omega) dX9_dropping_24 (by decide) (fun h24 => ?_) (fun h24 => ?_)
      · refine aw_iconst (pc := 31) (v := 0) C dX9_dropping_31 rfl ?_
        refine aw_top C (b2i (0 < s)) (b2i_f (by omega)).symm ?_
        refine aw_cVI (pc := 32) C (c_X9_oddsAt _ r y (0 < s) (by omega) (by omega)) lk_X9_185 sh73 rfl dX9_dropping_32 (Nat.le_trans (by decide : Y_X9_oddsAt.lvl + 1 ≤ 4) (Nat.le_add_right 4 _)) (Nat.le_of_ble_eq_true rfl) rfl rfl ?_
        refine aw_istore (pc := 35) C [(6, .int (oddsA (σ.1 20) r y (shk (0 < s)))), (0, .ref 73), (1, .int (nI r)), (2, .int (nI y)), (3, .int (nI (n + 1))), (4, .int (nI k)), (5, .int (nI s))] dX9_dropping_35 (Nat.le_of_ble_eq_true rfl) rfl ?_
        refine aw_bipush (pc := 37) (v := 24) C dX9_dropping_37 rfl ?_
        refine aw_iload (pc := 39) C 0 dX9_dropping_39 rfl ?_
        refine aw_isub (pc := 41) C dX9_dropping_41 ?_
        refine aw_i2l (pc := 42) C dX9_dropping_42 ?_
        refine aw_aload_n (pc := 43) C 1 dX9_dropping_43 rfl ?_
        refine aw_iload_n (pc := 44) C 2 dX9_dropping_44 rfl ?_
        refine aw_iload_n (pc := 45) C 3 dX9_dropping_45 rfl ?_
        refine aw_iconst (pc := 46) (v := 1) C dX9_dropping_46 rfl ?_
        refine aw_iaddN (pc := 47) C y 1 rfl rfl dX9_dropping_47 ?_
        refine aw_iload_n (pc := 48) C 4 dX9_dropping_48 rfl ?_
        refine aw_iconst (pc := 49) (v := 1) C dX9_dropping_49 rfl ?_
        refine aw_isubN (pc := 50) C (n + 1) 1 rfl rfl (by omega) dX9_dropping_50 ?_
        refine aw_iload (pc := 51) C 5 dX9_dropping_51 rfl ?_
        refine aw_iload (pc := 53) C 6 dX9_dropping_53 rfl ?_
        refine aw_if_leN (pc := 55) C s 65 rfl (by omega) dX9_dropping_55 (by decide) (fun h55 => ?_) (fun h55 => absurd h55 (by omega))
        refine aw_iconst (pc := 65) (v := 0) C dX9_dropping_65 rfl ?_
        refine aw_cVL (pc := 66) C (ih (y + 1) k 0 (by omega) (by omega) (by omega)) (lk_X9_189 n) sh73 rfl dX9_dropping_66 (Nat.le_refl _) (Nat.le_of_ble_eq_true rfl) rfl rfl ?_
        refine aw_lmul (pc := 69) C dX9_dropping_69 ?_
        refine aw_lstore (pc := 70) C [(7, .long (((24 - (oddsA (σ.1 20) r y (shk (0 < s)))).toInt64) * (dS (σ.1 20) r n (y + 1) k 0))), (6, .int (oddsA (σ.1 20) r y (shk (0 < s)))), (0, .ref 73), (1, .int (nI r)), (2, .int (nI y)), (3, .int (nI (n + 1))), (4, .int (nI k)), (5, .int (nI s))] dX9_dropping_70 (Nat.le_of_ble_eq_true rfl) rfl ?_
        refine aw_iload (pc := 72) C 1 dX9_dropping_72 rfl ?_
        refine aw_if_ne (pc := 74) C 82 dX9_dropping_74 (by decide) (fun h74 => ?_) (fun h74 => ?_)
        · rcases k with _ | k
          · refine aw_lvs C [0, 1, 2, 3, 4, 5, 6, 7] [(7, .long (((24 - (oddsA (σ.1 20) r y (shk (0 < s)))).toInt64) * (dS (σ.1 20) r n (y + 1) (0) 0))), (6, .int (oddsA (σ.1 20) r y (shk (0 < s)))), (0, .ref 73), (1, .int (nI r)), (2, .int (nI y)), (3, .int (nI (n + 1))), (4, .int 0), (5, .int (nI s))] rfl ?_
            refine aw_lload (pc := 82) C 0 dX9_dropping_82 rfl ?_
            refine aw_iload (pc := 84) C 1 dX9_dropping_84 rfl ?_
            refine aw_i2l (pc := 86) C dX9_dropping_86 ?_
            refine aw_aload_n (pc := 87) C 2 dX9_dropping_87 rfl ?_
            refine aw_iload_n (pc := 88) C 3 dX9_dropping_88 rfl ?_
            refine aw_iload_n (pc := 89) C 4 dX9_dropping_89 rfl ?_
            refine aw_iconst (pc := 90) (v := 1) C dX9_dropping_90 rfl ?_
            refine aw_iaddN (pc := 91) C y 1 rfl rfl dX9_dropping_91 ?_
            refine aw_iload_n (pc := 92) C 5 dX9_dropping_92 rfl ?_
            refine aw_iconst (pc := 93) (v := 1) C dX9_dropping_93 rfl ?_
            refine aw_isubN (pc := 94) C (n + 1) 1 rfl rfl (by omega) dX9_dropping_94 ?_
            refine aw_iload (pc := 95) C 6 dX9_dropping_95 rfl ?_
            refine aw_iconst (pc := 97) (v := 1) C dX9_dropping_97 rfl ?_
            refine aw_isub (pc := 98) C dX9_dropping_98 ?_
            refine aw_iconst (pc := 99) (v := 3) C dX9_dropping_99 rfl ?_
            refine aw_cVL (pc := 100) C (c_X9_dropping_neg _ (nI (r)) (nI (y + 1)) (nI (n)) 3 n) (lk_X9_189 n) sh73 rfl dX9_dropping_100 (Nat.le_refl _) (Nat.le_of_ble_eq_true rfl) rfl rfl ?_
            refine aw_lmul (pc := 103) C dX9_dropping_103 ?_
            refine aw_ladd (pc := 104) C dX9_dropping_104 ?_
            exact aw_lret (pc := 105) C rfl dX9_dropping_105 (by subst h24; rw [dS, if_neg (by omega)]) rfl
          · refine aw_lload (pc := 82) C 0 dX9_dropping_82 rfl ?_
            refine aw_iload (pc := 84) C 1 dX9_dropping_84 rfl ?_
            refine aw_i2l (pc := 86) C dX9_dropping_86 ?_
            refine aw_aload_n (pc := 87) C 2 dX9_dropping_87 rfl ?_
            refine aw_iload_n (pc := 88) C 3 dX9_dropping_88 rfl ?_
            refine aw_iload_n (pc := 89) C 4 dX9_dropping_89 rfl ?_
            refine aw_iconst (pc := 90) (v := 1) C dX9_dropping_90 rfl ?_
            refine aw_iaddN (pc := 91) C y 1 rfl rfl dX9_dropping_91 ?_
            refine aw_iload_n (pc := 92) C 5 dX9_dropping_92 rfl ?_
            refine aw_iconst (pc := 93) (v := 1) C dX9_dropping_93 rfl ?_
            refine aw_isubN (pc := 94) C (n + 1) 1 rfl rfl (by omega) dX9_dropping_94 ?_
            refine aw_iload (pc := 95) C 6 dX9_dropping_95 rfl ?_
            refine aw_iconst (pc := 97) (v := 1) C dX9_dropping_97 rfl ?_
            refine aw_isubN (pc := 98) C (k + 1) 1 rfl rfl (by omega) dX9_dropping_98 ?_
            refine aw_iconst (pc := 99) (v := 3) C dX9_dropping_99 rfl ?_
            refine aw_cVL (pc := 100) C (ih (y + 1) k 3 (by omega) (by omega) (by omega)) (lk_X9_189 n) sh73 rfl dX9_dropping_100 (Nat.le_refl _) (Nat.le_of_ble_eq_true rfl) rfl rfl ?_
            refine aw_lmul (pc := 103) C dX9_dropping_103 ?_
            refine aw_ladd (pc := 104) C dX9_dropping_104 ?_
            exact aw_lret (pc := 105) C rfl dX9_dropping_105 (by subst h24; rw [dS, if_neg (by omega)]) rfl
        · refine aw_lload (pc := 77) C 0 dX9_dropping_77 rfl ?_
          refine aw_goto (pc := 79) C 105 dX9_dropping_79 (by decide) ?_
          exact aw_lret (pc := 105) C rfl dX9_dropping_105 (by subst h24; rw [dS_o h8 h74]) rfl
      · refine aw_iconst (pc := 27) (v := 1) C dX9_dropping_27 rfl ?_
        refine aw_goto (pc := 28) C 32 dX9_dropping_28 (by decide) ?_
        refine aw_top C (b2i (0 < s)) (b2i_t h24).symm ?_
        refine aw_cVI (pc := 32) C (c_X9_oddsAt _ r y (0 < s) (by omega) (by omega)) lk_X9_185 sh73 rfl dX9_dropping_32 (Nat.le_trans (by decide : Y_X9_oddsAt.lvl + 1 ≤ 4) (Nat.le_add_right 4 _)) (Nat.le_of_ble_eq_true rfl) rfl rfl ?_
        refine aw_istore (pc := 35) C [(6, .int (oddsA (σ.1 20) r y (shk (0 < s)))), (0, .ref 73), (1, .int (nI r)), (2, .int (nI y)), (3, .int (nI (n + 1))), (4, .int (nI k)), (5, .int (nI s))] dX9_dropping_35 (Nat.le_of_ble_eq_true rfl) rfl ?_
        refine aw_bipush (pc := 37) (v := 24) C dX9_dropping_37 rfl ?_
        refine aw_iload (pc := 39) C 0 dX9_dropping_39 rfl ?_
        refine aw_isub (pc := 41) C dX9_dropping_41 ?_
        refine aw_i2l (pc := 42) C dX9_dropping_42 ?_
        refine aw_aload_n (pc := 43) C 1 dX9_dropping_43 rfl ?_
        refine aw_iload_n (pc := 44) C 2 dX9_dropping_44 rfl ?_
        refine aw_iload_n (pc := 45) C 3 dX9_dropping_45 rfl ?_
        refine aw_iconst (pc := 46) (v := 1) C dX9_dropping_46 rfl ?_
        refine aw_iaddN (pc := 47) C y 1 rfl rfl dX9_dropping_47 ?_
        refine aw_iload_n (pc := 48) C 4 dX9_dropping_48 rfl ?_
        refine aw_iconst (pc := 49) (v := 1) C dX9_dropping_49 rfl ?_
        refine aw_isubN (pc := 50) C (n + 1) 1 rfl rfl (by omega) dX9_dropping_50 ?_
        refine aw_iload (pc := 51) C 5 dX9_dropping_51 rfl ?_
        refine aw_iload (pc := 53) C 6 dX9_dropping_53 rfl ?_
        refine aw_if_leN (pc := 55) C s 65 rfl (by omega) dX9_dropping_55 (by decide) (fun h55 => absurd h55 (by omega)) (fun h55 => ?_)
        refine aw_iload (pc := 58) C 6 dX9_dropping_58 rfl ?_
        refine aw_iconst (pc := 60) (v := 1) C dX9_dropping_60 rfl ?_
        refine aw_isubN (pc := 61) C s 1 rfl rfl (by omega) dX9_dropping_61 ?_
        refine aw_goto (pc := 62) C 66 dX9_dropping_62 (by decide) ?_
        refine aw_cVL (pc := 66) C (ih (y + 1) k (s - 1) (by omega) (by omega) (by omega)) (lk_X9_189 n) sh73 rfl dX9_dropping_66 (Nat.le_refl _) (Nat.le_of_ble_eq_true rfl) rfl rfl ?_
        refine aw_lmul (pc := 69) C dX9_dropping_69 ?_
        refine aw_lstore (pc := 70) C [(7, .long (((24 - (oddsA (σ.1 20) r y (shk (0 < s)))).toInt64) * (dS (σ.1 20) r n (y + 1) k (s - 1)))), (6, .int (oddsA (σ.1 20) r y (shk (0 < s)))), (0, .ref 73), (1, .int (nI r)), (2, .int (nI y)), (3, .int (nI (n + 1))), (4, .int (nI k)), (5, .int (nI s))] dX9_dropping_70 (Nat.le_of_ble_eq_true rfl) rfl ?_
        refine aw_iload (pc := 72) C 1 dX9_dropping_72 rfl ?_
        refine aw_if_ne (pc := 74) C 82 dX9_dropping_74 (by decide) (fun h74 => ?_) (fun h74 => ?_)
        · rcases k with _ | k
          · refine aw_lvs C [0, 1, 2, 3, 4, 5, 6, 7] [(7, .long (((24 - (oddsA (σ.1 20) r y (shk (0 < s)))).toInt64) * (dS (σ.1 20) r n (y + 1) (0) (s - 1)))), (6, .int (oddsA (σ.1 20) r y (shk (0 < s)))), (0, .ref 73), (1, .int (nI r)), (2, .int (nI y)), (3, .int (nI (n + 1))), (4, .int 0), (5, .int (nI s))] rfl ?_
            refine aw_lload (pc := 82) C 0 dX9_dropping_82 rfl ?_
            refine aw_iload (pc := 84) C 1 dX9_dropping_84 rfl ?_
            refine aw_i2l (pc := 86) C dX9_dropping_86 ?_
            refine aw_aload_n (pc := 87) C 2 dX9_dropping_87 rfl ?_
            refine aw_iload_n (pc := 88) C 3 dX9_dropping_88 rfl ?_
            refine aw_iload_n (pc := 89) C 4 dX9_dropping_89 rfl ?_
            refine aw_iconst (pc := 90) (v := 1) C dX9_dropping_90 rfl ?_
            refine aw_iaddN (pc := 91) C y 1 rfl rfl dX9_dropping_91 ?_
            refine aw_iload_n (pc := 92) C 5 dX9_dropping_92 rfl ?_
            refine aw_iconst (pc := 93) (v := 1) C dX9_dropping_93 rfl ?_
            refine aw_isubN (pc := 94) C (n + 1) 1 rfl rfl (by omega) dX9_dropping_94 ?_
            refine aw_iload (pc := 95) C 6 dX9_dropping_95 rfl ?_
            refine aw_iconst (pc := 97) (v := 1) C dX9_dropping_97 rfl ?_
            refine aw_isub (pc := 98) C dX9_dropping_98 ?_
            refine aw_iconst (pc := 99) (v := 3) C dX9_dropping_99 rfl ?_
            refine aw_cVL (pc := 100) C (c_X9_dropping_neg _ (nI (r)) (nI (y + 1)) (nI (n)) 3 n) (lk_X9_189 n) sh73 rfl dX9_dropping_100 (Nat.le_refl _) (Nat.le_of_ble_eq_true rfl) rfl rfl ?_
            refine aw_lmul (pc := 103) C dX9_dropping_103 ?_
            refine aw_ladd (pc := 104) C dX9_dropping_104 ?_
            exact aw_lret (pc := 105) C rfl dX9_dropping_105 (by rw [dS, if_neg (by omega)]) rfl
          · refine aw_lload (pc := 82) C 0 dX9_dropping_82 rfl ?_
            refine aw_iload (pc := 84) C 1 dX9_dropping_84 rfl ?_
            refine aw_i2l (pc := 86) C dX9_dropping_86 ?_
            refine aw_aload_n (pc := 87) C 2 dX9_dropping_87 rfl ?_
            refine aw_iload_n (pc := 88) C 3 dX9_dropping_88 rfl ?_
            refine aw_iload_n (pc := 89) C 4 dX9_dropping_89 rfl ?_
            refine aw_iconst (pc := 90) (v := 1) C dX9_dropping_90 rfl ?_
            refine aw_iaddN (pc := 91) C y 1 rfl rfl dX9_dropping_91 ?_
            refine aw_iload_n (pc := 92) C 5 dX9_dropping_92 rfl ?_
            refine aw_iconst (pc := 93) (v := 1) C dX9_dropping_93 rfl ?_
            refine aw_isubN (pc := 94) C (n + 1) 1 rfl rfl (by omega) dX9_dropping_94 ?_
            refine aw_iload (pc := 95) C 6 dX9_dropping_95 rfl ?_
            refine aw_iconst (pc := 97) (v := 1) C dX9_dropping_97 rfl ?_
            refine aw_isubN (pc := 98) C (k + 1) 1 rfl rfl (by omega) dX9_dropping_98 ?_
            refine aw_iconst (pc := 99) (v := 3) C dX9_dropping_99 rfl ?_
            refine aw_cVL (pc := 100) C (ih (y + 1) k 3 (by omega) (by omega) (by omega)) (lk_X9_189 n) sh73 rfl dX9_dropping_100 (Nat.le_refl _) (Nat.le_of_ble_eq_true rfl) rfl rfl ?_
            refine aw_lmul (pc := 103) C dX9_dropping_103 ?_
            refine aw_ladd (pc := 104) C dX9_dropping_104 ?_
            exact aw_lret (pc := 105) C rfl dX9_dropping_105 (by rw [dS, if_neg (by omega)]) rfl
        · refine aw_lload (pc := 77) C 0 dX9_dropping_77 rfl ?_
          refine aw_goto (pc := 79) C 105 dX9_dropping_79 (by decide) ?_
          exact aw_lret (pc := 105) C rfl dX9_dropping_105 (by rw [dS_o h8 h74]) rfl
    · refine aw_lconst (pc := 11) (v := 0) C dX9_dropping_11 rfl ?_
      exact aw_lret (pc := 12) C rfl dX9_dropping_12 (dS_big h8).symm rfl
