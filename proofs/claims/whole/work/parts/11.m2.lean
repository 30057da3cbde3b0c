/-! the reference: what kinds tell, ODDS -/
theorem c_X9_isRunner (σ : St) (n : Nat) (hn : σ.1 20 2 = nI n) (hz : n ≤ 6) (x : Int32) : AMet Y_X9_isRunner [.ref 73, .int x] σ (fz (some (.int (b2i (isR n x)))) (σ)) := by
  refine am_intro (by decide +kernel) (Nat.le_of_ble_eq_true rfl) (fun K C => ?_)
  refine aw_iload_n (pc := 0) C 1 dX9_isRunner_0 rfl ?_
  refine aw_i2l (pc := 1) C dX9_isRunner_1 ?_
  refine aw_lconst (pc := 2) (v := 0) C dX9_isRunner_2 rfl ?_
  refine aw_aload_n (pc := 3) C 0 dX9_isRunner_3 rfl ?_
  refine aw_getR (pc := 4) C fl_X9_9 sh73 rfl dX9_isRunner_4 ?_
  refine aw_iconst (pc := 7) (v := 2) C dX9_isRunner_7 rfl ?_
  refine aw_ild (pc := 8) (k := 2) C (2) (σ.1 20 2) sh74 dX9_isRunner_8 rfl (by omega) rfl rfl ?_
  refine aw_top C (nI n) hn ?_
  refine aw_iconst (pc := 9) (v := 1) C dX9_isRunner_9 rfl ?_
  refine aw_isub (pc := 10) C dX9_isRunner_10 ?_
  refine aw_i2l (pc := 11) C dX9_isRunner_11 ?_
  refine aw_cSI (pc := 12) C (c_X9_in _ x 0 ((nI n) - 1) _ _ _ rfl (by decide) rfl) lk_X9_54 dX9_isRunner_12 (by decide) (Nat.le_of_ble_eq_true rfl) rfl rfl ?_
  exact aw_zret (pc := 15) C rfl (b2i_nar _) dX9_isRunner_15 (b2i_cong (isR_le hz)) rfl
theorem c_X9_isHome (σ : St) (r : Nat) (hr : r < 6) : AMet Y_X9_isHome [.ref 73, .int (nI r)] σ (fz (some (.int (b2i (fl (σ.1 20) r 3 = 30)))) (σ)) := by
  refine am_intro (by decide +kernel) (Nat.le_of_ble_eq_true rfl) (fun K C => ?_)
  refine aw_aload_n (pc := 0) C 0 dX9_isHome_0 rfl ?_
  refine aw_iload_n (pc := 1) C 1 dX9_isHome_1 rfl ?_
  refine aw_iconst (pc := 2) (v := 3) C dX9_isHome_2 rfl ?_
  refine aw_cVI (pc := 3) C (c_X9_is _ r 3 (by omega)) lk_X9_62 sh73 rfl dX9_isHome_3 (by decide) (Nat.le_of_ble_eq_true rfl) rfl rfl ?_
  refine aw_bipush (pc := 6) (v := 30) C dX9_isHome_6 rfl ?_
  refine aw_icmp_ne (pc := 8) C 15 dX9_isHome_8 (by decide) (fun h8 => ?_) (fun h8 => ?_)
  · refine aw_iconst (pc := 15) (v := 0) C dX9_isHome_15 rfl ?_
    exact aw_zret (pc := 16) C rfl rfl dX9_isHome_16 (b2i_f h8).symm rfl
  · refine aw_iconst (pc := 11) (v := 1) C dX9_isHome_11 rfl ?_
    refine aw_goto (pc := 12) C 16 dX9_isHome_12 (by decide) ?_
    exact aw_zret (pc := 16) C rfl rfl dX9_isHome_16 (b2i_t h8).symm rfl
theorem c_X9_paceAt (σ : St) (r y : Nat) (hr : r < 6) (hy : y < 30) : AMet Y_X9_paceAt [.ref 73, .int (nI r), .int (nI y)] σ (fz (some (.int (fl (σ.1 20) r (7 + y)))) (σ)) := by
  refine am_intro (by decide +kernel) (Nat.le_of_ble_eq_true rfl) (fun K C => ?_)
  refine aw_aload_n (pc := 0) C 0 dX9_paceAt_0 rfl ?_
  refine aw_iload_n (pc := 1) C 1 dX9_paceAt_1 rfl ?_
  refine aw_bipush (pc := 2) (v := 7) C dX9_paceAt_2 rfl ?_
  refine aw_iload_n (pc := 4) C 2 dX9_paceAt_4 rfl ?_
  refine aw_iaddN (pc := 5) C 7 y rfl rfl dX9_paceAt_5 ?_
  refine aw_cVI (pc := 6) C (c_X9_is _ r (7 + y) (by omega)) lk_X9_62 sh73 rfl dX9_paceAt_6 (by decide) (Nat.le_of_ble_eq_true rfl) rfl rfl ?_
  exact aw_iret (pc := 9) C rfl dX9_paceAt_9 rfl rfl
theorem c_X9_takes (σ : St) (r : Nat) (p : Int32) (hr : r < 6) : AMet Y_X9_takes [.ref 73, .int (nI r), .int p] σ (fz (some (.int (sTakes (fl (σ.1 20) r 0) p))) (σ)) := by
  refine am_intro (by decide +kernel) (Nat.le_of_ble_eq_true rfl) (fun K C => ?_)
  refine aw_aload_n (pc := 0) C 0 dX9_takes_0 rfl ?_
  refine aw_iload_n (pc := 1) C 1 dX9_takes_1 rfl ?_
  refine aw_iconst (pc := 2) (v := 0) C dX9_takes_2 rfl ?_
  refine aw_cVI (pc := 3) C (c_X9_is _ r 0 (by omega)) lk_X9_62 sh73 rfl dX9_takes_3 (by decide) (Nat.le_of_ble_eq_true rfl) rfl rfl ?_
  refine aw_istore_n (pc := 6) C [(3, .int (σ.1 20 (33 + 37 * r + 0))), (0, .ref 73), (1, .int (nI r)), (2, .int p)] dX9_takes_6 (Nat.le_of_ble_eq_true rfl) rfl ?_
  refine aw_iload_n (pc := 7) C 0 dX9_takes_7 rfl ?_
  refine aw_iconst (pc := 8) (v := 3) C dX9_takes_8 rfl ?_
  refine aw_icmp_ne (pc := 9) C 17 dX9_takes_9 (by decide) (fun h9 => ?_) (fun h9 => ?_)
  · refine aw_iload_n (pc := 17) C 0 dX9_takes_17 rfl ?_
    refine aw_bipush (pc := 18) (v := 6) C dX9_takes_18 rfl ?_
    refine aw_icmp_ne (pc := 20) C 28 dX9_takes_20 (by decide) (fun h20 => ?_) (fun h20 => ?_)
    · refine aw_bipush (pc := 28) (v := 12) C dX9_takes_28 rfl ?_
      refine aw_iload_n (pc := 30) C 3 dX9_takes_30 rfl ?_
      refine aw_isub (pc := 31) C dX9_takes_31 ?_
      exact aw_iret (pc := 32) C rfl dX9_takes_32 (by rw [sTakes, if_neg h9, if_neg h20]) rfl
    · refine aw_bipush (pc := 23) (v := 15) C dX9_takes_23 rfl ?_
      refine aw_goto (pc := 25) C 30 dX9_takes_25 (by decide) ?_
      refine aw_iload_n (pc := 30) C 3 dX9_takes_30 rfl ?_
      refine aw_isub (pc := 31) C dX9_takes_31 ?_
      exact aw_iret (pc := 32) C rfl dX9_takes_32 (by rw [sTakes, if_neg h9, if_pos h20]) rfl
  · refine aw_bipush (pc := 12) (v := 11) C dX9_takes_12 rfl ?_
    refine aw_goto (pc := 14) C 30 dX9_takes_14 (by decide) ?_
    refine aw_iload_n (pc := 30) C 3 dX9_takes_30 rfl ?_
    refine aw_isub (pc := 31) C dX9_takes_31 ?_
    exact aw_iret (pc := 32) C rfl dX9_takes_32 (by rw [sTakes, if_pos h9]) rfl
theorem c_X9_rocks (σ : St) (r : Nat) (p : Int32) (hr : r < 6) : AMet Y_X9_rocks [.ref 73, .int (nI r), .int p] σ (fz (some (.int (sRocks (fl (σ.1 20) r 0) p))) (σ)) := by
  refine am_intro (by decide +kernel) (Nat.le_of_ble_eq_true rfl) (fun K C => ?_)
  refine aw_aload_n (pc := 0) C 0 dX9_rocks_0 rfl ?_
  refine aw_iload_n (pc := 1) C 1 dX9_rocks_1 rfl ?_
  refine aw_iconst (pc := 2) (v := 0) C dX9_rocks_2 rfl ?_
  refine aw_cVI (pc := 3) C (c_X9_is _ r 0 (by omega)) lk_X9_62 sh73 rfl dX9_rocks_3 (by decide) (Nat.le_of_ble_eq_true rfl) rfl rfl ?_
  refine aw_istore_n (pc := 6) C [(3, .int (σ.1 20 (33 + 37 * r + 0))), (0, .ref 73), (1, .int (nI r)), (2, .int p)] dX9_rocks_6 (Nat.le_of_ble_eq_true rfl) rfl ?_
  refine aw_iload_n (pc := 7) C 3 dX9_rocks_7 rfl ?_
  by_cases h8_1 : p = 1
  · refine aw_tableIn (pc := 8) C 52 dX9_rocks_8 (by rw [h8_1]; decide) (by rw [h8_1]; decide) (by rw [h8_1]; rfl) (by decide) ?_
    refine aw_iconst (pc := 52) (v := 1) C dX9_rocks_52 rfl ?_
    refine aw_istore (pc := 53) C [(4, .int 1), (3, .int (σ.1 20 (33 + 37 * r + 0))), (0, .ref 73), (1, .int (nI r)), (2, .int p)] dX9_rocks_53 (Nat.le_of_ble_eq_true rfl) rfl ?_
    refine aw_goto (pc := 55) C 89 dX9_rocks_55 (by decide) ?_
    refine aw_iload_n (pc := 89) C 1 dX9_rocks_89 rfl ?_
    refine aw_iconst (pc := 90) (v := 3) C dX9_rocks_90 rfl ?_
    refine aw_icmp_ne (pc := 91) C 101 dX9_rocks_91 (by decide) (fun h91 => ?_) (fun h91 => ?_)
    · refine aw_iload (pc := 101) C 0 dX9_rocks_101 rfl ?_
      exact aw_iret (pc := 103) C rfl dX9_rocks_103 (by rw [sRocks, if_neg h91, sRockB, if_pos h8_1]) rfl
    · refine aw_iload (pc := 94) C 0 dX9_rocks_94 rfl ?_
      refine aw_iconst (pc := 96) (v := 1) C dX9_rocks_96 rfl ?_
      refine aw_iadd (pc := 97) C dX9_rocks_97 ?_
      refine aw_goto (pc := 98) C 103 dX9_rocks_98 (by decide) ?_
      exact aw_iret (pc := 103) C rfl dX9_rocks_103 (by rw [sRocks, if_pos h91, sRockB, if_pos h8_1]) rfl
  by_cases h8_2 : p = 2
  · refine aw_tableIn (pc := 8) C 52 dX9_rocks_8 (by rw [h8_2]; decide) (by rw [h8_2]; decide) (by rw [h8_2]; rfl) (by decide) ?_
    refine aw_iconst (pc := 52) (v := 1) C dX9_rocks_52 rfl ?_
    refine aw_istore (pc := 53) C [(4, .int 1), (3, .int (σ.1 20 (33 + 37 * r + 0))), (0, .ref 73), (1, .int (nI r)), (2, .int p)] dX9_rocks_53 (Nat.le_of_ble_eq_true rfl) rfl ?_
    refine aw_goto (pc := 55) C 89 dX9_rocks_55 (by decide) ?_
    refine aw_iload_n (pc := 89) C 1 dX9_rocks_89 rfl ?_
    refine aw_iconst (pc := 90) (v := 3) C dX9_rocks_90 rfl ?_
    refine aw_icmp_ne (pc := 91) C 101 dX9_rocks_91 (by decide) (fun h91 => ?_) (fun h91 => ?_)
    · refine aw_iload (pc := 101) C 0 dX9_rocks_101 rfl ?_
      exact aw_iret (pc := 103) C rfl dX9_rocks_103 (by rw [sRocks, if_neg h91, sRockB, if_neg h8_1, if_pos h8_2]) rfl
    · refine aw_iload (pc := 94) C 0 dX9_rocks_94 rfl ?_
      refine aw_iconst (pc := 96) (v := 1) C dX9_rocks_96 rfl ?_
      refine aw_iadd (pc := 97) C dX9_rocks_97 ?_
      refine aw_goto (pc := 98) C 103 dX9_rocks_98 (by decide) ?_
      exact aw_iret (pc := 103) C rfl dX9_rocks_103 (by rw [sRocks, if_pos h91, sRockB, if_neg h8_1, if_pos h8_2]) rfl
  by_cases h8_3 : p = 3
  · refine aw_tableIn (pc := 8) C 58 dX9_rocks_8 (by rw [h8_3]; decide) (by rw [h8_3]; decide) (by rw [h8_3]; rfl) (by decide) ?_
    refine aw_iconst (pc := 58) (v := 2) C dX9_rocks_58 rfl ?_
    refine aw_istore (pc := 59) C [(4, .int 2), (3, .int (σ.1 20 (33 + 37 * r + 0))), (0, .ref 73), (1, .int (nI r)), (2, .int p)] dX9_rocks_59 (Nat.le_of_ble_eq_true rfl) rfl ?_
    refine aw_goto (pc := 61) C 89 dX9_rocks_61 (by decide) ?_
    refine aw_iload_n (pc := 89) C 1 dX9_rocks_89 rfl ?_
    refine aw_iconst (pc := 90) (v := 3) C dX9_rocks_90 rfl ?_
    refine aw_icmp_ne (pc := 91) C 101 dX9_rocks_91 (by decide) (fun h91 => ?_) (fun h91 => ?_)
    · refine aw_iload (pc := 101) C 0 dX9_rocks_101 rfl ?_
      exact aw_iret (pc := 103) C rfl dX9_rocks_103 (by rw [sRocks, if_neg h91, sRockB, if_neg h8_1, if_neg h8_2, if_pos h8_3]) rfl
    · refine aw_iload (pc := 94) C 0 dX9_rocks_94 rfl ?_
      refine aw_iconst (pc := 96) (v := 1) C dX9_rocks_96 rfl ?_
      refine aw_iadd (pc := 97) C dX9_rocks_97 ?_
      refine aw_goto (pc := 98) C 103 dX9_rocks_98 (by decide) ?_
      exact aw_iret (pc := 103) C rfl dX9_rocks_103 (by rw [sRocks, if_pos h91, sRockB, if_neg h8_1, if_neg h8_2, if_pos h8_3]) rfl
  by_cases h8_4 : p = 4
  · refine aw_tableIn (pc := 8) C 58 dX9_rocks_8 (by rw [h8_4]; decide) (by rw [h8_4]; decide) (by rw [h8_4]; rfl) (by decide) ?_
    refine aw_iconst (pc := 58) (v := 2) C dX9_rocks_58 rfl ?_
    refine aw_istore (pc := 59) C [(4, .int 2), (3, .int (σ.1 20 (33 + 37 * r + 0))), (0, .ref 73), (1, .int (nI r)), (2, .int p)] dX9_rocks_59 (Nat.le_of_ble_eq_true rfl) rfl ?_
    refine aw_goto (pc := 61) C 89 dX9_rocks_61 (by decide) ?_
    refine aw_iload_n (pc := 89) C 1 dX9_rocks_89 rfl ?_
    refine aw_iconst (pc := 90) (v := 3) C dX9_rocks_90 rfl ?_
    refine aw_icmp_ne (pc := 91) C 101 dX9_rocks_91 (by decide) (fun h91 => ?_) (fun h91 => ?_)
    · refine aw_iload (pc := 101) C 0 dX9_rocks_101 rfl ?_
      exact aw_iret (pc := 103) C rfl dX9_rocks_103 (by rw [sRocks, if_neg h91, sRockB, if_neg h8_1, if_neg h8_2, if_neg h8_3, if_pos h8_4]) rfl
    · refine aw_iload (pc := 94) C 0 dX9_rocks_94 rfl ?_
      refine aw_iconst (pc := 96) (v := 1) C dX9_rocks_96 rfl ?_
      refine aw_iadd (pc := 97) C dX9_rocks_97 ?_
      refine aw_goto (pc := 98) C 103 dX9_rocks_98 (by decide) ?_
      exact aw_iret (pc := 103) C rfl dX9_rocks_103 (by rw [sRocks, if_pos h91, sRockB, if_neg h8_1, if_neg h8_2, if_neg h8_3, if_pos h8_4]) rfl
  by_cases h8_5 : p = 5
  · refine aw_tableIn (pc := 8) C 86 dX9_rocks_8 (by rw [h8_5]; decide) (by rw [h8_5]; decide) (by rw [h8_5]; rfl) (by decide) ?_
    refine aw_iconst (pc := 86) (v := 3) C dX9_rocks_86 rfl ?_
    refine aw_istore (pc := 87) C [(4, .int 3), (3, .int (σ.1 20 (33 + 37 * r + 0))), (0, .ref 73), (1, .int (nI r)), (2, .int p)] dX9_rocks_87 (Nat.le_of_ble_eq_true rfl) rfl ?_
    refine aw_iload_n (pc := 89) C 1 dX9_rocks_89 rfl ?_
    refine aw_iconst (pc := 90) (v := 3) C dX9_rocks_90 rfl ?_
    refine aw_icmp_ne (pc := 91) C 101 dX9_rocks_91 (by decide) (fun h91 => ?_) (fun h91 => ?_)
    · refine aw_iload (pc := 101) C 0 dX9_rocks_101 rfl ?_
      exact aw_iret (pc := 103) C rfl dX9_rocks_103 (by rw [sRocks, if_neg h91, sRockB, if_neg h8_1, if_neg h8_2, if_neg h8_3, if_neg h8_4, if_pos h8_5]) rfl
    · refine aw_iload (pc := 94) C 0 dX9_rocks_94 rfl ?_
      refine aw_iconst (pc := 96) (v := 1) C dX9_rocks_96 rfl ?_
      refine aw_iadd (pc := 97) C dX9_rocks_97 ?_
      refine aw_goto (pc := 98) C 103 dX9_rocks_98 (by decide) ?_
      exact aw_iret (pc := 103) C rfl dX9_rocks_103 (by rw [sRocks, if_pos h91, sRockB, if_neg h8_1, if_neg h8_2, if_neg h8_3, if_neg h8_4, if_pos h8_5]) rfl
  by_cases h8_6 : p = 6
  · refine aw_tableIn (pc := 8) C 64 dX9_rocks_8 (by rw [h8_6]; decide) (by rw [h8_6]; decide) (by rw [h8_6]; rfl) (by decide) ?_
    refine aw_iload_n (pc := 64) C 0 dX9_rocks_64 rfl ?_
    refine aw_iconst (pc := 65) (v := 4) C dX9_rocks_65 rfl ?_
    refine aw_icmp_ne (pc := 66) C 73 dX9_rocks_66 (by decide) (fun h66 => ?_) (fun h66 => ?_)
    · refine aw_bipush (pc := 73) (v := 6) C dX9_rocks_73 rfl ?_
      refine aw_istore (pc := 75) C [(4, .int 6), (3, .int (σ.1 20 (33 + 37 * r + 0))), (0, .ref 73), (1, .int (nI r)), (2, .int p)] dX9_rocks_75 (Nat.le_of_ble_eq_true rfl) rfl ?_
      refine aw_goto (pc := 77) C 89 dX9_rocks_77 (by decide) ?_
      refine aw_iload_n (pc := 89) C 1 dX9_rocks_89 rfl ?_
      refine aw_iconst (pc := 90) (v := 3) C dX9_rocks_90 rfl ?_
      refine aw_icmp_ne (pc := 91) C 101 dX9_rocks_91 (by decide) (fun h91 => ?_) (fun h91 => ?_)
      · refine aw_iload (pc := 101) C 0 dX9_rocks_101 rfl ?_
        exact aw_iret (pc := 103) C rfl dX9_rocks_103 (by rw [sRocks, if_neg h91, sRockB, if_neg h8_1, if_neg h8_2, if_neg h8_3, if_neg h8_4, if_neg h8_5, if_pos h8_6, if_neg h66]) rfl
      · refine aw_iload (pc := 94) C 0 dX9_rocks_94 rfl ?_
        refine aw_iconst (pc := 96) (v := 1) C dX9_rocks_96 rfl ?_
        refine aw_iadd (pc := 97) C dX9_rocks_97 ?_
        refine aw_goto (pc := 98) C 103 dX9_rocks_98 (by decide) ?_
        exact aw_iret (pc := 103) C rfl dX9_rocks_103 (by rw [sRocks, if_pos h91, sRockB, if_neg h8_1, if_neg h8_2, if_neg h8_3, if_neg h8_4, if_neg h8_5, if_pos h8_6, if_neg h66]) rfl
    · refine aw_iconst (pc := 69) (v := 2) C dX9_rocks_69 rfl ?_
      refine aw_goto (pc := 70) C 75 dX9_rocks_70 (by decide) ?_
      refine aw_istore (pc := 75) C [(4, .int 2), (3, .int (σ.1 20 (33 + 37 * r + 0))), (0, .ref 73), (1, .int (nI r)), (2, .int p)] dX9_rocks_75 (Nat.le_of_ble_eq_true rfl) rfl ?_
      refine aw_goto (pc := 77) C 89 dX9_rocks_77 (by decide) ?_
      refine aw_iload_n (pc := 89) C 1 dX9_rocks_89 rfl ?_
      refine aw_iconst (pc := 90) (v := 3) C dX9_rocks_90 rfl ?_
      refine aw_icmp_ne (pc := 91) C 101 dX9_rocks_91 (by decide) (fun h91 => ?_) (fun h91 => ?_)
      · refine aw_iload (pc := 101) C 0 dX9_rocks_101 rfl ?_
        exact aw_iret (pc := 103) C rfl dX9_rocks_103 (by rw [sRocks, if_neg h91, sRockB, if_neg h8_1, if_neg h8_2, if_neg h8_3, if_neg h8_4, if_neg h8_5, if_pos h8_6, if_pos h66]) rfl
      · refine aw_iload (pc := 94) C 0 dX9_rocks_94 rfl ?_
        refine aw_iconst (pc := 96) (v := 1) C dX9_rocks_96 rfl ?_
        refine aw_iadd (pc := 97) C dX9_rocks_97 ?_
        refine aw_goto (pc := 98) C 103 dX9_rocks_98 (by decide) ?_
        exact aw_iret (pc := 103) C rfl dX9_rocks_103 (by rw [sRocks, if_pos h91, sRockB, if_neg h8_1, if_neg h8_2, if_neg h8_3, if_neg h8_4, if_neg h8_5, if_pos h8_6, if_pos h66]) rfl
  by_cases h8_7 : p = 7
  · refine aw_tableIn (pc := 8) C 80 dX9_rocks_8 (by rw [h8_7]; decide) (by rw [h8_7]; decide) (by rw [h8_7]; rfl) (by decide) ?_
    refine aw_iconst (pc := 80) (v := 5) C dX9_rocks_80 rfl ?_
    refine aw_istore (pc := 81) C [(4, .int 5), (3, .int (σ.1 20 (33 + 37 * r + 0))), (0, .ref 73), (1, .int (nI r)), (2, .int p)] dX9_rocks_81 (Nat.le_of_ble_eq_true rfl) rfl ?_
    refine aw_goto (pc := 83) C 89 dX9_rocks_83 (by decide) ?_
    refine aw_iload_n (pc := 89) C 1 dX9_rocks_89 rfl ?_
    refine aw_iconst (pc := 90) (v := 3) C dX9_rocks_90 rfl ?_
    refine aw_icmp_ne (pc := 91) C 101 dX9_rocks_91 (by decide) (fun h91 => ?_) (fun h91 => ?_)
    · refine aw_iload (pc := 101) C 0 dX9_rocks_101 rfl ?_
      exact aw_iret (pc := 103) C rfl dX9_rocks_103 (by rw [sRocks, if_neg h91, sRockB, if_neg h8_1, if_neg h8_2, if_neg h8_3, if_neg h8_4, if_neg h8_5, if_neg h8_6, if_pos h8_7]) rfl
    · refine aw_iload (pc := 94) C 0 dX9_rocks_94 rfl ?_
      refine aw_iconst (pc := 96) (v := 1) C dX9_rocks_96 rfl ?_
      refine aw_iadd (pc := 97) C dX9_rocks_97 ?_
      refine aw_goto (pc := 98) C 103 dX9_rocks_98 (by decide) ?_
      exact aw_iret (pc := 103) C rfl dX9_rocks_103 (by rw [sRocks, if_pos h91, sRockB, if_neg h8_1, if_neg h8_2, if_neg h8_3, if_neg h8_4, if_neg h8_5, if_neg h8_6, if_pos h8_7]) rfl
  refine aw_tableOut (pc := 8) C 86 dX9_rocks_8 (by have q0 := lv_neT (k := 1) h8_1 (a := 1) (by decide); have q1 := lv_neT (k := 2) h8_2 (a := 2) (by decide); have q2 := lv_neT (k := 3) h8_3 (a := 3) (by decide); have q3 := lv_neT (k := 4) h8_4 (a := 4) (by decide); have q4 := lv_neT (k := 5) h8_5 (a := 5) (by decide); have q5 := lv_neT (k := 6) h8_6 (a := 6) (by decide); have q6 := lv_neT (k := 7) h8_7 (a := 7) (by decide); omega) (by decide) ?_
  refine aw_iconst (pc := 86) (v := 3) C dX9_rocks_86 rfl ?_
  refine aw_istore (pc := 87) C [(4, .int 3), (3, .int (σ.1 20 (33 + 37 * r + 0))), (0, .ref 73), (1, .int (nI r)), (2, .int p)] dX9_rocks_87 (Nat.le_of_ble_eq_true rfl) rfl ?_
  refine aw_iload_n (pc := 89) C 1 dX9_rocks_89 rfl ?_
  refine aw_iconst (pc := 90) (v := 3) C dX9_rocks_90 rfl ?_
  refine aw_icmp_ne (pc := 91) C 101 dX9_rocks_91 (by decide) (fun h91 => ?_) (fun h91 => ?_)
  · refine aw_iload (pc := 101) C 0 dX9_rocks_101 rfl ?_
    exact aw_iret (pc := 103) C rfl dX9_rocks_103 (by rw [sRocks, if_neg h91, sRockB, if_neg h8_1, if_neg h8_2, if_neg h8_3, if_neg h8_4, if_neg h8_5, if_neg h8_6, if_neg h8_7]) rfl
  · refine aw_iload (pc := 94) C 0 dX9_rocks_94 rfl ?_
    refine aw_iconst (pc := 96) (v := 1) C dX9_rocks_96 rfl ?_
    refine aw_iadd (pc := 97) C dX9_rocks_97 ?_
    refine aw_goto (pc := 98) C 103 dX9_rocks_98 (by decide) ?_
    exact aw_iret (pc := 103) C rfl dX9_rocks_103 (by rw [sRocks, if_pos h91, sRockB, if_neg h8_1, if_neg h8_2, if_neg h8_3, if_neg h8_4, if_neg h8_5, if_neg h8_6, if_neg h8_7]) rfl
theorem c_X9_hurts (σ : St) (r y : Nat) (hr : r < 6) (hy : y < 30) : AMet Y_X9_hurts [.ref 73, .int (nI r), .int (nI y)] σ (fz (some (.int (sHurts (fl (σ.1 20) r 0) (σ.1 20 (3 + y))))) (σ)) := by
  refine am_intro (by decide +kernel) (Nat.le_of_ble_eq_true rfl) (fun K C => ?_)
  refine aw_aload_n (pc := 0) C 0 dX9_hurts_0 rfl ?_
  refine aw_getR (pc := 1) C fl_X9_9 sh73 rfl dX9_hurts_1 ?_
  refine aw_iconst (pc := 4) (v := 3) C dX9_hurts_4 rfl ?_
  refine aw_iload_n (pc := 5) C 2 dX9_hurts_5 rfl ?_
  refine aw_iaddN (pc := 6) C 3 y rfl rfl dX9_hurts_6 ?_
  refine aw_ild (pc := 7) (k := 3 + y) C (3 + y) (σ.1 20 (3 + y)) sh74 dX9_hurts_7 rfl (by omega) rfl rfl ?_
  refine aw_istore_n (pc := 8) C [(3, .int (σ.1 20 (3 + y))), (0, .ref 73), (1, .int (nI r)), (2, .int (nI y))] dX9_hurts_8 (Nat.le_of_ble_eq_true rfl) rfl ?_
  refine aw_iload_n (pc := 9) C 0 dX9_hurts_9 rfl ?_
  refine aw_if_ne (pc := 10) C 17 dX9_hurts_10 (by decide) (fun h10 => ?_) (fun h10 => ?_)
  · refine aw_iload_n (pc := 17) C 0 dX9_hurts_17 rfl ?_
    refine aw_iconst (pc := 18) (v := 2) C dX9_hurts_18 rfl ?_
    refine aw_icmp_ne (pc := 19) C 26 dX9_hurts_19 (by decide) (fun h19 => ?_) (fun h19 => ?_)
    · refine aw_iload_n (pc := 26) C 0 dX9_hurts_26 rfl ?_
      refine aw_iconst (pc := 27) (v := 3) C dX9_hurts_27 rfl ?_
      refine aw_icmp_ne (pc := 28) C 35 dX9_hurts_28 (by decide) (fun h28 => ?_) (fun h28 => ?_)
      · refine aw_iconst (pc := 35) (v := 3) C dX9_hurts_35 rfl ?_
        refine aw_istore (pc := 36) C [(4, .int 3), (3, .int (σ.1 20 (3 + y))), (0, .ref 73), (1, .int (nI r)), (2, .int (nI y))] dX9_hurts_36 (Nat.le_of_ble_eq_true rfl) rfl ?_
        refine aw_aload_n (pc := 38) C 2 dX9_hurts_38 rfl ?_
        refine aw_iload_n (pc := 39) C 3 dX9_hurts_39 rfl ?_
        refine aw_iconst (pc := 40) (v := 0) C dX9_hurts_40 rfl ?_
        refine aw_cVI (pc := 41) C (c_X9_is _ r 0 (by omega)) lk_X9_62 sh73 rfl dX9_hurts_41 (by decide) (Nat.le_of_ble_eq_true rfl) rfl rfl ?_
        refine aw_iconst (pc := 44) (v := 2) C dX9_hurts_44 rfl ?_
        refine aw_icmp_eq (pc := 45) C 59 dX9_hurts_45 (by decide) (fun h45 => ?_) (fun h45 => ?_)
        · refine aw_iconst (pc := 59) (v := 2) C dX9_hurts_59 rfl ?_
          refine aw_iload (pc := 60) C 0 dX9_hurts_60 rfl ?_
          refine aw_imul (pc := 62) C dX9_hurts_62 ?_
          refine aw_goto (pc := 63) C 68 dX9_hurts_63 (by decide) ?_
          exact aw_iret (pc := 68) C rfl dX9_hurts_68 (by rw [sHurts, if_pos h45, sHurtB, if_neg h10, if_neg h19, if_neg h28]) rfl
        · refine aw_aload_n (pc := 48) C 2 dX9_hurts_48 rfl ?_
          refine aw_iload_n (pc := 49) C 3 dX9_hurts_49 rfl ?_
          refine aw_iconst (pc := 50) (v := 0) C dX9_hurts_50 rfl ?_
          refine aw_cVI (pc := 51) C (c_X9_is _ r 0 (by omega)) lk_X9_62 sh73 rfl dX9_hurts_51 (by decide) (Nat.le_of_ble_eq_true rfl) rfl rfl ?_
          refine aw_bipush (pc := 54) (v := 6) C dX9_hurts_54 rfl ?_
          refine aw_icmp_ne (pc := 56) C 66 dX9_hurts_56 (by decide) (fun h56 => ?_) (fun h56 => ?_)
          · refine aw_iload (pc := 66) C 0 dX9_hurts_66 rfl ?_
            exact aw_iret (pc := 68) C rfl dX9_hurts_68 (by rw [sHurts, if_neg h45, if_neg h56, sHurtB, if_neg h10, if_neg h19, if_neg h28]) rfl
          · refine aw_iconst (pc := 59) (v := 2) C dX9_hurts_59 rfl ?_
            refine aw_iload (pc := 60) C 0 dX9_hurts_60 rfl ?_
            refine aw_imul (pc := 62) C dX9_hurts_62 ?_
            refine aw_goto (pc := 63) C 68 dX9_hurts_63 (by decide) ?_
            exact aw_iret (pc := 68) C rfl dX9_hurts_68 (by rw [sHurts, if_neg h45, if_pos h56, sHurtB, if_neg h10, if_neg h19, if_neg h28]) rfl
      · refine aw_iconst (pc := 31) (v := 2) C dX9_hurts_31 rfl ?_
        refine aw_goto (pc := 32) C 36 dX9_hurts_32 (by decide) ?_
        refine aw_istore (pc := 36) C [(4, .int 2), (3, .int (σ.1 20 (3 + y))), (0, .ref 73), (1, .int (nI r)), (2, .int (nI y))] dX9_hurts_36 (Nat.le_of_ble_eq_true rfl) rfl ?_
        refine aw_aload_n (pc := 38) C 2 dX9_hurts_38 rfl ?_
        refine aw_iload_n (pc := 39) C 3 dX9_hurts_39 rfl ?_
        refine aw_iconst (pc := 40) (v := 0) C dX9_hurts_40 rfl ?_
        refine aw_cVI (pc := 41) C (c_X9_is _ r 0 (by omega)) lk_X9_62 sh73 rfl dX9_hurts_41 (by decide) (Nat.le_of_ble_eq_true rfl) rfl rfl ?_
        refine aw_iconst (pc := 44) (v := 2) C dX9_hurts_44 rfl ?_
        refine aw_icmp_eq (pc := 45) C 59 dX9_hurts_45 (by decide) (fun h45 => ?_) (fun h45 => ?_)
        · refine aw_iconst (pc := 59) (v := 2) C dX9_hurts_59 rfl ?_
          refine aw_iload (pc := 60) C 0 dX9_hurts_60 rfl ?_
          refine aw_imul (pc := 62) C dX9_hurts_62 ?_
          refine aw_goto (pc := 63) C 68 dX9_hurts_63 (by decide) ?_
          exact aw_iret (pc := 68) C rfl dX9_hurts_68 (by rw [sHurts, if_pos h45, sHurtB, if_neg h10, if_neg h19, if_pos h28]) rfl
        · refine aw_aload_n (pc := 48) C 2 dX9_hurts_48 rfl ?_
          refine aw_iload_n (pc := 49) C 3 dX9_hurts_49 rfl ?_
          refine aw_iconst (pc := 50) (v := 0) C dX9_hurts_50 rfl ?_
          refine aw_cVI (pc := 51) C (c_X9_is _ r 0 (by omega)) lk_X9_62 sh73 rfl dX9_hurts_51 (by decide) (Nat.le_of_ble_eq_true rfl) rfl rfl ?_
          refine aw_bipush (pc := 54) (v := 6) C dX9_hurts_54 rfl ?_
          refine aw_icmp_ne (pc := 56) C 66 dX9_hurts_56 (by decide) (fun h56 => ?_) (fun h56 => ?_)
          · refine aw_iload (pc := 66) C 0 dX9_hurts_66 rfl ?_
            exact aw_iret (pc := 68) C rfl dX9_hurts_68 (by rw [sHurts, if_neg h45, if_neg h56, sHurtB, if_neg h10, if_neg h19, if_pos h28]) rfl
          · refine aw_iconst (pc := 59) (v := 2) C dX9_hurts_59 rfl ?_
            refine aw_iload (pc := 60) C 0 dX9_hurts_60 rfl ?_
            refine aw_imul (pc := 62) C dX9_hurts_62 ?_
            refine aw_goto (pc := 63) C 68 dX9_hurts_63 (by decide) ?_
            exact aw_iret (pc := 68) C rfl dX9_hurts_68 (by rw [sHurts, if_neg h45, if_pos h56, sHurtB, if_neg h10, if_neg h19, if_pos h28]) rfl
    · refine aw_iconst (pc := 22) (v := 4) C dX9_hurts_22 rfl ?_
      refine aw_goto (pc := 23) C 36 dX9_hurts_23 (by decide) ?_
      refine aw_istore (pc := 36) C [(4, .int 4), (3, .int (σ.1 20 (3 + y))), (0, .ref 73), (1, .int (nI r)), (2, .int (nI y))] dX9_hurts_36 (Nat.le_of_ble_eq_true rfl) rfl ?_
      refine aw_aload_n (pc := 38) C 2 dX9_hurts_38 rfl ?_
      refine aw_iload_n (pc := 39) C 3 dX9_hurts_39 rfl ?_
      refine aw_iconst (pc := 40) (v := 0) C dX9_hurts_40 rfl ?_
      refine aw_cVI (pc := 41) C (c_X9_is _ r 0 (by omega)) lk_X9_62 sh73 rfl dX9_hurts_41 (by decide) (Nat.le_of_ble_eq_true rfl) rfl rfl ?_
      refine aw_iconst (pc := 44) (v := 2) C dX9_hurts_44 rfl ?_
      refine aw_icmp_eq (pc := 45) C 59 dX9_hurts_45 (by decide) (fun h45 => ?_) (fun h45 => ?_)
      · refine aw_iconst (pc := 59) (v := 2) C dX9_hurts_59 rfl ?_
        refine aw_iload (pc := 60) C 0 dX9_hurts_60 rfl ?_
        refine aw_imul (pc := 62) C dX9_hurts_62 ?_
        refine aw_goto (pc := 63) C 68 dX9_hurts_63 (by decide) ?_
        exact aw_iret (pc := 68) C rfl dX9_hurts_68 (by rw [sHurts, if_pos h45, sHurtB, if_neg h10, if_pos h19]) rfl
      · refine aw_aload_n (pc := 48) C 2 dX9_hurts_48 rfl ?_
        refine aw_iload_n (pc := 49) C 3 dX9_hurts_49 rfl ?_
        refine aw_iconst (pc := 50) (v := 0) C dX9_hurts_50 rfl ?_
        refine aw_cVI (pc := 51) C (c_X9_is _ r 0 (by omega)) lk_X9_62 sh73 rfl dX9_hurts_51 (by decide) (Nat.le_of_ble_eq_true rfl) rfl rfl ?_
        refine aw_bipush (pc := 54) (v := 6) C dX9_hurts_54 rfl ?_
        refine aw_icmp_ne (pc := 56) C 66 dX9_hurts_56 (by decide) (fun h56 => ?_) (fun h56 => ?_)
        · refine aw_iload (pc := 66) C 0 dX9_hurts_66 rfl ?_
          exact aw_iret (pc := 68) C rfl dX9_hurts_68 (by rw [sHurts, if_neg h45, if_neg h56, sHurtB, if_neg h10, if_pos h19]) rfl
        · refine aw_iconst (pc := 59) (v := 2) C dX9_hurts_59 rfl ?_
          refine aw_iload (pc := 60) C 0 dX9_hurts_60 rfl ?_
          refine aw_imul (pc := 62) C dX9_hurts_62 ?_
          refine aw_goto (pc := 63) C 68 dX9_hurts_63 (by decide) ?_
          exact aw_iret (pc := 68) C rfl dX9_hurts_68 (by rw [sHurts, if_neg h45, if_pos h56, sHurtB, if_neg h10, if_pos h19]) rfl
  · refine aw_iconst (pc := 13) (v := 0) C dX9_hurts_13 rfl ?_
    refine aw_goto (pc := 14) C 36 dX9_hurts_14 (by decide) ?_
    refine aw_istore (pc := 36) C [(4, .int 0), (3, .int (σ.1 20 (3 + y))), (0, .ref 73), (1, .int (nI r)), (2, .int (nI y))] dX9_hurts_36 (Nat.le_of_ble_eq_true rfl) rfl ?_
    refine aw_aload_n (pc := 38) C 2 dX9_hurts_38 rfl ?_
    refine aw_iload_n (pc := 39) C 3 dX9_hurts_39 rfl ?_
    refine aw_iconst (pc := 40) (v := 0) C dX9_hurts_40 rfl ?_
    refine aw_cVI (pc := 41) C (c_X9_is _ r 0 (by omega)) lk_X9_62 sh73 rfl dX9_hurts_41 (by decide) (Nat.le_of_ble_eq_true rfl) rfl rfl ?_
    refine aw_iconst (pc := 44) (v := 2) C dX9_hurts_44 rfl ?_
    refine aw_icmp_eq (pc := 45) C 59 dX9_hurts_45 (by decide) (fun h45 => ?_) (fun h45 => ?_)
    · refine aw_iconst (pc := 59) (v := 2) C dX9_hurts_59 rfl ?_
      refine aw_iload (pc := 60) C 0 dX9_hurts_60 rfl ?_
      refine aw_imul (pc := 62) C dX9_hurts_62 ?_
      refine aw_goto (pc := 63) C 68 dX9_hurts_63 (by decide) ?_
      exact aw_iret (pc := 68) C rfl dX9_hurts_68 (by rw [sHurts, if_pos h45, sHurtB, if_pos h10]) rfl
    · refine aw_aload_n (pc := 48) C 2 dX9_hurts_48 rfl ?_
      refine aw_iload_n (pc := 49) C 3 dX9_hurts_49 rfl ?_
      refine aw_iconst (pc := 50) (v := 0) C dX9_hurts_50 rfl ?_
      refine aw_cVI (pc := 51) C (c_X9_is _ r 0 (by omega)) lk_X9_62 sh73 rfl dX9_hurts_51 (by decide) (Nat.le_of_ble_eq_true rfl) rfl rfl ?_
      refine aw_bipush (pc := 54) (v := 6) C dX9_hurts_54 rfl ?_
      refine aw_icmp_ne (pc := 56) C 66 dX9_hurts_56 (by decide) (fun h56 => ?_) (fun h56 => ?_)
      · refine aw_iload (pc := 66) C 0 dX9_hurts_66 rfl ?_
        exact aw_iret (pc := 68) C rfl dX9_hurts_68 (by rw [sHurts, if_neg h45, if_neg h56, sHurtB, if_pos h10]) rfl
      · refine aw_iconst (pc := 59) (v := 2) C dX9_hurts_59 rfl ?_
        refine aw_iload (pc := 60) C 0 dX9_hurts_60 rfl ?_
        refine aw_imul (pc := 62) C dX9_hurts_62 ?_
        refine aw_goto (pc := 63) C 68 dX9_hurts_63 (by decide) ?_
        exact aw_iret (pc := 68) C rfl dX9_hurts_68 (by rw [sHurts, if_neg h45, if_pos h56, sHurtB, if_pos h10]) rfl
theorem c_X9_holds (σ : St) (r : Nat) (hr : r < 6) : AMet Y_X9_holds [.ref 73, .int (nI r)] σ (fz (some (.int (holdsM (σ.1 20) r))) (σ)) := by
  refine am_intro (by decide +kernel) (Nat.le_of_ble_eq_true rfl) (fun K C => ?_)
  refine aw_aload_n (pc := 0) C 0 dX9_holds_0 rfl ?_
  refine aw_iload_n (pc := 1) C 1 dX9_holds_1 rfl ?_
  refine aw_iconst (pc := 2) (v := 1) C dX9_holds_2 rfl ?_
  refine aw_cVI (pc := 3) C (c_X9_is _ r 1 (by omega)) lk_X9_62 sh73 rfl dX9_holds_3 (by decide) (Nat.le_of_ble_eq_true rfl) rfl rfl ?_
  refine aw_iconst (pc := 6) (v := 2) C dX9_holds_6 rfl ?_
  refine aw_idiv (pc := 7) C dX9_holds_7 (by decide) ?_
  refine aw_aload_n (pc := 8) C 0 dX9_holds_8 rfl ?_
  refine aw_iload_n (pc := 9) C 1 dX9_holds_9 rfl ?_
  refine aw_iconst (pc := 10) (v := 2) C dX9_holds_10 rfl ?_
  refine aw_cVI (pc := 11) C (c_X9_is _ r 2 (by omega)) lk_X9_62 sh73 rfl dX9_holds_11 (by decide) (Nat.le_of_ble_eq_true rfl) rfl rfl ?_
  refine aw_iadd (pc := 14) C dX9_holds_14 ?_
  refine aw_istore_n (pc := 15) C [(2, .int (((σ.1 20 (33 + 37 * r + 1)) / 2) + (σ.1 20 (33 + 37 * r + 2)))), (0, .ref 73), (1, .int (nI r))] dX9_holds_15 (Nat.le_of_ble_eq_true rfl) rfl ?_
  refine aw_aload_n (pc := 16) C 1 dX9_holds_16 rfl ?_
  refine aw_iload_n (pc := 17) C 2 dX9_holds_17 rfl ?_
  refine aw_iconst (pc := 18) (v := 0) C dX9_holds_18 rfl ?_
  refine aw_cVI (pc := 19) C (c_X9_is _ r 0 (by omega)) lk_X9_62 sh73 rfl dX9_holds_19 (by decide) (Nat.le_of_ble_eq_true rfl) rfl rfl ?_
  by_cases h22_1 : (σ.1 20 (33 + 37 * r + 0)) = 1
  · refine aw_tableIn (pc := 22) C 60 dX9_holds_22 (by rw [h22_1]; decide) (by rw [h22_1]; decide) (by rw [h22_1]; rfl) (by decide) ?_
    refine aw_iload_n (pc := 60) C 0 dX9_holds_60 rfl ?_
    refine aw_iconst (pc := 61) (v := 2) C dX9_holds_61 rfl ?_
    refine aw_iadd (pc := 62) C dX9_holds_62 ?_
    exact aw_iret (pc := 63) C rfl dX9_holds_63 (by rw [holdsM, sHolds, if_pos h22_1]) rfl
  by_cases h22_2 : (σ.1 20 (33 + 37 * r + 0)) = 2
  · refine aw_tableIn (pc := 22) C 69 dX9_holds_22 (by rw [h22_2]; decide) (by rw [h22_2]; decide) (by rw [h22_2]; rfl) (by decide) ?_
    refine aw_iload_n (pc := 69) C 0 dX9_holds_69 rfl ?_
    refine aw_iconst (pc := 70) (v := 3) C dX9_holds_70 rfl ?_
    refine aw_iadd (pc := 71) C dX9_holds_71 ?_
    exact aw_iret (pc := 72) C rfl dX9_holds_72 (by rw [holdsM, sHolds, if_neg h22_1, if_pos h22_2]) rfl
  by_cases h22_3 : (σ.1 20 (33 + 37 * r + 0)) = 3
  · refine aw_tableIn (pc := 22) C 73 dX9_holds_22 (by rw [h22_3]; decide) (by rw [h22_3]; decide) (by rw [h22_3]; rfl) (by decide) ?_
    refine aw_iload_n (pc := 73) C 0 dX9_holds_73 rfl ?_
    exact aw_iret (pc := 74) C rfl dX9_holds_74 (by rw [holdsM, sHolds, if_neg h22_1, if_neg h22_2, if_pos h22_3]) rfl
  by_cases h22_4 : (σ.1 20 (33 + 37 * r + 0)) = 4
  · refine aw_tableIn (pc := 22) C 60 dX9_holds_22 (by rw [h22_4]; decide) (by rw [h22_4]; decide) (by rw [h22_4]; rfl) (by decide) ?_
    refine aw_iload_n (pc := 60) C 0 dX9_holds_60 rfl ?_
    refine aw_iconst (pc := 61) (v := 2) C dX9_holds_61 rfl ?_
    refine aw_iadd (pc := 62) C dX9_holds_62 ?_
    exact aw_iret (pc := 63) C rfl dX9_holds_63 (by rw [holdsM, sHolds, if_neg h22_1, if_neg h22_2, if_neg h22_3, if_pos h22_4]) rfl
  by_cases h22_5 : (σ.1 20 (33 + 37 * r + 0)) = 5
  · refine aw_tableIn (pc := 22) C 64 dX9_holds_22 (by rw [h22_5]; decide) (by rw [h22_5]; decide) (by rw [h22_5]; rfl) (by decide) ?_
    refine aw_iload_n (pc := 64) C 0 dX9_holds_64 rfl ?_
    refine aw_bipush (pc := 65) (v := 11) C dX9_holds_65 rfl ?_
    refine aw_iadd (pc := 67) C dX9_holds_67 ?_
    exact aw_iret (pc := 68) C rfl dX9_holds_68 (by rw [holdsM, sHolds, if_neg h22_1, if_neg h22_2, if_neg h22_3, if_neg h22_4, if_pos h22_5]) rfl
  by_cases h22_6 : (σ.1 20 (33 + 37 * r + 0)) = 6
  · refine aw_tableIn (pc := 22) C 69 dX9_holds_22 (by rw [h22_6]; decide) (by rw [h22_6]; decide) (by rw [h22_6]; rfl) (by decide) ?_
    refine aw_iload_n (pc := 69) C 0 dX9_holds_69 rfl ?_
    refine aw_iconst (pc := 70) (v := 3) C dX9_holds_70 rfl ?_
    refine aw_iadd (pc := 71) C dX9_holds_71 ?_
    exact aw_iret (pc := 72) C rfl dX9_holds_72 (by rw [holdsM, sHolds, if_neg h22_1, if_neg h22_2, if_neg h22_3, if_neg h22_4, if_neg h22_5, if_pos h22_6]) rfl
  refine aw_tableOut (pc := 22) C 73 dX9_holds_22 (by have q0 := lv_neT (k := 1) h22_1 (a := 1) (by decide); have q1 := lv_neT (k := 2) h22_2 (a := 2) (by decide); have q2 := lv_neT (k := 3) h22_3 (a := 3) (by decide); have q3 := lv_neT (k := 4) h22_4 (a := 4) (by decide); have q4 := lv_neT (k := 5) h22_5 (a := 5) (by decide); have q5 := lv_neT (k := 6) h22_6 (a := 6) (by decide); omega) (by decide) ?_
  refine aw_iload_n (pc := 73) C 0 dX9_holds_73 rfl ?_
  exact aw_iret (pc := 74) C rfl dX9_holds_74 (by rw [holdsM, sHolds, if_neg h22_1, if_neg h22_2, if_neg h22_3, if_neg h22_4, if_neg h22_5, if_neg h22_6]) rfl
theorem c_X9_oddsBy (σ : St) (r y : Nat) (p : Int32) (P : Prop) [Decidable P] (nv : Int32) (hr : r < 6) (hy : y < 30) : AMet Y_X9_oddsBy [.ref 73, .int (nI r), .int (nI y), .int p, .int (b2i (P)), .int nv] σ (fz (some (.int (oddsM (σ.1 20) r y p (shk P) nv))) (σ)) := by
  refine am_intro (by decide +kernel) (Nat.le_of_ble_eq_true rfl) (fun K C => ?_)
  refine aw_aload_n (pc := 0) C 0 dX9_oddsBy_0 rfl ?_
  refine aw_iload_n (pc := 1) C 1 dX9_oddsBy_1 rfl ?_
  refine aw_iload_n (pc := 2) C 3 dX9_oddsBy_2 rfl ?_
  refine aw_cVI (pc := 3) C (c_X9_rocks _ r p (by omega)) lk_X9_113 sh73 rfl dX9_oddsBy_3 (by decide) (Nat.le_of_ble_eq_true rfl) rfl rfl ?_
  refine aw_aload_n (pc := 6) C 0 dX9_oddsBy_6 rfl ?_
  refine aw_iload_n (pc := 7) C 1 dX9_oddsBy_7 rfl ?_
  refine aw_iload_n (pc := 8) C 2 dX9_oddsBy_8 rfl ?_
  refine aw_cVI (pc := 9) C (c_X9_hurts _ r y (by omega) (by omega)) lk_X9_116 sh73 rfl dX9_oddsBy_9 (by decide) (Nat.le_of_ble_eq_true rfl) rfl rfl ?_
  refine aw_iadd (pc := 12) C dX9_oddsBy_12 ?_
  refine aw_iload (pc := 13) C 4 dX9_oddsBy_13 rfl ?_
  refine aw_if_eqB (pc := 15) C 22 dX9_oddsBy_15 (by decide) (fun h15 => ?_) (fun h15 => ?_)
  · refine aw_iconst (pc := 22) (v := 0) C dX9_oddsBy_22 rfl ?_
    refine aw_iadd (pc := 23) C dX9_oddsBy_23 ?_
    refine aw_iload (pc := 24) C 5 dX9_oddsBy_24 rfl ?_
    refine aw_iadd (pc := 26) C dX9_oddsBy_26 ?_
    refine aw_aload_n (pc := 27) C 0 dX9_oddsBy_27 rfl ?_
    refine aw_iload_n (pc := 28) C 1 dX9_oddsBy_28 rfl ?_
    refine aw_cVI (pc := 29) C (c_X9_holds _ r (by omega)) lk_X9_96 sh73 rfl dX9_oddsBy_29 (by decide) (Nat.le_of_ble_eq_true rfl) rfl rfl ?_
    refine aw_isub (pc := 32) C dX9_oddsBy_32 ?_
    refine aw_istore (pc := 33) C [(6, .int (((((sRocks (fl (σ.1 20) r 0) p) + (sHurts (fl (σ.1 20) r 0) (σ.1 20 (3 + y)))) + 0) + nv) - (holdsM (σ.1 20) r))), (0, .ref 73), (1, .int (nI r)), (2, .int (nI y)), (3, .int p), (4, .int (b2i (P))), (5, .int nv)] dX9_oddsBy_33 (Nat.le_of_ble_eq_true rfl) rfl ?_
    refine aw_iload (pc := 35) C 0 dX9_oddsBy_35 rfl ?_
    refine aw_if_ge (pc := 37) C 44 dX9_oddsBy_37 (by decide) (fun h37 => ?_) (fun h37 => ?_)
    · refine aw_iload (pc := 44) C 0 dX9_oddsBy_44 rfl ?_
      refine aw_bipush (pc := 46) (v := 23) C dX9_oddsBy_46 rfl ?_
      refine aw_icmp_le (pc := 48) C 56 dX9_oddsBy_48 (by decide) (fun h48 => ?_) (fun h48 => ?_)
      · refine aw_iload (pc := 56) C 0 dX9_oddsBy_56 rfl ?_
        exact aw_iret (pc := 58) C rfl dX9_oddsBy_58 (by rw [oddsM, shk, if_neg h15, sClip, if_neg (Int32.not_lt.mpr h37), if_neg (Int32.not_lt.mpr h48)]) rfl
      · refine aw_bipush (pc := 51) (v := 23) C dX9_oddsBy_51 rfl ?_
        refine aw_goto (pc := 53) C 58 dX9_oddsBy_53 (by decide) ?_
        exact aw_iret (pc := 58) C rfl dX9_oddsBy_58 (by rw [oddsM, shk, if_neg h15, sClip, if_neg (Int32.not_lt.mpr h37), if_pos (Int32.not_le.mp h48)]) rfl
    · refine aw_iconst (pc := 40) (v := 0) C dX9_oddsBy_40 rfl ?_
      refine aw_goto (pc := 41) C 58 dX9_oddsBy_41 (by decide) ?_
      exact aw_iret (pc := 58) C rfl dX9_oddsBy_58 (by rw [oddsM, shk, if_neg h15, sClip, if_pos (Int32.not_le.mp h37)]) rfl
  · refine aw_iconst (pc := 18) (v := 3) C dX9_oddsBy_18 rfl ?_
    refine aw_goto (pc := 19) C 23 dX9_oddsBy_19 (by decide) ?_
    refine aw_iadd (pc := 23) C dX9_oddsBy_23 ?_
    refine aw_iload (pc := 24) C 5 dX9_oddsBy_24 rfl ?_
    refine aw_iadd (pc := 26) C dX9_oddsBy_26 ?_
    refine aw_aload_n (pc := 27) C 0 dX9_oddsBy_27 rfl ?_
    refine aw_iload_n (pc := 28) C 1 dX9_oddsBy_28 rfl ?_
    refine aw_cVI (pc := 29) C (c_X9_holds _ r (by omega)) lk_X9_96 sh73 rfl dX9_oddsBy_29 (by decide) (Nat.le_of_ble_eq_true rfl) rfl rfl ?_
    refine aw_isub (pc := 32) C dX9_oddsBy_32 ?_
    refine aw_istore (pc := 33) C [(6, .int (((((sRocks (fl (σ.1 20) r 0) p) + (sHurts (fl (σ.1 20) r 0) (σ.1 20 (3 + y)))) + 3) + nv) - (holdsM (σ.1 20) r))), (0, .ref 73), (1, .int (nI r)), (2, .int (nI y)), (3, .int p), (4, .int (b2i (P))), (5, .int nv)] dX9_oddsBy_33 (Nat.le_of_ble_eq_true rfl) rfl ?_
    refine aw_iload (pc := 35) C 0 dX9_oddsBy_35 rfl ?_
    refine aw_if_ge (pc := 37) C 44 dX9_oddsBy_37 (by decide) (fun h37 => ?_) (fun h37 => ?_)
    · refine aw_iload (pc := 44) C 0 dX9_oddsBy_44 rfl ?_
      refine aw_bipush (pc := 46) (v := 23) C dX9_oddsBy_46 rfl ?_
      refine aw_icmp_le (pc := 48) C 56 dX9_oddsBy_48 (by decide) (fun h48 => ?_) (fun h48 => ?_)
      · refine aw_iload (pc := 56) C 0 dX9_oddsBy_56 rfl ?_
        exact aw_iret (pc := 58) C rfl dX9_oddsBy_58 (by rw [oddsM, shk, if_pos h15, sClip, if_neg (Int32.not_lt.mpr h37), if_neg (Int32.not_lt.mpr h48)]) rfl
      · refine aw_bipush (pc := 51) (v := 23) C dX9_oddsBy_51 rfl ?_
        refine aw_goto (pc := 53) C 58 dX9_oddsBy_53 (by decide) ?_
        exact aw_iret (pc := 58) C rfl dX9_oddsBy_58 (by rw [oddsM, shk, if_pos h15, sClip, if_neg (Int32.not_lt.mpr h37), if_pos (Int32.not_le.mp h48)]) rfl
    · refine aw_iconst (pc := 40) (v := 0) C dX9_oddsBy_40 rfl ?_
      refine aw_goto (pc := 41) C 58 dX9_oddsBy_41 (by decide) ?_
      exact aw_iret (pc := 58) C rfl dX9_oddsBy_58 (by rw [oddsM, shk, if_pos h15, sClip, if_pos (Int32.not_le.mp h37)]) rfl
