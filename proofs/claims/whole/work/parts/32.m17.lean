/-! the reference: SHEETS -/
theorem c_X9_sheet (σ : St) (s b n : Int32) : AMet Y_X9_sheet [.ref 73, .int s, .int b, .int n] σ (PS σ (sSheet (σ.1 30) (σ.1 31) (σ.1 32) s b n)) := by
  refine am_intro (by decide +kernel) (Nat.le_of_ble_eq_true rfl) (fun K C => ?_)
  refine aw_iload_n (pc := 0) C 1 dX9_sheet_0 rfl ?_
  refine aw_cSI (pc := 1) C (c_X9_isSheet _ s ) lk_X9_324 dX9_sheet_1 (by decide) (Nat.le_of_ble_eq_true rfl) rfl rfl ?_
  refine aw_if_eqB (pc := 4) C 29 dX9_sheet_4 (by decide) (fun h4 => ?_) (fun h4 => ?_)
  · refine aw_aload_n (pc := 29) C 0 dX9_sheet_29 rfl ?_
    refine aw_ldc (pc := 30) C dX9_sheet_30 kc_X9_46 ?_
    refine aw_cVI (pc := 32) C (c_X9_finds _ (-100000001) 0 (by decide) (by decide)) lk_X9_48 sh73 rfl dX9_sheet_32 (by decide) (Nat.le_of_ble_eq_true rfl) rfl rfl ?_
    exact aw_iretP (pc := 35) C rfl dX9_sheet_35 (ps_of (an' := .inl 0) (by rw [sSheet, if_neg (fun z => h4 z.1)]) rfl rfl)
  · refine aw_iload_n (pc := 7) C 2 dX9_sheet_7 rfl ?_
    refine aw_if_eq (pc := 8) C 36 dX9_sheet_8 (by decide) (fun h8 => ?_) (fun h8 => ?_)
    · refine aw_iload_n (pc := 36) C 3 dX9_sheet_36 rfl ?_
      refine aw_if_ge (pc := 37) C 48 dX9_sheet_37 (by decide) (fun h37 => ?_) (fun h37 => ?_)
      · refine aw_iload_n (pc := 48) C 3 dX9_sheet_48 rfl ?_
        refine aw_bipush (pc := 49) (v := 40) C dX9_sheet_49 rfl ?_
        refine aw_icmp_le (pc := 51) C 61 dX9_sheet_51 (by decide) (fun h51 => ?_) (fun h51 => ?_)
        · obtain ⟨ss, rfl, hss0, hss⟩ := rg 0 3 h4 (by omega) (by omega)
          refine aw_aload_n (pc := 61) C 0 dX9_sheet_61 rfl ?_
          refine aw_getR (pc := 62) C fl_X9_37 sh73 rfl dX9_sheet_62 ?_
          refine aw_iload_n (pc := 65) C 1 dX9_sheet_65 rfl ?_
          refine aw_iload_n (pc := 66) C 2 dX9_sheet_66 rfl ?_
          refine aw_ist (pc := 67) (k := ss) C (ss) (setR σ 30 (upd (σ.1 30) ss (b))) sh83 dX9_sheet_67 rfl (by omega) rfl rfl ?_
          refine aw_aload_n (pc := 68) C 0 dX9_sheet_68 rfl ?_
          refine aw_getR (pc := 69) C fl_X9_40 sh73 rfl dX9_sheet_69 ?_
          refine aw_iload_n (pc := 72) C 1 dX9_sheet_72 rfl ?_
          refine aw_iload_n (pc := 73) C 2 dX9_sheet_73 rfl ?_
          refine aw_if_ne (pc := 74) C 81 dX9_sheet_74 (by decide) (fun h74 => ?_) (fun h74 => ?_)
          · refine aw_iload_n (pc := 81) C 3 dX9_sheet_81 rfl ?_
            refine aw_top C (szv b n) ((if_neg h74).symm) ?_
            refine aw_ist (pc := 82) (k := ss) C (ss) (setR (setR σ 30 (upd (σ.1 30) ss (b))) 31 (upd (σ.1 31) ss (szv b n))) sh84 dX9_sheet_82 rfl (by omega) rfl (by first | rfl | (simp (disch := omega) only [setR_at, setR_twice, setL_at, setL_twice, setR_2, setL_1, setR_ne, setL_ne, ne_eq, Nat.reduceEqDiff, not_false_eq_true, pk_us, pk_un]; done) | ((try simp (disch := omega) only [setR_at, setR_twice, setL_at, setL_twice, setR_2, setL_1, setR_ne, setL_ne, ne_eq, Nat.reduceEqDiff, not_false_eq_true, pk_us, pk_un]); refine Prod.ext (funext fun z => ?_) rfl; simp only [setR]; (repeat' split) <;> first | rfl | (exfalso; omega))) ?_
            refine aw_iconst (pc := 83) (v := 0) C dX9_sheet_83 rfl ?_
            refine aw_istore (pc := 84) C [(4, .int 0), (0, .ref 73), (1, .int (nI ss)), (2, .int b), (3, .int n)] dX9_sheet_84 (Nat.le_of_ble_eq_true rfl) rfl ?_
            refine aw_lvs C [0, 1, 2, 3, 4] [(4, .int 0), (0, .ref 73), (1, .int (nI ss)), (2, .int b), (3, .int n)] rfl ?_
            refine aw_conv (σ' := setR (setR (setR σ 30 (upd (σ.1 30) ss (b))) 31 (upd (σ.1 31) ss (szv b n))) 32 (clr (σ.1 32) ss 0)) (lv' := [(4, .int (nI 0)), (0, .ref 73), (1, .int (nI ss)), (2, .int b), (3, .int n)]) (by rw [clr_0]; exact (setR_same (setR (setR σ 30 (upd (σ.1 30) ss b)) 31 (upd (σ.1 31) ss (szv b n))) 32).symm) rfl rfl ?_
            refine loop_up (P := fun k => AW _ K _ (setR (setR (setR σ 30 (upd (σ.1 30) ss (b))) 31 (upd (σ.1 31) ss (szv b n))) 32 (clr (σ.1 32) ss k)) 86 [(4, .int (nI k)), (0, .ref 73), (1, .int (nI ss)), (2, .int b), (3, .int n)] []) 40 ?_ ?_ 0 (by omega) 
            · refine aw_iload (pc := 86) C 0 dX9_sheet_86 rfl ?_
              refine aw_bipush (pc := 88) (v := 40) C dX9_sheet_88 rfl ?_
              refine aw_icmp_geN (pc := 90) C 40 40 112 rfl rfl (by omega) (by omega) dX9_sheet_90 (by decide) (fun h90 => ?_) (fun h90 => absurd h90 (by omega))
              refine aw_aload_n (pc := 112) C 1 dX9_sheet_112 rfl ?_
              refine aw_getR (pc := 113) C fl_X9_40 sh73 rfl dX9_sheet_113 ?_
              refine aw_iload_n (pc := 116) C 2 dX9_sheet_116 rfl ?_
              refine aw_ild (pc := 117) (k := ss) C (ss) (szv b n) sh84 dX9_sheet_117 rfl (by omega) rfl (by first | rfl | (simp (disch := omega) only [setR_at, setR_twice, setL_at, setL_twice, setR_2, setL_1, setR_ne, setL_ne, ne_eq, Nat.reduceEqDiff, not_false_eq_true, pk_us, pk_un]; done) | ((try simp (disch := omega) only [setR_at, setR_twice, setL_at, setL_twice, setR_2, setL_1, setR_ne, setL_ne, ne_eq, Nat.reduceEqDiff, not_false_eq_true, pk_us, pk_un]); refine Prod.ext (funext fun z => ?_) rfl; simp only [setR]; (repeat' split) <;> first | rfl | (exfalso; omega))) ?_
              exact aw_iretP (pc := 118) C rfl dX9_sheet_118 (ps_of (an' := .inr (szv b n, upd (σ.1 30) ss b, upd (σ.1 31) ss (szv b n), clr (σ.1 32) ss 40)) (by rw [sSheet, if_pos ⟨h4, Or.inl h8⟩, if_neg (Int32.not_lt.mpr h37), if_neg (Int32.not_lt.mpr h51), cl_nI (show ss < 2147483648 by omega)]) rfl rfl)
            · intro k hk86 ih86 
              refine aw_iload (pc := 86) C 0 dX9_sheet_86 rfl ?_
              refine aw_bipush (pc := 88) (v := 40) C dX9_sheet_88 rfl ?_
              refine aw_icmp_geN (pc := 90) C k 40 112 rfl rfl (by omega) (by omega) dX9_sheet_90 (by decide) (fun h90 => absurd h90 (by omega)) (fun h90 => ?_)
              refine aw_aload_n (pc := 93) C 1 dX9_sheet_93 rfl ?_
              refine aw_getR (pc := 94) C fl_X9_43 sh73 rfl dX9_sheet_94 ?_
              refine aw_bipush (pc := 97) (v := 40) C dX9_sheet_97 rfl ?_
              refine aw_iload_n (pc := 99) C 2 dX9_sheet_99 rfl ?_
              refine aw_imulN (pc := 100) C 40 ss rfl rfl dX9_sheet_100 ?_
              refine aw_iload (pc := 101) C 0 dX9_sheet_101 rfl ?_
              refine aw_iaddN (pc := 103) C (40 * ss) k rfl rfl dX9_sheet_103 ?_
              refine aw_iconst (pc := 104) (v := 0) C dX9_sheet_104 rfl ?_
              refine aw_ist (pc := 105) (k := (40 * ss) + k) C ((40 * ss) + k) (setR (setR (setR σ 30 (upd (σ.1 30) ss (b))) 31 (upd (σ.1 31) ss (szv b n))) 32 (upd (clr (σ.1 32) ss k) ((40 * ss) + k) (0))) sh85 dX9_sheet_105 rfl (by omega) rfl (by first | rfl | (simp (disch := omega) only [setR_at, setR_twice, setL_at, setL_twice, setR_2, setL_1, setR_ne, setL_ne, ne_eq, Nat.reduceEqDiff, not_false_eq_true, pk_us, pk_un]; done) | ((try simp (disch := omega) only [setR_at, setR_twice, setL_at, setL_twice, setR_2, setL_1, setR_ne, setL_ne, ne_eq, Nat.reduceEqDiff, not_false_eq_true, pk_us, pk_un]); refine Prod.ext (funext fun z => ?_) rfl; simp only [setR]; (repeat' split) <;> first | rfl | (exfalso; omega))) ?_
              refine aw_iincN (pc := 106) C 0 k [(4, .int (nI (k + 1))), (0, .ref 73), (1, .int (nI ss)), (2, .int b), (3, .int n)] dX9_sheet_106 rfl rfl rfl (Nat.le_of_ble_eq_true rfl) rfl ?_
              refine aw_goto (pc := 109) C 86 dX9_sheet_109 (by decide) ?_
              refine aw_lvs C [0, 1, 2, 3, 4] [(4, .int (nI (k + 1))), (0, .ref 73), (1, .int (nI ss)), (2, .int b), (3, .int n)] rfl ?_
              exact aw_conv (σ' := setR (setR (setR σ 30 (upd (σ.1 30) ss (b))) 31 (upd (σ.1 31) ss (szv b n))) 32 (clr (σ.1 32) ss (k + 1))) (lv' := [(4, .int (nI (k + 1))), (0, .ref 73), (1, .int (nI ss)), (2, .int b), (3, .int n)]) (by rw [clr_s]) rfl rfl ih86
          · refine aw_iconst (pc := 77) (v := 0) C dX9_sheet_77 rfl ?_
            refine aw_goto (pc := 78) C 82 dX9_sheet_78 (by decide) ?_
            refine aw_top C (szv b n) ((if_pos h74).symm) ?_
            refine aw_ist (pc := 82) (k := ss) C (ss) (setR (setR σ 30 (upd (σ.1 30) ss (b))) 31 (upd (σ.1 31) ss (szv b n))) sh84 dX9_sheet_82 rfl (by omega) rfl (by first | rfl | (simp (disch := omega) only [setR_at, setR_twice, setL_at, setL_twice, setR_2, setL_1, setR_ne, setL_ne, ne_eq, Nat.reduceEqDiff, not_false_eq_true, pk_us, pk_un]; done) | ((try simp (disch := omega) only [setR_at, setR_twice, setL_at, setL_twice, setR_2, setL_1, setR_ne, setL_ne, ne_eq, Nat.reduceEqDiff, not_false_eq_true, pk_us, pk_un]); refine Prod.ext (funext fun z => ?_) rfl; simp only [setR]; (repeat' split) <;> first | rfl | (exfalso; omega))) ?_
            refine aw_iconst (pc := 83) (v := 0) C dX9_sheet_83 rfl ?_
            refine aw_istore (pc := 84) C [(4, .int 0), (0, .ref 73), (1, .int (nI ss)), (2, .int b), (3, .int n)] dX9_sheet_84 (Nat.le_of_ble_eq_true rfl) rfl ?_
            refine aw_lvs C [0, 1, 2, 3, 4] [(4, .int 0), (0, .ref 73), (1, .int (nI ss)), (2, .int b), (3, .int n)] rfl ?_
            refine aw_conv (σ' := setR (setR (setR σ 30 (upd (σ.1 30) ss (b))) 31 (upd (σ.1 31) ss (szv b n))) 32 (clr (σ.1 32) ss 0)) (lv' := [(4, .int (nI 0)), (0, .ref 73), (1, .int (nI ss)), (2, .int b), (3, .int n)]) (by rw [clr_0]; exact (setR_same (setR (setR σ 30 (upd (σ.1 30) ss b)) 31 (upd (σ.1 31) ss (szv b n))) 32).symm) rfl rfl ?_
            refine loop_up (P := fun k => AW _ K _ (setR (setR (setR σ 30 (upd (σ.1 30) ss (b))) 31 (upd (σ.1 31) ss (szv b n))) 32 (clr (σ.1 32) ss k)) 86 [(4, .int (nI k)), (0, .ref 73), (1, .int (nI ss)), (2, .int b), (3, .int n)] []) 40 ?_ ?_ 0 (by omega) 
            · refine aw_iload (pc := 86) C 0 dX9_sheet_86 rfl ?_
              refine aw_bipush (pc := 88) (v := 40) C dX9_sheet_88 rfl ?_
              refine aw_icmp_geN (pc := 90) C 40 40 112 rfl rfl (by omega) (by omega) dX9_sheet_90 (by decide) (fun h90 => ?_) (fun h90 => absurd h90 (by omega))
              refine aw_aload_n (pc := 112) C 1 dX9_sheet_112 rfl ?_
              refine aw_getR (pc := 113) C fl_X9_40 sh73 rfl dX9_sheet_113 ?_
              refine aw_iload_n (pc := 116) C 2 dX9_sheet_116 rfl ?_
              refine aw_ild (pc := 117) (k := ss) C (ss) (szv b n) sh84 dX9_sheet_117 rfl (by omega) rfl (by first | rfl | (simp (disch := omega) only [setR_at, setR_twice, setL_at, setL_twice, setR_2, setL_1, setR_ne, setL_ne, ne_eq, Nat.reduceEqDiff, not_false_eq_true, pk_us, pk_un]; done) | ((try simp (disch := omega) only [setR_at, setR_twice, setL_at, setL_twice, setR_2, setL_1, setR_ne, setL_ne, ne_eq, Nat.reduceEqDiff, not_false_eq_true, pk_us, pk_un]); refine Prod.ext (funext fun z => ?_) rfl; simp only [setR]; (repeat' split) <;> first | rfl | (exfalso; omega))) ?_
              exact aw_iretP (pc := 118) C rfl dX9_sheet_118 (ps_of (an' := .inr (szv b n, upd (σ.1 30) ss b, upd (σ.1 31) ss (szv b n), clr (σ.1 32) ss 40)) (by rw [sSheet, if_pos ⟨h4, Or.inl h8⟩, if_neg (Int32.not_lt.mpr h37), if_neg (Int32.not_lt.mpr h51), cl_nI (show ss < 2147483648 by omega)]) rfl rfl)
            · intro k hk86 ih86 
              refine aw_iload (pc := 86) C 0 dX9_sheet_86 rfl ?_
              refine aw_bipush (pc := 88) (v := 40) C dX9_sheet_88 rfl ?_
              refine aw_icmp_geN (pc := 90) C k 40 112 rfl rfl (by omega) (by omega) dX9_sheet_90 (by decide) (fun h90 => absurd h90 (by omega)) (fun h90 => ?_)
              refine aw_aload_n (pc := 93) C 1 dX9_sheet_93 rfl ?_
              refine aw_getR (pc := 94) C fl_X9_43 sh73 rfl dX9_sheet_94 ?_
              refine aw_bipush (pc := 97) (v := 40) C dX9_sheet_97 rfl ?_
              refine aw_iload_n (pc := 99) C 2 dX9_sheet_99 rfl ?_
              refine aw_imulN (pc := 100) C 40 ss rfl rfl dX9_sheet_100 ?_
              refine aw_iload (pc := 101) C 0 dX9_sheet_101 rfl ?_
              refine aw_iaddN (pc := 103) C (40 * ss) k rfl rfl dX9_sheet_103 ?_
              refine aw_iconst (pc := 104) (v := 0) C dX9_sheet_104 rfl ?_
              refine aw_ist (pc := 105) (k := (40 * ss) + k) C ((40 * ss) + k) (setR (setR (setR σ 30 (upd (σ.1 30) ss (b))) 31 (upd (σ.1 31) ss (szv b n))) 32 (upd (clr (σ.1 32) ss k) ((40 * ss) + k) (0))) sh85 dX9_sheet_105 rfl (by omega) rfl (by first | rfl | (simp (disch := omega) only [setR_at, setR_twice, setL_at, setL_twice, setR_2, setL_1, setR_ne, setL_ne, ne_eq, Nat.reduceEqDiff, not_false_eq_true, pk_us, pk_un]; done) | ((try simp (disch := omega) only [setR_at, setR_twice, setL_at, setL_twice, setR_2, setL_1, setR_ne, setL_ne, ne_eq, Nat.reduceEqDiff, not_false_eq_true, pk_us, pk_un]); refine Prod.ext (funext fun z => ?_) rfl; simp only [setR]; (repeat' split) <;> first | rfl | (exfalso; omega))) ?_
              refine aw_iincN (pc := 106) C 0 k [(4, .int (nI (k + 1))), (0, .ref 73), (1, .int (nI ss)), (2, .int b), (3, .int n)] dX9_sheet_106 rfl rfl rfl (Nat.le_of_ble_eq_true rfl) rfl ?_
              refine aw_goto (pc := 109) C 86 dX9_sheet_109 (by decide) ?_
              refine aw_lvs C [0, 1, 2, 3, 4] [(4, .int (nI (k + 1))), (0, .ref 73), (1, .int (nI ss)), (2, .int b), (3, .int n)] rfl ?_
              exact aw_conv (σ' := setR (setR (setR σ 30 (upd (σ.1 30) ss (b))) 31 (upd (σ.1 31) ss (szv b n))) 32 (clr (σ.1 32) ss (k + 1))) (lv' := [(4, .int (nI (k + 1))), (0, .ref 73), (1, .int (nI ss)), (2, .int b), (3, .int n)]) (by rw [clr_s]) rfl rfl ih86
        · refine aw_aload_n (pc := 54) C 0 dX9_sheet_54 rfl ?_
          refine aw_ldc (pc := 55) C dX9_sheet_55 kc_X9_46 ?_
          refine aw_cVI (pc := 57) C (c_X9_finds _ (-100000001) 0 (by decide) (by decide)) lk_X9_48 sh73 rfl dX9_sheet_57 (by decide) (Nat.le_of_ble_eq_true rfl) rfl rfl ?_
          exact aw_iretP (pc := 60) C rfl dX9_sheet_60 (ps_of (an' := .inl 0) (by rw [sSheet, if_pos ⟨h4, Or.inl h8⟩, if_neg (Int32.not_lt.mpr h37), if_pos (Int32.not_le.mp h51)]) rfl rfl)
      · refine aw_aload_n (pc := 40) C 0 dX9_sheet_40 rfl ?_
        refine aw_ldcw (pc := 41) C dX9_sheet_41 kc_X9_327 ?_
        refine aw_cVI (pc := 44) C (c_X9_finds _ (-100000007) 6 (by decide) (by decide)) lk_X9_48 sh73 rfl dX9_sheet_44 (by decide) (Nat.le_of_ble_eq_true rfl) rfl rfl ?_
        exact aw_iretP (pc := 47) C rfl dX9_sheet_47 (ps_of (an' := .inl 6) (by rw [sSheet, if_pos ⟨h4, Or.inl h8⟩, if_pos (Int32.not_le.mp h37)]) rfl rfl)
    · refine aw_iload_n (pc := 11) C 2 dX9_sheet_11 rfl ?_
      refine aw_bipush (pc := 12) (v := 8) C dX9_sheet_12 rfl ?_
      refine aw_icmp_eq (pc := 14) C 36 dX9_sheet_14 (by decide) (fun h14 => ?_) (fun h14 => ?_)
      · refine aw_iload_n (pc := 36) C 3 dX9_sheet_36 rfl ?_
        refine aw_if_ge (pc := 37) C 48 dX9_sheet_37 (by decide) (fun h37 => ?_) (fun h37 => ?_)
        · refine aw_iload_n (pc := 48) C 3 dX9_sheet_48 rfl ?_
          refine aw_bipush (pc := 49) (v := 40) C dX9_sheet_49 rfl ?_
          refine aw_icmp_le (pc := 51) C 61 dX9_sheet_51 (by decide) (fun h51 => ?_) (fun h51 => ?_)
          · obtain ⟨ss, rfl, hss0, hss⟩ := rg 0 3 h4 (by omega) (by omega)
            refine aw_aload_n (pc := 61) C 0 dX9_sheet_61 rfl ?_
            refine aw_getR (pc := 62) C fl_X9_37 sh73 rfl dX9_sheet_62 ?_
            refine aw_iload_n (pc := 65) C 1 dX9_sheet_65 rfl ?_
            refine aw_iload_n (pc := 66) C 2 dX9_sheet_66 rfl ?_
            refine aw_ist (pc := 67) (k := ss) C (ss) (setR σ 30 (upd (σ.1 30) ss (b))) sh83 dX9_sheet_67 rfl (by omega) rfl rfl ?_
            refine aw_aload_n (pc := 68) C 0 dX9_sheet_68 rfl ?_
            refine aw_getR (pc := 69) C fl_X9_40 sh73 rfl dX9_sheet_69 ?_
            refine aw_iload_n (pc := 72) C 1 dX9_sheet_72 rfl ?_
            refine aw_iload_n (pc := 73) C 2 dX9_sheet_73 rfl ?_
            refine aw_if_ne (pc := 74) C 81 dX9_sheet_74 (by decide) (fun h74 => ?_) (fun h74 => ?_)
            · refine aw_iload_n (pc := 81) C 3 dX9_sheet_81 rfl ?_
              refine aw_top C (szv b n) ((if_neg h74).symm) ?_
              refine aw_ist (pc := 82) (k := ss) C (ss) (setR (setR σ 30 (upd (σ.1 30) ss (b))) 31 (upd (σ.1 31) ss (szv b n))) sh84 dX9_sheet_82 rfl (by omega) rfl (by first | rfl | (simp (disch := omega) only [setR_at, setR_twice, setL_at, setL_twice, setR_2, setL_1, setR_ne, setL_ne, ne_eq, Nat.reduceEqDiff, not_false_eq_true, pk_us, pk_un]; done) | ((try simp (disch := omega) only [setR_at, setR_twice, setL_at, setL_twice, setR_2, setL_1, setR_ne, setL_ne, ne_eq, Nat.reduceEqDiff, not_false_eq_true, pk_us, pk_un]); refine Prod.ext (funext fun z => ?_) rfl; simp only [setR]; (repeat' split) <;> first | rfl | (exfalso; omega))) ?_
              refine aw_iconst (pc := 83) (v := 0) C dX9_sheet_83 rfl ?_
              refine aw_istore (pc := 84) C [(4, .int 0), (0, .ref 73), (1, .int (nI ss)), (2, .int b), (3, .int n)] dX9_sheet_84 (Nat.le_of_ble_eq_true rfl) rfl ?_
              refine aw_lvs C [0, 1, 2, 3, 4] [(4, .int 0), (0, .ref 73), (1, .int (nI ss)), (2, .int b), (3, .int n)] rfl ?_
              refine aw_conv (σ' := setR (setR (setR σ 30 (upd (σ.1 30) ss (b))) 31 (upd (σ.1 31) ss (szv b n))) 32 (clr (σ.1 32) ss 0)) (lv' := [(4, .int (nI 0)), (0, .ref 73), (1, .int (nI ss)), (2, .int b), (3, .int n)]) (by rw [clr_0]; exact (setR_same (setR (setR σ 30 (upd (σ.1 30) ss b)) 31 (upd (σ.1 31) ss (szv b n))) 32).symm) rfl rfl ?_
              refine loop_up (P := fun k => AW _ K _ (setR (setR (setR σ 30 (upd (σ.1 30) ss (b))) 31 (upd (σ.1 31) ss (szv b n))) 32 (clr (σ.1 32) ss k)) 86 [(4, .int (nI k)), (0, .ref 73), (1, .int (nI ss)), (2, .int b), (3, .int n)] []) 40 ?_ ?_ 0 (by omega) 
              · refine aw_iload (pc := 86) C 0 dX9_sheet_86 rfl ?_
                refine aw_bipush (pc := 88) (v := 40) C dX9_sheet_88 rfl ?_
                refine aw_icmp_geN (pc := 90) C 40 40 112 rfl rfl (by omega) (by omega) dX9_sheet_90 (by decide) (fun h90 => ?_) (fun h90 => absurd h90 (by omega))
                refine aw_aload_n (pc := 112) C 1 dX9_sheet_112 rfl ?_
                refine aw_getR (pc := 113) C fl_X9_40 sh73 rfl dX9_sheet_113 ?_
                refine aw_iload_n (pc := 116) C 2 dX9_sheet_116 rfl ?_
                refine aw_ild (pc := 117) (k := ss) C (ss) (szv b n) sh84 dX9_sheet_117 rfl (by omega) rfl (by first | rfl | (simp (disch := omega) only [setR_at, setR_twice, setL_at, setL_twice, setR_2, setL_1, setR_ne, setL_ne, ne_eq, Nat.reduceEqDiff, not_false_eq_true, pk_us, pk_un]; done) | ((try simp (disch := omega) only [setR_at, setR_twice, setL_at, setL_twice, setR_2, setL_1, setR_ne, setL_ne, ne_eq, Nat.reduceEqDiff, not_false_eq_true, pk_us, pk_un]); refine Prod.ext (funext fun z => ?_) rfl; simp only [setR]; (repeat' split) <;> first | rfl | (exfalso; omega))) ?_
                exact aw_iretP (pc := 118) C rfl dX9_sheet_118 (ps_of (an' := .inr (szv b n, upd (σ.1 30) ss b, upd (σ.1 31) ss (szv b n), clr (σ.1 32) ss 40)) (by rw [sSheet, if_pos ⟨h4, Or.inr (Or.inl h14)⟩, if_neg (Int32.not_lt.mpr h37), if_neg (Int32.not_lt.mpr h51), cl_nI (show ss < 2147483648 by omega)]) rfl rfl)
              · intro k hk86 ih86 
                refine aw_iload (pc := 86) C 0 dX9_sheet_86 rfl ?_
                refine aw_bipush (pc := 88) (v := 40) C dX9_sheet_88 rfl ?_
                refine aw_icmp_geN (pc := 90) C k 40 112 rfl rfl (by omega) (by omega) dX9_sheet_90 (by decide) (fun h90 => absurd h90 (by omega)) (fun h90 => ?_)
                refine aw_aload_n (pc := 93) C 1 dX9_sheet_93 rfl ?_
                refine aw_getR (pc := 94) C fl_X9_43 sh73 rfl dX9_sheet_94 ?_
                refine aw_bipush (pc := 97) (v := 40) C dX9_sheet_97 rfl ?_
                refine aw_iload_n (pc := 99) C 2 dX9_sheet_99 rfl ?_
                refine aw_imulN (pc := 100) C 40 ss rfl rfl dX9_sheet_100 ?_
                refine aw_iload (pc := 101) C 0 dX9_sheet_101 rfl ?_
                refine aw_iaddN (pc := 103) C (40 * ss) k rfl rfl dX9_sheet_103 ?_
                refine aw_iconst (pc := 104) (v := 0) C dX9_sheet_104 rfl ?_
                refine aw_ist (pc := 105) (k := (40 * ss) + k) C ((40 * ss) + k) (setR (setR (setR σ 30 (upd (σ.1 30) ss (b))) 31 (upd (σ.1 31) ss (szv b n))) 32 (upd (clr (σ.1 32) ss k) ((40 * ss) + k) (0))) sh85 dX9_sheet_105 rfl (by omega) rfl (by first | rfl | (simp (disch := omega) only [setR_at, setR_twice, setL_at, setL_twice, setR_2, setL_1, setR_ne, setL_ne, ne_eq, Nat.reduceEqDiff, not_false_eq_true, pk_us, pk_un]; done) | ((try simp (disch := omega) only [setR_at, setR_twice, setL_at, setL_twice, setR_2, setL_1, setR_ne, setL_ne, ne_eq, Nat.reduceEqDiff, not_false_eq_true, pk_us, pk_un]); refine Prod.ext (funext fun z => ?_) rfl; simp only [setR]; (repeat' split) <;> first | rfl | (exfalso; omega))) ?_
                refine aw_iincN (pc := 106) C 0 k [(4, .int (nI (k + 1))), (0, .ref 73), (1, .int (nI ss)), (2, .int b), (3, .int n)] dX9_sheet_106 rfl rfl rfl (Nat.le_of_ble_eq_true rfl) rfl ?_
                refine aw_goto (pc := 109) C 86 dX9_sheet_109 (by decide) ?_
                refine aw_lvs C [0, 1, 2, 3, 4] [(4, .int (nI (k + 1))), (0, .ref 73), (1, .int (nI ss)), (2, .int b), (3, .int n)] rfl ?_
                exact aw_conv (σ' := setR (setR (setR σ 30 (upd (σ.1 30) ss (b))) 31 (upd (σ.1 31) ss (szv b n))) 32 (clr (σ.1 32) ss (k + 1))) (lv' := [(4, .int (nI (k + 1))), (0, .ref 73), (1, .int (nI ss)), (2, .int b), (3, .int n)]) (by rw [clr_s]) rfl rfl ih86
            · refine aw_iconst (pc := 77) (v := 0) C dX9_sheet_77 rfl ?_
              refine aw_goto (pc := 78) C 82 dX9_sheet_78 (by decide) ?_
              refine aw_top C (szv b n) ((if_pos h74).symm) ?_
              refine aw_ist (pc := 82) (k := ss) C (ss) (setR (setR σ 30 (upd (σ.1 30) ss (b))) 31 (upd (σ.1 31) ss (szv b n))) sh84 dX9_sheet_82 rfl (by omega) rfl (by first | rfl | (simp (disch := omega) only [setR_at, setR_twice, setL_at, setL_twice, setR_2, setL_1, setR_ne, setL_ne, ne_eq, Nat.reduceEqDiff, not_false_eq_true, pk_us, pk_un]; done) | ((try simp (disch := omega) only [setR_at, setR_twice, setL_at, setL_twice, setR_2, setL_1, setR_ne, setL_ne, ne_eq, Nat.reduceEqDiff, not_false_eq_true, pk_us, pk_un]); refine Prod.ext (funext fun z => ?_) rfl; simp only [setR]; (repeat' split) <;> first | rfl | (exfalso; omega))) ?_
              refine aw_iconst (pc := 83) (v := 0) C dX9_sheet_83 rfl ?_
              refine aw_istore (pc := 84) C [(4, .int 0), (0, .ref 73), (1, .int (nI ss)), (2, .int b), (3, .int n)] dX9_sheet_84 (Nat.le_of_ble_eq_true rfl) rfl ?_
              refine aw_lvs C [0, 1, 2, 3, 4] [(4, .int 0), (0, .ref 73), (1, .int (nI ss)), (2, .int b), (3, .int n)] rfl ?_
              refine aw_conv (σ' := setR (setR (setR σ 30 (upd (σ.1 30) ss (b))) 31 (upd (σ.1 31) ss (szv b n))) 32 (clr (σ.1 32) ss 0)) (lv' := [(4, .int (nI 0)), (0, .ref 73), (1, .int (nI ss)), (2, .int b), (3, .int n)]) (by rw [clr_0]; exact (setR_same (setR (setR σ 30 (upd (σ.1 30) ss b)) 31 (upd (σ.1 31) ss (szv b n))) 32).symm) rfl rfl ?_
              refine loop_up (P := fun k => AW _ K _ (setR (setR (setR σ 30 (upd (σ.1 30) ss (b))) 31 (upd (σ.1 31) ss (szv b n))) 32 (clr (σ.1 32) ss k)) 86 [(4, .int (nI k)), (0, .ref 73), (1, .int (nI ss)), (2, .int b), (3, .int n)] []) 40 ?_ ?_ 0 (by omega) 
              · refine aw_iload (pc := 86) C 0 dX9_sheet_86 rfl ?_
                refine aw_bipush (pc := 88) (v := 40) C dX9_sheet_88 rfl ?_
                refine aw_icmp_geN (pc := 90) C 40 40 112 rfl rfl (by omega) (by omega) dX9_sheet_90 (by decide) (fun h90 => ?_) (fun h90 => absurd h90 (by omega))
                refine aw_aload_n (pc := 112) C 1 dX9_sheet_112 rfl ?_
                refine aw_getR (pc := 113) C fl_X9_40 sh73 rfl dX9_sheet_113 ?_
                refine aw_iload_n (pc := 116) C 2 dX9_sheet_116 rfl ?_
                refine aw_ild (pc := 117) (k := ss) C (ss) (szv b n) sh84 dX9_sheet_117 rfl (by omega) rfl (by first | rfl | (simp (disch := omega) only [setR_at, setR_twice, setL_at, setL_twice, setR_2, setL_1, setR_ne, setL_ne, ne_eq, Nat.reduceEqDiff, not_false_eq_true, pk_us, pk_un]; done) | ((try simp (disch := omega) only [setR_at, setR_twice, setL_at, setL_twice, setR_2, setL_1, setR_ne, setL_ne, ne_eq, Nat.reduceEqDiff, not_false_eq_true, pk_us, pk_un]); refine Prod.ext (funext fun z => ?_) rfl; simp only [setR]; (repeat' split) <;> first | rfl | (exfalso; omega))) ?_
                exact aw_iretP (pc := 118) C rfl dX9_sheet_118 (ps_of (an' := .inr (szv b n, upd (σ.1 30) ss b, upd (σ.1 31) ss (szv b n), clr (σ.1 32) ss 40)) (by rw [sSheet, if_pos ⟨h4, Or.inr (Or.inl h14)⟩, if_neg (Int32.not_lt.mpr h37), if_neg (Int32.not_lt.mpr h51), cl_nI (show ss < 2147483648 by omega)]) rfl rfl)
              · intro k hk86 ih86 
                refine aw_iload (pc := 86) C 0 dX9_sheet_86 rfl ?_
                refine aw_bipush (pc := 88) (v := 40) C dX9_sheet_88 rfl ?_
                refine aw_icmp_geN (pc := 90) C k 40 112 rfl rfl (by omega) (by omega) dX9_sheet_90 (by decide) (fun h90 => absurd h90 (by omega)) (fun h90 => ?_)
                refine aw_aload_n (pc := 93) C 1 dX9_sheet_93 rfl ?_
                refine aw_getR (pc := 94) C fl_X9_43 sh73 rfl dX9_sheet_94 ?_
                refine aw_bipush (pc := 97) (v := 40) C dX9_sheet_97 rfl ?_
                refine aw_iload_n (pc := 99) C 2 dX9_sheet_99 rfl ?_
                refine aw_imulN (pc := 100) C 40 ss rfl rfl dX9_sheet_100 ?_
                refine aw_iload (pc := 101) C 0 dX9_sheet_101 rfl ?_
                refine aw_iaddN (pc := 103) C (40 * ss) k rfl rfl dX9_sheet_103 ?_
                refine aw_iconst (pc := 104) (v := 0) C dX9_sheet_104 rfl ?_
                refine aw_ist (pc := 105) (k := (40 * ss) + k) C ((40 * ss) + k) (setR (setR (setR σ 30 (upd (σ.1 30) ss (b))) 31 (upd (σ.1 31) ss (szv b n))) 32 (upd (clr (σ.1 32) ss k) ((40 * ss) + k) (0))) sh85 dX9_sheet_105 rfl (by omega) rfl (by first | rfl | (simp (disch := omega) only [setR_at, setR_twice, setL_at, setL_twice, setR_2, setL_1, setR_ne, setL_ne, ne_eq, Nat.reduceEqDiff, not_false_eq_true, pk_us, pk_un]; done) | ((try simp (disch := omega) only [setR_at, setR_twice, setL_at, setL_twice, setR_2, setL_1, setR_ne, setL_ne, ne_eq, Nat.reduceEqDiff, not_false_eq_true, pk_us, pk_un]); refine Prod.ext (funext fun z => ?_) rfl; simp only [setR]; (repeat' split) <;> first | rfl | (exfalso; omega))) ?_
                refine aw_iincN (pc := 106) C 0 k [(4, .int (nI (k + 1))), (0, .ref 73), (1, .int (nI ss)), (2, .int b), (3, .int n)] dX9_sheet_106 rfl rfl rfl (Nat.le_of_ble_eq_true rfl) rfl ?_
                refine aw_goto (pc := 109) C 86 dX9_sheet_109 (by decide) ?_
                refine aw_lvs C [0, 1, 2, 3, 4] [(4, .int (nI (k + 1))), (0, .ref 73), (1, .int (nI ss)), (2, .int b), (3, .int n)] rfl ?_
                exact aw_conv (σ' := setR (setR (setR σ 30 (upd (σ.1 30) ss (b))) 31 (upd (σ.1 31) ss (szv b n))) 32 (clr (σ.1 32) ss (k + 1))) (lv' := [(4, .int (nI (k + 1))), (0, .ref 73), (1, .int (nI ss)), (2, .int b), (3, .int n)]) (by rw [clr_s]) rfl rfl ih86
          · refine aw_aload_n (pc := 54) C 0 dX9_sheet_54 rfl ?_
            refine aw_ldc (pc := 55) C dX9_sheet_55 kc_X9_46 ?_
            refine aw_cVI (pc := 57) C (c_X9_finds _ (-100000001) 0 (by decide) (by decide)) lk_X9_48 sh73 rfl dX9_sheet_57 (by decide) (Nat.le_of_ble_eq_true rfl) rfl rfl ?_
            exact aw_iretP (pc := 60) C rfl dX9_sheet_60 (ps_of (an' := .inl 0) (by rw [sSheet, if_pos ⟨h4, Or.inr (Or.inl h14)⟩, if_neg (Int32.not_lt.mpr h37), if_pos (Int32.not_le.mp h51)]) rfl rfl)
        · refine aw_aload_n (pc := 40) C 0 dX9_sheet_40 rfl ?_
          refine aw_ldcw (pc := 41) C dX9_sheet_41 kc_X9_327 ?_
          refine aw_cVI (pc := 44) C (c_X9_finds _ (-100000007) 6 (by decide) (by decide)) lk_X9_48 sh73 rfl dX9_sheet_44 (by decide) (Nat.le_of_ble_eq_true rfl) rfl rfl ?_
          exact aw_iretP (pc := 47) C rfl dX9_sheet_47 (ps_of (an' := .inl 6) (by rw [sSheet, if_pos ⟨h4, Or.inr (Or.inl h14)⟩, if_pos (Int32.not_le.mp h37)]) rfl rfl)
      · refine aw_iload_n (pc := 17) C 2 dX9_sheet_17 rfl ?_
        refine aw_bipush (pc := 18) (v := 16) C dX9_sheet_18 rfl ?_
        refine aw_icmp_eq (pc := 20) C 36 dX9_sheet_20 (by decide) (fun h20 => ?_) (fun h20 => ?_)
        · refine aw_iload_n (pc := 36) C 3 dX9_sheet_36 rfl ?_
          refine aw_if_ge (pc := 37) C 48 dX9_sheet_37 (by decide) (fun h37 => ?_) (fun h37 => ?_)
          · refine aw_iload_n (pc := 48) C 3 dX9_sheet_48 rfl ?_
            refine aw_bipush (pc := 49) (v := 40) C dX9_sheet_49 rfl ?_
            refine aw_icmp_le (pc := 51) C 61 dX9_sheet_51 (by decide) (fun h51 => ?_) (fun h51 => ?_)
            · obtain ⟨ss, rfl, hss0, hss⟩ := rg 0 3 h4 (by omega) (by omega)
              refine aw_aload_n (pc := 61) C 0 dX9_sheet_61 rfl ?_
              refine aw_getR (pc := 62) C fl_X9_37 sh73 rfl dX9_sheet_62 ?_
              refine aw_iload_n (pc := 65) C 1 dX9_sheet_65 rfl ?_
              refine aw_iload_n (pc := 66) C 2 dX9_sheet_66 rfl ?_
              refine aw_ist (pc := 67) (k := ss) C (ss) (setR σ 30 (upd (σ.1 30) ss (b))) sh83 dX9_sheet_67 rfl (by omega) rfl rfl ?_
              refine aw_aload_n (pc := 68) C 0 dX9_sheet_68 rfl ?_
              refine aw_getR (pc := 69) C fl_X9_40 sh73 rfl dX9_sheet_69 ?_
              refine aw_iload_n (pc := 72) C 1 dX9_sheet_72 rfl ?_
              refine aw_iload_n (pc := 73) C 2 dX9_sheet_73 rfl ?_
              refine aw_if_ne (pc := 74) C 81 dX9_sheet_74 (by decide) (fun h74 => ?_) (fun h74 => ?_)
              · refine aw_iload_n (pc := 81) C 3 dX9_sheet_81 rfl ?_
                refine aw_top C (szv b n) ((if_neg h74).symm) ?_
                refine aw_ist (pc := 82) (k := ss) C (ss) (setR (setR σ 30 (upd (σ.1 30) ss (b))) 31 (upd (σ.1 31) ss (szv b n))) sh84 dX9_sheet_82 rfl (by omega) rfl (by first | rfl | (simp (disch := omega) only [setR_at, setR_twice, setL_at, setL_twice, setR_2, setL_1, setR_ne, setL_ne, ne_eq, Nat.reduceEqDiff, not_false_eq_true, pk_us, pk_un]; done) | ((try simp (disch := omega) only [setR_at, setR_twice, setL_at, setL_twice, setR_2, setL_1, setR_ne, setL_ne, ne_eq, Nat.reduceEqDiff, not_false_eq_true, pk_us, pk_un]); refine Prod.ext (funext fun z => ?_) rfl; simp only [setR]; (repeat' split) <;> first | rfl | (exfalso; omega))) ?_
                refine aw_iconst (pc := 83) (v := 0) C dX9_sheet_83 rfl ?_
                refine aw_istore (pc := 84) C [(4, .int 0), (0, .ref 73), (1, .int (nI ss)), (2, .int b), (3, .int n)] dX9_sheet_84 (Nat.le_of_ble_eq_true rfl) rfl ?_
                refine aw_lvs C [0, 1, 2, 3, 4] [(4, .int 0), (0, .ref 73), (1, .int (nI ss)), (2, .int b), (3, .int n)] rfl ?_
                refine aw_conv (σ' := setR (setR (setR σ 30 (upd (σ.1 30) ss (b))) 31 (upd (σ.1 31) ss (szv b n))) 32 (clr (σ.1 32) ss 0)) (lv' := [(4, .int (nI 0)), (0, .ref 73), (1, .int (nI ss)), (2, .int b), (3, .int n)]) (by rw [clr_0]; exact (setR_same (setR (setR σ 30 (upd (σ.1 30) ss b)) 31 (upd (σ.1 31) ss (szv b n))) 32).symm) rfl rfl ?_
                refine loop_up (P := fun k => AW _ K _ (setR (setR (setR σ 30 (upd (σ.1 30) ss (b))) 31 (upd (σ.1 31) ss (szv b n))) 32 (clr (σ.1 32) ss k)) 86 [(4, .int (nI k)), (0, .ref 73), (1, .int (nI ss)), (2, .int b), (3, .int n)] []) 40 ?_ ?_ 0 (by omega) 
                · refine aw_iload (pc := 86) C 0 dX9_sheet_86 rfl ?_
                  refine aw_bipush (pc := 88) (v := 40) C dX9_sheet_88 rfl ?_
                  refine aw_icmp_geN (pc := 90) C 40 40 112 rfl rfl (by omega) (by omega) dX9_sheet_90 (by decide) (fun h90 => ?_) (fun h90 => absurd h90 (by omega))
                  refine aw_aload_n (pc := 112) C 1 dX9_sheet_112 rfl ?_
                  refine aw_getR (pc := 113) C fl_X9_40 sh73 rfl dX9_sheet_113 ?_
                  refine aw_iload_n (pc := 116) C 2 dX9_sheet_116 rfl ?_
                  refine aw_ild (pc := 117) (k := ss) C (ss) (szv b n) sh84 dX9_sheet_117 rfl (by omega) rfl (by first | rfl | (simp (disch := omega) only [setR_at, setR_twice, setL_at, setL_twice, setR_2, setL_1, setR_ne, setL_ne, ne_eq, Nat.reduceEqDiff, not_false_eq_true, pk_us, pk_un]; done) | ((try simp (disch := omega) only [setR_at, setR_twice, setL_at, setL_twice, setR_2, setL_1, setR_ne, setL_ne, ne_eq, Nat.reduceEqDiff, not_false_eq_true, pk_us, pk_un]); refine Prod.ext (funext fun z => ?_) rfl; simp only [setR]; (repeat' split) <;> first | rfl | (exfalso; omega))) ?_
                  exact aw_iretP (pc := 118) C rfl dX9_sheet_118 (ps_of (an' := .inr (szv b n, upd (σ.1 30) ss b, upd (σ.1 31) ss (szv b n), clr (σ.1 32) ss 40)) (by rw [sSheet, if_pos ⟨h4, Or.inr (Or.inr (Or.inl h20))⟩, if_neg (Int32.not_lt.mpr h37), if_neg (Int32.not_lt.mpr h51), cl_nI (show ss < 2147483648 by omega)]) rfl rfl)
                · intro k hk86 ih86 
                  refine aw_iload (pc := 86) C 0 dX9_sheet_86 rfl ?_
                  refine aw_bipush (pc := 88) (v := 40) C dX9_sheet_88 rfl ?_
                  refine aw_icmp_geN (pc := 90) C k 40 112 rfl rfl (by omega) (by omega) dX9_sheet_90 (by decide) (fun h90 => absurd h90 (by omega)) (fun h90 => ?_)
                  refine aw_aload_n (pc := 93) C 1 dX9_sheet_93 rfl ?_
                  refine aw_getR (pc := 94) C fl_X9_43 sh73 rfl dX9_sheet_94 ?_
                  refine aw_bipush (pc := 97) (v := 40) C dX9_sheet_97 rfl ?_
                  refine aw_iload_n (pc := 99) C 2 dX9_sheet_99 rfl ?_
                  refine aw_imulN (pc := 100) C 40 ss rfl rfl dX9_sheet_100 ?_
                  refine aw_iload (pc := 101) C 0 dX9_sheet_101 rfl ?_
                  refine aw_iaddN (pc := 103) C (40 * ss) k rfl rfl dX9_sheet_103 ?_
                  refine aw_iconst (pc := 104) (v := 0) C dX9_sheet_104 rfl ?_
                  refine aw_ist (pc := 105) (k := (40 * ss) + k) C ((40 * ss) + k) (setR (setR (setR σ 30 (upd (σ.1 30) ss (b))) 31 (upd (σ.1 31) ss (szv b n))) 32 (upd (clr (σ.1 32) ss k) ((40 * ss) + k) (0))) sh85 dX9_sheet_105 rfl (by omega) rfl (by first | rfl | (simp (disch := omega) only [setR_at, setR_twice, setL_at, setL_twice, setR_2, setL_1, setR_ne, setL_ne, ne_eq, Nat.reduceEqDiff, not_false_eq_true, pk_us, pk_un]; done) | ((try simp (disch := omega) only [setR_at, setR_twice, setL_at, setL_twice, setR_2, setL_1, setR_ne, setL_ne, ne_eq, Nat.reduceEqDiff, not_false_eq_true, pk_us, pk_un]); refine Prod.ext (funext fun z => ?_) rfl; simp only [setR]; (repeat' split) <;> first | rfl | (exfalso; omega))) ?_
                  refine aw_iincN (pc := 106) C 0 k [(4, .int (nI (k + 1))), (0, .ref 73), (1, .int (nI ss)), (2, .int b), (3, .int n)] dX9_sheet_106 rfl rfl rfl (Nat.le_of_ble_eq_true rfl) rfl ?_
                  refine aw_goto (pc := 109) C 86 dX9_sheet_109 (by decide) ?_
                  refine aw_lvs C [0, 1, 2, 3, 4] [(4, .int (nI (k + 1))), (0, .ref 73), (1, .int (nI ss)), (2, .int b), (3, .int n)] rfl ?_
                  exact aw_conv (σ' := setR (setR (setR σ 30 (upd (σ.1 30) ss (b))) 31 (upd (σ.1 31) ss (szv b n))) 32 (clr (σ.1 32) ss (k + 1))) (lv' := [(4, .int (nI (k + 1))), (0, .ref 73), (1, .int (nI ss)), (2, .int b), (3, .int n)]) (by rw [clr_s]) rfl rfl ih86
              · refine aw_iconst (pc := 77) (v := 0) C dX9_sheet_77 rfl ?_
                refine aw_goto (pc := 78) C 82 dX9_sheet_78 (by decide) ?_
                refine aw_top C (szv b n) ((if_pos h74).symm) ?_
                refine aw_ist (pc := 82) (k := ss) C (ss) (setR (setR σ 30 (upd (σ.1 30) ss (b))) 31 (upd (σ.1 31) ss (szv b n))) sh84 dX9_sheet_82 rfl (by omega) rfl (by first | rfl | (simp (disch := omega) only [setR_at, setR_twice, setL_at, setL_twice, setR_2, setL_1, setR_ne, setL_ne, ne_eq, Nat.reduceEqDiff, not_false_eq_true, pk_us, pk_un]; done) | ((try simp (disch := omega) only [setR_at, setR_twice, setL_at, setL_twice, setR_2, setL_1, setR_ne, setL_ne, ne_eq, Nat.reduceEqDiff, not_false_eq_true, pk_us, pk_un]); refine Prod.ext (funext fun z => ?_) rfl; simp only [setR]; (repeat' split) <;> first | rfl | (exfalso; omega))) ?_
                refine aw_iconst (pc := 83) (v := 0) C dX9_sheet_83 rfl ?_
                refine aw_istore (pc := 84) C [(4, .int 0), (0, .ref 73), (1, .int (nI ss)), (2, .int b), (3, .int n)] dX9_sheet_84 (Nat.le_of_ble_eq_true rfl) rfl ?_
                refine aw_lvs C [0, 1, 2, 3, 4] [(4, .int 0), (0, .ref 73), (1, .int (nI ss)), (2, .int b), (3, .int n)] rfl ?_
                refine aw_conv (σ' := setR (setR (setR σ 30 (upd (σ.1 30) ss (b))) 31 (upd (σ.1 31) ss (szv b n))) 32 (clr (σ.1 32) ss 0)) (lv' := [(4, .int (nI 0)), (0, .ref 73), (1, .int (nI ss)), (2, .int b), (3, .int n)]) (by rw [clr_0]; exact (setR_same (setR (setR σ 30 (upd (σ.1 30) ss b)) 31 (upd (σ.1 31) ss (szv b n))) 32).symm) rfl rfl ?_
                refine loop_up (P := fun k => AW _ K _ (setR (setR (setR σ 30 (upd (σ.1 30) ss (b))) 31 (upd (σ.1 31) ss (szv b n))) 32 (clr (σ.1 32) ss k)) 86 [(4, .int (nI k)), (0, .ref 73), (1, .int (nI ss)), (2, .int b), (3, .int n)] []) 40 ?_ ?_ 0 (by omega) 
                · refine aw_iload (pc := 86) C 0 dX9_sheet_86 rfl ?_
                  refine aw_bipush (pc := 88) (v := 40) C dX9_sheet_88 rfl ?_
                  refine aw_icmp_geN (pc := 90) C 40 40 112 rfl rfl (by omega) (by omega) dX9_sheet_90 (by decide) (fun h90 => ?_) (fun h90 => absurd h90 (by omega))
                  refine aw_aload_n (pc := 112) C 1 dX9_sheet_112 rfl ?_
                  refine aw_getR (pc := 113) C fl_X9_40 sh73 rfl dX9_sheet_113 ?_
                  refine aw_iload_n (pc := 116) C 2 dX9_sheet_116 rfl ?_
                  refine aw_ild (pc := 117) (k := ss) C (ss) (szv b n) sh84 dX9_sheet_117 rfl (by omega) rfl (by first | rfl | (simp (disch := omega) only [setR_at, setR_twice, setL_at, setL_twice, setR_2, setL_1, setR_ne, setL_ne, ne_eq, Nat.reduceEqDiff, not_false_eq_true, pk_us, pk_un]; done) | ((try simp (disch := omega) only [setR_at, setR_twice, setL_at, setL_twice, setR_2, setL_1, setR_ne, setL_ne, ne_eq, Nat.reduceEqDiff, not_false_eq_true, pk_us, pk_un]); refine Prod.ext (funext fun z => ?_) rfl; simp only [setR]; (repeat' split) <;> first | rfl | (exfalso; omega))) ?_
                  exact aw_iretP (pc := 118) C rfl dX9_sheet_118 (ps_of (an' := .inr (szv b n, upd (σ.1 30) ss b, upd (σ.1 31) ss (szv b n), clr (σ.1 32) ss 40)) (by rw [sSheet, if_pos ⟨h4, Or.inr (Or.inr (Or.inl h20))⟩, if_neg (Int32.not_lt.mpr h37), if_neg (Int32.not_lt.mpr h51), cl_nI (show ss < 2147483648 by omega)]) rfl rfl)
                · intro k hk86 ih86 
                  refine aw_iload (pc := 86) C 0 dX9_sheet_86 rfl ?_
                  refine aw_bipush (pc := 88) (v := 40) C dX9_sheet_88 rfl ?_
                  refine aw_icmp_geN (pc := 90) C k 40 112 rfl rfl (by omega) (by omega) dX9_sheet_90 (by decide) (fun h90 => absurd h90 (by omega)) (fun h90 => ?_)
                  refine aw_aload_n (pc := 93) C 1 dX9_sheet_93 rfl ?_
                  refine aw_getR (pc := 94) C fl_X9_43 sh73 rfl dX9_sheet_94 ?_
                  refine aw_bipush (pc := 97) (v := 40) C dX9_sheet_97 rfl ?_
                  refine aw_iload_n (pc := 99) C 2 dX9_sheet_99 rfl ?_
                  refine aw_imulN (pc := 100) C 40 ss rfl rfl dX9_sheet_100 ?_
                  refine aw_iload (pc := 101) C 0 dX9_sheet_101 rfl ?_
                  refine aw_iaddN (pc := 103) C (40 * ss) k rfl rfl dX9_sheet_103 ?_
                  refine aw_iconst (pc := 104) (v := 0) C dX9_sheet_104 rfl ?_
                  refine aw_ist (pc := 105) (k := (40 * ss) + k) C ((40 * ss) + k) (setR (setR (setR σ 30 (upd (σ.1 30) ss (b))) 31 (upd (σ.1 31) ss (szv b n))) 32 (upd (clr (σ.1 32) ss k) ((40 * ss) + k) (0))) sh85 dX9_sheet_105 rfl (by omega) rfl (by first | rfl | (simp (disch := omega) only [setR_at, setR_twice, setL_at, setL_twice, setR_2, setL_1, setR_ne, setL_ne, ne_eq, Nat.reduceEqDiff, not_false_eq_true, pk_us, pk_un]; done) | ((try simp (disch := omega) only [setR_at, setR_twice, setL_at, setL_twice, setR_2, setL_1, setR_ne, setL_ne, ne_eq, Nat.reduceEqDiff, not_false_eq_true, pk_us, pk_un]); refine Prod.ext (funext fun z => ?_) rfl; simp only [setR]; (repeat' split) <;> first | rfl | (exfalso; omega))) ?_
                  refine aw_iincN (pc := 106) C 0 k [(4, .int (nI (k + 1))), (0, .ref 73), (1, .int (nI ss)), (2, .int b), (3, .int n)] dX9_sheet_106 rfl rfl rfl (Nat.le_of_ble_eq_true rfl) rfl ?_
                  refine aw_goto (pc := 109) C 86 dX9_sheet_109 (by decide) ?_
                  refine aw_lvs C [0, 1, 2, 3, 4] [(4, .int (nI (k + 1))), (0, .ref 73), (1, .int (nI ss)), (2, .int b), (3, .int n)] rfl ?_
                  exact aw_conv (σ' := setR (setR (setR σ 30 (upd (σ.1 30) ss (b))) 31 (upd (σ.1 31) ss (szv b n))) 32 (clr (σ.1 32) ss (k + 1))) (lv' := [(4, .int (nI (k + 1))), (0, .ref 73), (1, .int (nI ss)), (2, .int b), (3, .int n)]) (by rw [clr_s]) rfl rfl ih86
            · refine aw_aload_n (pc := 54) C 0 dX9_sheet_54 rfl ?_
              refine aw_ldc (pc := 55) C dX9_sheet_55 kc_X9_46 ?_
              refine aw_cVI (pc := 57) C (c_X9_finds _ (-100000001) 0 (by decide) (by decide)) lk_X9_48 sh73 rfl dX9_sheet_57 (by decide) (Nat.le_of_ble_eq_true rfl) rfl rfl ?_
              exact aw_iretP (pc := 60) C rfl dX9_sheet_60 (ps_of (an' := .inl 0) (by rw [sSheet, if_pos ⟨h4, Or.inr (Or.inr (Or.inl h20))⟩, if_neg (Int32.not_lt.mpr h37), if_pos (Int32.not_le.mp h51)]) rfl rfl)
          · refine aw_aload_n (pc := 40) C 0 dX9_sheet_40 rfl ?_
            refine aw_ldcw (pc := 41) C dX9_sheet_41 kc_X9_327 ?_
            refine aw_cVI (pc := 44) C (c_X9_finds _ (-100000007) 6 (by decide) (by decide)) lk_X9_48 sh73 rfl dX9_sheet_44 (by decide) (Nat.le_of_ble_eq_true rfl) rfl rfl ?_
            exact aw_iretP (pc := 47) C rfl dX9_sheet_47 (ps_of (an' := .inl 6) (by rw [sSheet, if_pos ⟨h4, Or.inr (Or.inr (Or.inl h20))⟩, if_pos (Int32.not_le.mp h37)]) rfl rfl)
        · refine aw_iload_n (pc := 23) C 2 dX9_sheet_23 rfl ?_
          refine aw_bipush (pc := 24) (v := 32) C dX9_sheet_24 rfl ?_
          refine aw_icmp_eq (pc := 26) C 36 dX9_sheet_26 (by decide) (fun h26 => ?_) (fun h26 => ?_)
          · refine aw_iload_n (pc := 36) C 3 dX9_sheet_36 rfl ?_
            refine aw_if_ge (pc := 37) C 48 dX9_sheet_37 (by decide) (fun h37 => ?_) (fun h37 => ?_)
            · refine aw_iload_n (pc := 48) C 3 dX9_sheet_48 rfl ?_
              refine aw_bipush (pc := 49) (v := 40) C dX9_sheet_49 rfl ?_
              refine aw_icmp_le (pc := 51) C 61 dX9_sheet_51 (by decide) (fun h51 => ?_) (fun h51 => ?_)
              · obtain ⟨ss, rfl, hss0, hss⟩ := rg 0 3 h4 (by omega) (by omega)
                refine aw_aload_n (pc := 61) C 0 dX9_sheet_61 rfl ?_
                refine aw_getR (pc := 62) C fl_X9_37 sh73 rfl dX9_sheet_62 ?_
                refine aw_iload_n (pc := 65) C 1 dX9_sheet_65 rfl ?_
                refine aw_iload_n (pc := 66) C 2 dX9_sheet_66 rfl ?_
                refine aw_ist (pc := 67) (k := ss) C (ss) (setR σ 30 (upd (σ.1 30) ss (b))) sh83 dX9_sheet_67 rfl (by omega) rfl rfl ?_
                refine aw_aload_n (pc := 68) C 0 dX9_sheet_68 rfl ?_
                refine aw_getR (pc := 69) C fl_X9_40 sh73 rfl dX9_sheet_69 ?_
                refine aw_iload_n (pc := 72) C 1 dX9_sheet_72 rfl ?_
                refine aw_iload_n (pc := 73) C 2 dX9_sheet_73 rfl ?_
                refine aw_if_ne (pc := 74) C 81 dX9_sheet_74 (by decide) (fun h74 => ?_) (fun h74 => ?_)
                · refine aw_iload_n (pc := 81) C 3 dX9_sheet_81 rfl ?_
                  refine aw_top C (szv b n) ((if_neg h74).symm) ?_
                  refine aw_ist (pc := 82) (k := ss) C (ss) (setR (setR σ 30 (upd (σ.1 30) ss (b))) 31 (upd (σ.1 31) ss (szv b n))) sh84 dX9_sheet_82 rfl (by omega) rfl (by first | rfl | (simp (disch := omega) only [setR_at, setR_twice, setL_at, setL_twice, setR_2, setL_1, setR_ne, setL_ne, ne_eq, Nat.reduceEqDiff, not_false_eq_true, pk_us, pk_un]; done) | ((try simp (disch := omega) only [setR_at, setR_twice, setL_at, setL_twice, setR_2, setL_1, setR_ne, setL_ne, ne_eq, Nat.reduceEqDiff, not_false_eq_true, pk_us, pk_un]); refine Prod.ext (funext fun z => ?_) rfl; simp only [setR]; (repeat' split) <;> first | rfl | (exfalso; omega))) ?_
                  refine aw_iconst (pc := 83) (v := 0) C dX9_sheet_83 rfl ?_
                  refine aw_istore (pc := 84) C [(4, .int 0), (0, .ref 73), (1, .int (nI ss)), (2, .int b), (3, .int n)] dX9_sheet_84 (Nat.le_of_ble_eq_true rfl) rfl ?_
                  refine aw_lvs C [0, 1, 2, 3, 4] [(4, .int 0), (0, .ref 73), (1, .int (nI ss)), (2, .int b), (3, .int n)] rfl ?_
                  refine aw_conv (σ' := setR (setR (setR σ 30 (upd (σ.1 30) ss (b))) 31 (upd (σ.1 31) ss (szv b n))) 32 (clr (σ.1 32) ss 0)) (lv' := [(4, .int (nI 0)), (0, .ref 73), (1, .int (nI ss)), (2, .int b), (3, .int n)]) (by rw [clr_0]; exact (setR_same (setR (setR σ 30 (upd (σ.1 30) ss b)) 31 (upd (σ.1 31) ss (szv b n))) 32).symm) rfl rfl ?_
                  refine loop_up (P := fun k => AW _ K _ (setR (setR (setR σ 30 (upd (σ.1 30) ss (b))) 31 (upd (σ.1 31) ss (szv b n))) 32 (clr (σ.1 32) ss k)) 86 [(4, .int (nI k)), (0, .ref 73), (1, .int (nI ss)), (2, .int b), (3, .int n)] []) 40 ?_ ?_ 0 (by omega) 
                  · refine aw_iload (pc := 86) C 0 dX9_sheet_86 rfl ?_
                    refine aw_bipush (pc := 88) (v := 40) C dX9_sheet_88 rfl ?_
                    refine aw_icmp_geN (pc := 90) C 40 40 112 rfl rfl (by omega) (by omega) dX9_sheet_90 (by decide) (fun h90 => ?_) (fun h90 => absurd h90 (by omega))
                    refine aw_aload_n (pc := 112) C 1 dX9_sheet_112 rfl ?_
                    refine aw_getR (pc := 113) C fl_X9_40 sh73 rfl dX9_sheet_113 ?_
                    refine aw_iload_n (pc := 116) C 2 dX9_sheet_116 rfl ?_
                    refine aw_ild (pc := 117) (k := ss) C (ss) (szv b n) sh84 dX9_sheet_117 rfl (by omega) rfl (by first | rfl | (simp (disch := omega) only [setR_at, setR_twice, setL_at, setL_twice, setR_2, setL_1, setR_ne, setL_ne, ne_eq, Nat.reduceEqDiff, not_false_eq_true, pk_us, pk_un]; done) | ((try simp (disch := omega) only [setR_at, setR_twice, setL_at, setL_twice, setR_2, setL_1, setR_ne, setL_ne, ne_eq, Nat.reduceEqDiff, not_false_eq_true, pk_us, pk_un]); refine Prod.ext (funext fun z => ?_) rfl; simp only [setR]; (repeat' split) <;> first | rfl | (exfalso; omega))) ?_
                    exact aw_iretP (pc := 118) C rfl dX9_sheet_118 (ps_of (an' := .inr (szv b n, upd (σ.1 30) ss b, upd (σ.1 31) ss (szv b n), clr (σ.1 32) ss 40)) (by rw [sSheet, if_pos ⟨h4, Or.inr (Or.inr (Or.inr h26))⟩, if_neg (Int32.not_lt.mpr h37), if_neg (Int32.not_lt.mpr h51), cl_nI (show ss < 2147483648 by omega)]) rfl rfl)
                  · intro k hk86 ih86 
                    refine aw_iload (pc := 86) C 0 dX9_sheet_86 rfl ?_
                    refine aw_bipush (pc := 88) (v := 40) C dX9_sheet_88 rfl ?_
                    refine aw_icmp_geN (pc := 90) C k 40 112 rfl rfl (by omega) (by omega) dX9_sheet_90 (by decide) (fun h90 => absurd h90 (by omega)) (fun h90 => ?_)
                    refine aw_aload_n (pc := 93) C 1 dX9_sheet_93 rfl ?_
                    refine aw_getR (pc := 94) C fl_X9_43 sh73 rfl dX9_sheet_94 ?_
                    refine aw_bipush (pc := 97) (v := 40) C dX9_sheet_97 rfl ?_
                    refine aw_iload_n (pc := 99) C 2 dX9_sheet_99 rfl ?_
                    refine aw_imulN (pc := 100) C 40 ss rfl rfl dX9_sheet_100 ?_
                    refine aw_iload (pc := 101) C 0 dX9_sheet_101 rfl ?_
                    refine aw_iaddN (pc := 103) C (40 * ss) k rfl rfl dX9_sheet_103 ?_
                    refine aw_iconst (pc := 104) (v := 0) C dX9_sheet_104 rfl ?_
                    refine aw_ist (pc := 105) (k := (40 * ss) + k) C ((40 * ss) + k) (setR (setR (setR σ 30 (upd (σ.1 30) ss (b))) 31 (upd (σ.1 31) ss (szv b n))) 32 (upd (clr (σ.1 32) ss k) ((40 * ss) + k) (0))) sh85 dX9_sheet_105 rfl (by omega) rfl (by first | rfl | (simp (disch := omega) only [setR_at, setR_twice, setL_at, setL_twice, setR_2, setL_1, setR_ne, setL_ne, ne_eq, Nat.reduceEqDiff, not_false_eq_true, pk_us, pk_un]; done) | ((try simp (disch := omega) only [setR_at, setR_twice, setL_at, setL_twice, setR_2, setL_1, setR_ne, setL_ne, ne_eq, Nat.reduceEqDiff, not_false_eq_true, pk_us, pk_un]); refine Prod.ext (funext fun z => ?_) rfl; simp only [setR]; (repeat' split) <;> first | rfl | (exfalso; omega))) ?_
                    refine aw_iincN (pc := 106) C 0 k [(4, .int (nI (k + 1))), (0, .ref 73), (1, .int (nI ss)), (2, .int b), (3, .int n)] dX9_sheet_106 rfl rfl rfl (Nat.le_of_ble_eq_true rfl) rfl ?_
                    refine aw_goto (pc := 109) C 86 dX9_sheet_109 (by decide) ?_
                    refine aw_lvs C [0, 1, 2, 3, 4] [(4, .int (nI (k + 1))), (0, .ref 73), (1, .int (nI ss)), (2, .int b), (3, .int n)] rfl ?_
                    exact aw_conv (σ' := setR (setR (setR σ 30 (upd (σ.1 30) ss (b))) 31 (upd (σ.1 31) ss (szv b n))) 32 (clr (σ.1 32) ss (k + 1))) (lv' := [(4, .int (nI (k + 1))), (0, .ref 73), (1, .int (nI ss)), (2, .int b), (3, .int n)]) (by rw [clr_s]) rfl rfl ih86
                · refine aw_iconst (pc := 77) (v := 0) C dX9_sheet_77 rfl ?_
                  refine aw_goto (pc := 78) C 82 dX9_sheet_78 (by decide) ?_
                  refine aw_top C (szv b n) ((if_pos h74).symm) ?_
                  refine aw_ist (pc := 82) (k := ss) C (ss) (setR (setR σ 30 (upd (σ.1 30) ss (b))) 31 (upd (σ.1 31) ss (szv b n))) sh84 dX9_sheet_82 rfl (by omega) rfl (by first | rfl | (simp (disch := omega) only [setR_at, setR_twice, setL_at, setL_twice, setR_2, setL_1, setR_ne, setL_ne, ne_eq, Nat.reduceEqDiff, not_false_eq_true, pk_us, pk_un]; done) | ((try simp (disch := omega) only [setR_at, setR_twice, setL_at, setL_twice, setR_2, setL_1, setR_ne, setL_ne, ne_eq, Nat.reduceEqDiff, not_false_eq_true, pk_us, pk_un]); refine Prod.ext (funext fun z => ?_) rfl; simp only [setR]; (repeat' split) <;> first | rfl | (exfalso; omega))) ?_
                  refine aw_iconst (pc := 83) (v := 0) C dX9_sheet_83 rfl ?_
                  refine aw_istore (pc := 84) C [(4, .int 0), (0, .ref 73), (1, .int (nI ss)), (2, .int b), (3, .int n)] dX9_sheet_84 (Nat.le_of_ble_eq_true rfl) rfl ?_
                  refine aw_lvs C [0, 1, 2, 3, 4] [(4, .int 0), (0, .ref 73), (1, .int (nI ss)), (2, .int b), (3, .int n)] rfl ?_
                  refine aw_conv (σ' := setR (setR (setR σ 30 (upd (σ.1 30) ss (b))) 31 (upd (σ.1 31) ss (szv b n))) 32 (clr (σ.1 32) ss 0)) (lv' := [(4, .int (nI 0)), (0, .ref 73), (1, .int (nI ss)), (2, .int b), (3, .int n)]) (by rw [clr_0]; exact (setR_same (setR (setR σ 30 (upd (σ.1 30) ss b)) 31 (upd (σ.1 31) ss (szv b n))) 32).symm) rfl rfl ?_
                  refine loop_up (P := fun k => AW _ K _ (setR (setR (setR σ 30 (upd (σ.1 30) ss (b))) 31 (upd (σ.1 31) ss (szv b n))) 32 (clr (σ.1 32) ss k)) 86 [(4, .int (nI k)), (0, .ref 73), (1, .int (nI ss)), (2, .int b), (3, .int n)] []) 40 ?_ ?_ 0 (by omega) 
                  · refine aw_iload (pc := 86) C 0 dX9_sheet_86 rfl ?_
                    refine aw_bipush (pc := 88) (v := 40) C dX9_sheet_88 rfl ?_
                    refine aw_icmp_geN (pc := 90) C 40 40 112 rfl rfl (by omega) (by omega) dX9_sheet_90 (by decide) (fun h90 => ?_) (fun h90 => absurd h90 (by omega))
                    refine aw_aload_n (pc := 112) C 1 dX9_sheet_112 rfl ?_
                    refine aw_getR (pc := 113) C fl_X9_40 sh73 rfl dX9_sheet_113 ?_
                    refine aw_iload_n (pc := 116) C 2 dX9_sheet_116 rfl ?_
                    refine aw_ild (pc := 117) (k := ss) C (ss) (szv b n) sh84 dX9_sheet_117 rfl (by omega) rfl (by first | rfl | (simp (disch := omega) only [setR_at, setR_twice, setL_at, setL_twice, setR_2, setL_1, setR_ne, setL_ne, ne_eq, Nat.reduceEqDiff, not_false_eq_true, pk_us, pk_un]; done) | ((try simp (disch := omega) only [setR_at, setR_twice, setL_at, setL_twice, setR_2, setL_1, setR_ne, setL_ne, ne_eq, Nat.reduceEqDiff, not_false_eq_true, pk_us, pk_un]); refine Prod.ext (funext fun z => ?_) rfl; simp only [setR]; (repeat' split) <;> first | rfl | (exfalso; omega))) ?_
                    exact aw_iretP (pc := 118) C rfl dX9_sheet_118 (ps_of (an' := .inr (szv b n, upd (σ.1 30) ss b, upd (σ.1 31) ss (szv b n), clr (σ.1 32) ss 40)) (by rw [sSheet, if_pos ⟨h4, Or.inr (Or.inr (Or.inr h26))⟩, if_neg (Int32.not_lt.mpr h37), if_neg (Int32.not_lt.mpr h51), cl_nI (show ss < 2147483648 by omega)]) rfl rfl)
                  · intro k hk86 ih86 
                    refine aw_iload (pc := 86) C 0 dX9_sheet_86 rfl ?_
                    refine aw_bipush (pc := 88) (v := 40) C dX9_sheet_88 rfl ?_
                    refine aw_icmp_geN (pc := 90) C k 40 112 rfl rfl (by omega) (by omega) dX9_sheet_90 (by decide) (fun h90 => absurd h90 (by omega)) (fun h90 => ?_)
                    refine aw_aload_n (pc := 93) C 1 dX9_sheet_93 rfl ?_
                    refine aw_getR (pc := 94) C fl_X9_43 sh73 rfl dX9_sheet_94 ?_
                    refine aw_bipush (pc := 97) (v := 40) C dX9_sheet_97 rfl ?_
                    refine aw_iload_n (pc := 99) C 2 dX9_sheet_99 rfl ?_
                    refine aw_imulN (pc := 100) C 40 ss rfl rfl dX9_sheet_100 ?_
                    refine aw_iload (pc := 101) C 0 dX9_sheet_101 rfl ?_
                    refine aw_iaddN (pc := 103) C (40 * ss) k rfl rfl dX9_sheet_103 ?_
                    refine aw_iconst (pc := 104) (v := 0) C dX9_sheet_104 rfl ?_
                    refine aw_ist (pc := 105) (k := (40 * ss) + k) C ((40 * ss) + k) (setR (setR (setR σ 30 (upd (σ.1 30) ss (b))) 31 (upd (σ.1 31) ss (szv b n))) 32 (upd (clr (σ.1 32) ss k) ((40 * ss) + k) (0))) sh85 dX9_sheet_105 rfl (by omega) rfl (by first | rfl | (simp (disch := omega) only [setR_at, setR_twice, setL_at, setL_twice, setR_2, setL_1, setR_ne, setL_ne, ne_eq, Nat.reduceEqDiff, not_false_eq_true, pk_us, pk_un]; done) | ((try simp (disch := omega) only [setR_at, setR_twice, setL_at, setL_twice, setR_2, setL_1, setR_ne, setL_ne, ne_eq, Nat.reduceEqDiff, not_false_eq_true, pk_us, pk_un]); refine Prod.ext (funext fun z => ?_) rfl; simp only [setR]; (repeat' split) <;> first | rfl | (exfalso; omega))) ?_
                    refine aw_iincN (pc := 106) C 0 k [(4, .int (nI (k + 1))), (0, .ref 73), (1, .int (nI ss)), (2, .int b), (3, .int n)] dX9_sheet_106 rfl rfl rfl (Nat.le_of_ble_eq_true rfl) rfl ?_
                    refine aw_goto (pc := 109) C 86 dX9_sheet_109 (by decide) ?_
                    refine aw_lvs C [0, 1, 2, 3, 4] [(4, .int (nI (k + 1))), (0, .ref 73), (1, .int (nI ss)), (2, .int b), (3, .int n)] rfl ?_
                    exact aw_conv (σ' := setR (setR (setR σ 30 (upd (σ.1 30) ss (b))) 31 (upd (σ.1 31) ss (szv b n))) 32 (clr (σ.1 32) ss (k + 1))) (lv' := [(4, .int (nI (k + 1))), (0, .ref 73), (1, .int (nI ss)), (2, .int b), (3, .int n)]) (by rw [clr_s]) rfl rfl ih86
              · refine aw_aload_n (pc := 54) C 0 dX9_sheet_54 rfl ?_
                refine aw_ldc (pc := 55) C dX9_sheet_55 kc_X9_46 ?_
                refine aw_cVI (pc := 57) C (c_X9_finds _ (-100000001) 0 (by decide) (by decide)) lk_X9_48 sh73 rfl dX9_sheet_57 (by decide) (Nat.le_of_ble_eq_true rfl) rfl rfl ?_
                exact aw_iretP (pc := 60) C rfl dX9_sheet_60 (ps_of (an' := .inl 0) (by rw [sSheet, if_pos ⟨h4, Or.inr (Or.inr (Or.inr h26))⟩, if_neg (Int32.not_lt.mpr h37), if_pos (Int32.not_le.mp h51)]) rfl rfl)
            · refine aw_aload_n (pc := 40) C 0 dX9_sheet_40 rfl ?_
              refine aw_ldcw (pc := 41) C dX9_sheet_41 kc_X9_327 ?_
              refine aw_cVI (pc := 44) C (c_X9_finds _ (-100000007) 6 (by decide) (by decide)) lk_X9_48 sh73 rfl dX9_sheet_44 (by decide) (Nat.le_of_ble_eq_true rfl) rfl rfl ?_
              exact aw_iretP (pc := 47) C rfl dX9_sheet_47 (ps_of (an' := .inl 6) (by rw [sSheet, if_pos ⟨h4, Or.inr (Or.inr (Or.inr h26))⟩, if_pos (Int32.not_le.mp h37)]) rfl rfl)
          · refine aw_aload_n (pc := 29) C 0 dX9_sheet_29 rfl ?_
            refine aw_ldc (pc := 30) C dX9_sheet_30 kc_X9_46 ?_
            refine aw_cVI (pc := 32) C (c_X9_finds _ (-100000001) 0 (by decide) (by decide)) lk_X9_48 sh73 rfl dX9_sheet_32 (by decide) (Nat.le_of_ble_eq_true rfl) rfl rfl ?_
            exact aw_iretP (pc := 35) C rfl dX9_sheet_35 (ps_of (an' := .inl 0) (by rw [sSheet, if_neg (fun z => z.2.elim h8 (fun z => z.elim h14 (fun z => z.elim h20 h26)))]) rfl rfl)
theorem c_X9_write (σ : St) (hsh : ShOk (σ.1 30) (σ.1 31)) (s i v : Int32) : AMet Y_X9_write [.ref 73, .int s, .int i, .int v] σ (PS σ (sWrite (σ.1 30) (σ.1 31) (σ.1 32) s i v)) := by
  refine am_intro (by decide +kernel) (Nat.le_of_ble_eq_true rfl) (fun K C => ?_)
  refine aw_iload_n (pc := 0) C 1 dX9_write_0 rfl ?_
  refine aw_cSI (pc := 1) C (c_X9_isSheet _ s ) lk_X9_324 dX9_write_1 (by decide) (Nat.le_of_ble_eq_true rfl) rfl rfl ?_
  refine aw_if_neB (pc := 4) C 14 dX9_write_4 (by decide) (fun h4 => ?_) (fun h4 => ?_)
  · obtain ⟨ss, rfl, hss0, hss⟩ := rg 0 3 h4 (by omega) (by omega)
    refine aw_aload_n (pc := 14) C 0 dX9_write_14 rfl ?_
    refine aw_getR (pc := 15) C fl_X9_37 sh73 rfl dX9_write_15 ?_
    refine aw_iload_n (pc := 18) C 1 dX9_write_18 rfl ?_
    refine aw_ild (pc := 19) (k := ss) C (ss) (σ.1 30 ss) sh83 dX9_write_19 rfl (by omega) rfl rfl ?_
    refine aw_if_ne (pc := 20) C 31 dX9_write_20 (by decide) (fun h20 => ?_) (fun h20 => ?_)
    · refine aw_iload_n (pc := 31) C 2 dX9_write_31 rfl ?_
      refine aw_i2l (pc := 32) C dX9_write_32 ?_
      refine aw_lconst (pc := 33) (v := 0) C dX9_write_33 rfl ?_
      refine aw_aload_n (pc := 34) C 0 dX9_write_34 rfl ?_
      refine aw_getR (pc := 35) C fl_X9_40 sh73 rfl dX9_write_35 ?_
      refine aw_iload_n (pc := 38) C 1 dX9_write_38 rfl ?_
      refine aw_ild (pc := 39) (k := ss) C (ss) (σ.1 31 ss) sh84 dX9_write_39 rfl (by omega) rfl rfl ?_
      refine aw_iconst (pc := 40) (v := 1) C dX9_write_40 rfl ?_
      refine aw_isub (pc := 41) C dX9_write_41 ?_
      refine aw_i2l (pc := 42) C dX9_write_42 ?_
      refine aw_cSI (pc := 43) C (c_X9_in _ i 0 ((σ.1 31 ss) - 1) _ _ _ rfl (by decide) rfl) lk_X9_54 dX9_write_43 (by decide) (Nat.le_of_ble_eq_true rfl) rfl rfl ?_
      refine aw_if_neB (pc := 46) C 56 dX9_write_46 (by decide) (fun h46 => ?_) (fun h46 => ?_)
      · obtain ⟨z, hz4, ez⟩ := (hsh ss (by omega)).2
        obtain ⟨ii, rfl, hii⟩ := idx_nat hz4 ez h46
        refine aw_aload_n (pc := 56) C 0 dX9_write_56 rfl ?_
        refine aw_getR (pc := 57) C fl_X9_43 sh73 rfl dX9_write_57 ?_
        refine aw_bipush (pc := 60) (v := 40) C dX9_write_60 rfl ?_
        refine aw_iload_n (pc := 62) C 1 dX9_write_62 rfl ?_
        refine aw_imulN (pc := 63) C 40 ss rfl rfl dX9_write_63 ?_
        refine aw_iload_n (pc := 64) C 2 dX9_write_64 rfl ?_
        refine aw_iaddN (pc := 65) C (40 * ss) ii rfl rfl dX9_write_65 ?_
        refine aw_aload_n (pc := 66) C 0 dX9_write_66 rfl ?_
        refine aw_getR (pc := 67) C fl_X9_37 sh73 rfl dX9_write_67 ?_
        refine aw_iload_n (pc := 70) C 1 dX9_write_70 rfl ?_
        refine aw_ild (pc := 71) (k := ss) C (ss) (σ.1 30 ss) sh83 dX9_write_71 rfl (by omega) rfl rfl ?_
        refine aw_bipush (pc := 72) (v := 8) C dX9_write_72 rfl ?_
        refine aw_icmp_ne (pc := 74) C 82 dX9_write_74 (by decide) (fun h74 => ?_) (fun h74 => ?_)
        · refine aw_aload_n (pc := 82) C 0 dX9_write_82 rfl ?_
          refine aw_getR (pc := 83) C fl_X9_37 sh73 rfl dX9_write_83 ?_
          refine aw_iload_n (pc := 86) C 1 dX9_write_86 rfl ?_
          refine aw_ild (pc := 87) (k := ss) C (ss) (σ.1 30 ss) sh83 dX9_write_87 rfl (by omega) rfl rfl ?_
          refine aw_bipush (pc := 88) (v := 16) C dX9_write_88 rfl ?_
          refine aw_icmp_ne (pc := 90) C 98 dX9_write_90 (by decide) (fun h90 => ?_) (fun h90 => ?_)
          · refine aw_iload_n (pc := 98) C 3 dX9_write_98 rfl ?_
            refine aw_top C (wv (σ.1 30 ss) v) (by rw [wv, if_neg h74, if_neg h90]) ?_
            refine aw_ist (pc := 99) (k := (40 * ss) + ii) C ((40 * ss) + ii) (setR σ 32 (upd (σ.1 32) ((40 * ss) + ii) (wv (σ.1 30 ss) v))) sh85 dX9_write_99 rfl (by omega) rfl rfl ?_
            refine aw_iconst (pc := 100) (v := 1) C dX9_write_100 rfl ?_
            exact aw_iretP (pc := 101) C rfl dX9_write_101 (ps_of (an' := .inr (1, σ.1 30, σ.1 31, upd (σ.1 32) ((40 * ss) + ii) (wv (σ.1 30 ss) v))) (by rw [sWrite, if_pos h4, cl_nI (show ss < 2147483648 by omega), if_neg h20, if_pos h46, cl_nI (show ii < 2147483648 by omega)]) rfl (by show _ = setR (setR (setR σ 30 (σ.1 30)) 31 (σ.1 31)) 32 _; rw [setR_same, setR_same]))
          · refine aw_iload_n (pc := 93) C 3 dX9_write_93 rfl ?_
            refine aw_i2s (pc := 94) C dX9_write_94 ?_
            refine aw_goto (pc := 95) C 99 dX9_write_95 (by decide) ?_
            refine aw_top C (wv (σ.1 30 ss) v) (by rw [wv, if_neg h74, if_pos h90]) ?_
            refine aw_ist (pc := 99) (k := (40 * ss) + ii) C ((40 * ss) + ii) (setR σ 32 (upd (σ.1 32) ((40 * ss) + ii) (wv (σ.1 30 ss) v))) sh85 dX9_write_99 rfl (by omega) rfl rfl ?_
            refine aw_iconst (pc := 100) (v := 1) C dX9_write_100 rfl ?_
            exact aw_iretP (pc := 101) C rfl dX9_write_101 (ps_of (an' := .inr (1, σ.1 30, σ.1 31, upd (σ.1 32) ((40 * ss) + ii) (wv (σ.1 30 ss) v))) (by rw [sWrite, if_pos h4, cl_nI (show ss < 2147483648 by omega), if_neg h20, if_pos h46, cl_nI (show ii < 2147483648 by omega)]) rfl (by show _ = setR (setR (setR σ 30 (σ.1 30)) 31 (σ.1 31)) 32 _; rw [setR_same, setR_same]))
        · refine aw_iload_n (pc := 77) C 3 dX9_write_77 rfl ?_
          refine aw_i2b (pc := 78) C dX9_write_78 ?_
          refine aw_goto (pc := 79) C 99 dX9_write_79 (by decide) ?_
          refine aw_top C (wv (σ.1 30 ss) v) (by rw [wv, if_pos h74]) ?_
          refine aw_ist (pc := 99) (k := (40 * ss) + ii) C ((40 * ss) + ii) (setR σ 32 (upd (σ.1 32) ((40 * ss) + ii) (wv (σ.1 30 ss) v))) sh85 dX9_write_99 rfl (by omega) rfl rfl ?_
          refine aw_iconst (pc := 100) (v := 1) C dX9_write_100 rfl ?_
          exact aw_iretP (pc := 101) C rfl dX9_write_101 (ps_of (an' := .inr (1, σ.1 30, σ.1 31, upd (σ.1 32) ((40 * ss) + ii) (wv (σ.1 30 ss) v))) (by rw [sWrite, if_pos h4, cl_nI (show ss < 2147483648 by omega), if_neg h20, if_pos h46, cl_nI (show ii < 2147483648 by omega)]) rfl (by show _ = setR (setR (setR σ 30 (σ.1 30)) 31 (σ.1 31)) 32 _; rw [setR_same, setR_same]))
      · refine aw_aload_n (pc := 49) C 0 dX9_write_49 rfl ?_
        refine aw_ldc (pc := 50) C dX9_write_50 kc_X9_46 ?_
        refine aw_cVI (pc := 52) C (c_X9_finds _ (-100000001) 0 (by decide) (by decide)) lk_X9_48 sh73 rfl dX9_write_52 (by decide) (Nat.le_of_ble_eq_true rfl) rfl rfl ?_
        exact aw_iretP (pc := 55) C rfl dX9_write_55 (ps_of (an' := .inl 0) (by rw [sWrite, if_pos h4, cl_nI (show ss < 2147483648 by omega), if_neg h20, if_neg h46]) rfl rfl)
    · refine aw_aload_n (pc := 23) C 0 dX9_write_23 rfl ?_
      refine aw_ldcw (pc := 24) C dX9_write_24 kc_X9_319 ?_
      refine aw_cVI (pc := 27) C (c_X9_finds _ (-100000006) 5 (by decide) (by decide)) lk_X9_48 sh73 rfl dX9_write_27 (by decide) (Nat.le_of_ble_eq_true rfl) rfl rfl ?_
      exact aw_iretP (pc := 30) C rfl dX9_write_30 (ps_of (an' := .inl 5) (by rw [sWrite, if_pos h4, cl_nI (show ss < 2147483648 by omega), if_pos h20]) rfl rfl)
  · refine aw_aload_n (pc := 7) C 0 dX9_write_7 rfl ?_
    refine aw_ldc (pc := 8) C dX9_write_8 kc_X9_46 ?_
    refine aw_cVI (pc := 10) C (c_X9_finds _ (-100000001) 0 (by decide) (by decide)) lk_X9_48 sh73 rfl dX9_write_10 (by decide) (Nat.le_of_ble_eq_true rfl) rfl rfl ?_
    exact aw_iretP (pc := 13) C rfl dX9_write_13 (ps_of (an' := .inl 0) (by rw [sWrite, if_neg (fun z => h4 z)]) rfl rfl)
theorem c_X9_copy (σ : St) (hsh : ShOk (σ.1 30) (σ.1 31)) (s f t o n : Int32) : AMet Y_X9_copy [.ref 73, .int s, .int f, .int t, .int o, .int n] σ (PS σ (sCopy (σ.1 30) (σ.1 31) (σ.1 32) s f t o n)) := by
  refine am_intro (by decide +kernel) (Nat.le_of_ble_eq_true rfl) (fun K C => ?_)
  refine aw_iload_n (pc := 0) C 1 dX9_copy_0 rfl ?_
  refine aw_cSI (pc := 1) C (c_X9_isSheet _ s ) lk_X9_324 dX9_copy_1 (by decide) (Nat.le_of_ble_eq_true rfl) rfl rfl ?_
  refine aw_if_eqB (pc := 4) C 14 dX9_copy_4 (by decide) (fun h4 => ?_) (fun h4 => ?_)
  · refine aw_aload_n (pc := 14) C 0 dX9_copy_14 rfl ?_
    refine aw_ldc (pc := 15) C dX9_copy_15 kc_X9_46 ?_
    refine aw_cVI (pc := 17) C (c_X9_finds _ (-100000001) 0 (by decide) (by decide)) lk_X9_48 sh73 rfl dX9_copy_17 (by decide) (Nat.le_of_ble_eq_true rfl) rfl rfl ?_
    exact aw_iretP (pc := 20) C rfl dX9_copy_20 (ps_of (an' := .inl 0) (by rw [sCopy, if_neg (fun z => h4 z.1)]) rfl rfl)
  · refine aw_iload_n (pc := 7) C 3 dX9_copy_7 rfl ?_
    refine aw_cSI (pc := 8) C (c_X9_isSheet _ t ) lk_X9_324 dX9_copy_8 (by decide) (Nat.le_of_ble_eq_true rfl) rfl rfl ?_
    refine aw_if_neB (pc := 11) C 21 dX9_copy_11 (by decide) (fun h11 => ?_) (fun h11 => ?_)
    · obtain ⟨ss, rfl, hss0, hss⟩ := rg 0 3 h4 (by omega) (by omega)
      obtain ⟨tt, rfl, htt0, htt⟩ := rg 0 3 h11 (by omega) (by omega)
      refine aw_aload_n (pc := 21) C 0 dX9_copy_21 rfl ?_
      refine aw_getR (pc := 22) C fl_X9_37 sh73 rfl dX9_copy_22 ?_
      refine aw_iload_n (pc := 25) C 1 dX9_copy_25 rfl ?_
      refine aw_ild (pc := 26) (k := ss) C (ss) (σ.1 30 ss) sh83 dX9_copy_26 rfl (by omega) rfl rfl ?_
      refine aw_if_eq (pc := 27) C 39 dX9_copy_27 (by decide) (fun h27 => ?_) (fun h27 => ?_)
      · refine aw_aload_n (pc := 39) C 0 dX9_copy_39 rfl ?_
        refine aw_ldcw (pc := 40) C dX9_copy_40 kc_X9_319 ?_
        refine aw_cVI (pc := 43) C (c_X9_finds _ (-100000006) 5 (by decide) (by decide)) lk_X9_48 sh73 rfl dX9_copy_43 (by decide) (Nat.le_of_ble_eq_true rfl) rfl rfl ?_
        exact aw_iretP (pc := 46) C rfl dX9_copy_46 (ps_of (an' := .inl 5) (by rw [sCopy, if_pos ⟨h4, h11⟩, cl_nI (show ss < 2147483648 by omega), cl_nI (show tt < 2147483648 by omega), if_pos (Or.inl h27)]) rfl rfl)
      · refine aw_aload_n (pc := 30) C 0 dX9_copy_30 rfl ?_
        refine aw_getR (pc := 31) C fl_X9_37 sh73 rfl dX9_copy_31 ?_
        refine aw_iload_n (pc := 34) C 3 dX9_copy_34 rfl ?_
        refine aw_ild (pc := 35) (k := tt) C (tt) (σ.1 30 tt) sh83 dX9_copy_35 rfl (by omega) rfl rfl ?_
        refine aw_if_ne (pc := 36) C 47 dX9_copy_36 (by decide) (fun h36 => ?_) (fun h36 => ?_)
        · refine aw_aload_n (pc := 47) C 0 dX9_copy_47 rfl ?_
          refine aw_getR (pc := 48) C fl_X9_37 sh73 rfl dX9_copy_48 ?_
          refine aw_iload_n (pc := 51) C 1 dX9_copy_51 rfl ?_
          refine aw_ild (pc := 52) (k := ss) C (ss) (σ.1 30 ss) sh83 dX9_copy_52 rfl (by omega) rfl rfl ?_
          refine aw_aload_n (pc := 53) C 0 dX9_copy_53 rfl ?_
          refine aw_getR (pc := 54) C fl_X9_37 sh73 rfl dX9_copy_54 ?_
          refine aw_iload_n (pc := 57) C 3 dX9_copy_57 rfl ?_
          refine aw_ild (pc := 58) (k := tt) C (tt) (σ.1 30 tt) sh83 dX9_copy_58 rfl (by omega) rfl rfl ?_
          refine aw_icmp_eq (pc := 59) C 70 dX9_copy_59 (by decide) (fun h59 => ?_) (fun h59 => ?_)
          · refine aw_iload (pc := 70) C 5 dX9_copy_70 rfl ?_
            refine aw_if_lt (pc := 72) C 111 dX9_copy_72 (by decide) (fun h72 => ?_) (fun h72 => ?_)
            · refine aw_aload_n (pc := 111) C 0 dX9_copy_111 rfl ?_
              refine aw_ldc (pc := 112) C dX9_copy_112 kc_X9_46 ?_
              refine aw_cVI (pc := 114) C (c_X9_finds _ (-100000001) 0 (by decide) (by decide)) lk_X9_48 sh73 rfl dX9_copy_114 (by decide) (Nat.le_of_ble_eq_true rfl) rfl rfl ?_
              exact aw_iretP (pc := 117) C rfl dX9_copy_117 (ps_of (an' := .inl 0) (by rw [sCopy, if_pos ⟨h4, h11⟩, cl_nI (show ss < 2147483648 by omega), cl_nI (show tt < 2147483648 by omega), if_neg (fun z => z.elim h27 h36), if_pos h59, if_neg (fun z => z.1 h72)]) rfl rfl)
            · refine aw_iload_n (pc := 75) C 2 dX9_copy_75 rfl ?_
              refine aw_if_lt (pc := 76) C 111 dX9_copy_76 (by decide) (fun h76 => ?_) (fun h76 => ?_)
              · refine aw_aload_n (pc := 111) C 0 dX9_copy_111 rfl ?_
                refine aw_ldc (pc := 112) C dX9_copy_112 kc_X9_46 ?_
                refine aw_cVI (pc := 114) C (c_X9_finds _ (-100000001) 0 (by decide) (by decide)) lk_X9_48 sh73 rfl dX9_copy_114 (by decide) (Nat.le_of_ble_eq_true rfl) rfl rfl ?_
                exact aw_iretP (pc := 117) C rfl dX9_copy_117 (ps_of (an' := .inl 0) (by rw [sCopy, if_pos ⟨h4, h11⟩, cl_nI (show ss < 2147483648 by omega), cl_nI (show tt < 2147483648 by omega), if_neg (fun z => z.elim h27 h36), if_pos h59, if_neg (fun z => z.2.1 h76)]) rfl rfl)
              · refine aw_iload (pc := 79) C 4 dX9_copy_79 rfl ?_
                refine aw_if_lt (pc := 81) C 111 dX9_copy_81 (by decide) (fun h81 => ?_) (fun h81 => ?_)
                · refine aw_aload_n (pc := 111) C 0 dX9_copy_111 rfl ?_
                  refine aw_ldc (pc := 112) C dX9_copy_112 kc_X9_46 ?_
                  refine aw_cVI (pc := 114) C (c_X9_finds _ (-100000001) 0 (by decide) (by decide)) lk_X9_48 sh73 rfl dX9_copy_114 (by decide) (Nat.le_of_ble_eq_true rfl) rfl rfl ?_
                  exact aw_iretP (pc := 117) C rfl dX9_copy_117 (ps_of (an' := .inl 0) (by rw [sCopy, if_pos ⟨h4, h11⟩, cl_nI (show ss < 2147483648 by omega), cl_nI (show tt < 2147483648 by omega), if_neg (fun z => z.elim h27 h36), if_pos h59, if_neg (fun z => z.2.2.1 h81)]) rfl rfl)
                · refine aw_iload (pc := 84) C 5 dX9_copy_84 rfl ?_
                  refine aw_aload_n (pc := 86) C 0 dX9_copy_86 rfl ?_
                  refine aw_getR (pc := 87) C fl_X9_40 sh73 rfl dX9_copy_87 ?_
                  refine aw_iload_n (pc := 90) C 1 dX9_copy_90 rfl ?_
                  refine aw_ild (pc := 91) (k := ss) C (ss) (σ.1 31 ss) sh84 dX9_copy_91 rfl (by omega) rfl rfl ?_
                  refine aw_iload_n (pc := 92) C 2 dX9_copy_92 rfl ?_
                  refine aw_isub (pc := 93) C dX9_copy_93 ?_
                  refine aw_icmp_gt (pc := 94) C 111 dX9_copy_94 (by decide) (fun h94 => ?_) (fun h94 => ?_)
                  · refine aw_aload_n (pc := 111) C 0 dX9_copy_111 rfl ?_
                    refine aw_ldc (pc := 112) C dX9_copy_112 kc_X9_46 ?_
                    refine aw_cVI (pc := 114) C (c_X9_finds _ (-100000001) 0 (by decide) (by decide)) lk_X9_48 sh73 rfl dX9_copy_114 (by decide) (Nat.le_of_ble_eq_true rfl) rfl rfl ?_
                    exact aw_iretP (pc := 117) C rfl dX9_copy_117 (ps_of (an' := .inl 0) (by rw [sCopy, if_pos ⟨h4, h11⟩, cl_nI (show ss < 2147483648 by omega), cl_nI (show tt < 2147483648 by omega), if_neg (fun z => z.elim h27 h36), if_pos h59, if_neg (fun z => z.2.2.2.1 h94)]) rfl rfl)
                  · refine aw_iload (pc := 97) C 5 dX9_copy_97 rfl ?_
                    refine aw_aload_n (pc := 99) C 0 dX9_copy_99 rfl ?_
                    refine aw_getR (pc := 100) C fl_X9_40 sh73 rfl dX9_copy_100 ?_
                    refine aw_iload_n (pc := 103) C 3 dX9_copy_103 rfl ?_
                    refine aw_ild (pc := 104) (k := tt) C (tt) (σ.1 31 tt) sh84 dX9_copy_104 rfl (by omega) rfl rfl ?_
                    refine aw_iload (pc := 105) C 4 dX9_copy_105 rfl ?_
                    refine aw_isub (pc := 107) C dX9_copy_107 ?_
                    refine aw_icmp_le (pc := 108) C 118 dX9_copy_108 (by decide) (fun h108 => ?_) (fun h108 => ?_)
                    · obtain ⟨nn, hnn, rfl⟩ := nI_of h72
                      obtain ⟨ff, hff, rfl⟩ := nI_of h76
                      obtain ⟨oo, hoo, rfl⟩ := nI_of h81
                      obtain ⟨z1, hz1, ez1⟩ := (hsh ss (by omega)).2
                      obtain ⟨z2, hz2, ez2⟩ := (hsh tt (by omega)).2
                      have c1 : ff + nn ≤ z1 := (cp_nat hz1 hff hnn).mp (by rw [← ez1]; exact h94)
                      have c2 : oo + nn ≤ z2 := (cp_nat hz2 hoo hnn).mp (by rw [← ez2]; exact Int32.not_lt.mpr h108)
                      refine aw_iload_n (pc := 118) C 1 dX9_copy_118 rfl ?_
                      refine aw_iload_n (pc := 119) C 3 dX9_copy_119 rfl ?_
                      refine aw_icmp_neN (pc := 120) C ss tt 133 rfl rfl (by omega) (by omega) dX9_copy_120 (by decide) (fun h120 => ?_) (fun h120 => ?_)
                      · refine aw_iconst (pc := 133) (v := 0) C dX9_copy_133 rfl ?_
                        refine aw_istore (pc := 134) C [(6, .int 0), (0, .ref 73), (1, .int (nI ss)), (2, .int (nI ff)), (3, .int (nI tt)), (4, .int (nI oo)), (5, .int (nI nn))] dX9_copy_134 (Nat.le_of_ble_eq_true rfl) rfl ?_
                        refine aw_iconst (pc := 136) (v := 0) C dX9_copy_136 rfl ?_
                        refine aw_istore (pc := 137) C [(7, .int 0), (6, .int 0), (0, .ref 73), (1, .int (nI ss)), (2, .int (nI ff)), (3, .int (nI tt)), (4, .int (nI oo)), (5, .int (nI nn))] dX9_copy_137 (Nat.le_of_ble_eq_true rfl) rfl ?_
                        refine aw_lvs C [0, 1, 2, 3, 4, 5, 6, 7] [(7, .int 0), (6, .int 0), (0, .ref 73), (1, .int (nI ss)), (2, .int (nI ff)), (3, .int (nI tt)), (4, .int (nI oo)), (5, .int (nI nn))] rfl ?_
                        refine aw_conv (σ' := setR σ 32 (cpM (σ.1 32) (40 * ss + ff) (40 * tt + oo) 0)) (lv' := [(7, .int (nI 0)), (6, .int 0), (0, .ref 73), (1, .int (nI ss)), (2, .int (nI ff)), (3, .int (nI tt)), (4, .int (nI oo)), (5, .int (nI nn))]) (by rw [cpM_0, setR_same]) rfl rfl ?_
                        refine loop_up (P := fun k => AW _ K _ (setR σ 32 (cpM (σ.1 32) (40 * ss + ff) (40 * tt + oo) k)) 139 [(7, .int (nI k)), (6, .int 0), (0, .ref 73), (1, .int (nI ss)), (2, .int (nI ff)), (3, .int (nI tt)), (4, .int (nI oo)), (5, .int (nI nn))] []) nn ?_ ?_ 0 (by omega) 
                        · refine aw_iload (pc := 139) C 0 dX9_copy_139 rfl ?_
                          refine aw_iload (pc := 141) C 7 dX9_copy_141 rfl ?_
                          refine aw_icmp_geN (pc := 143) C nn nn 200 rfl rfl (by omega) (by omega) dX9_copy_143 (by decide) (fun h143 => ?_) (fun h143 => absurd h143 (by omega))
                          refine aw_iload (pc := 200) C 7 dX9_copy_200 rfl ?_
                          exact aw_iretP (pc := 202) C rfl dX9_copy_202 (ps_of (an' := .inr (nI nn, σ.1 30, σ.1 31, cpM (σ.1 32) (40 * ss + ff) (40 * tt + oo) nn)) (by rw [sCopy, if_pos ⟨h4, h11⟩, cl_nI (show ss < 2147483648 by omega), cl_nI (show tt < 2147483648 by omega), if_neg (fun z => z.elim h27 h36), if_pos h59, if_pos ⟨h72, h76, h81, h94, Int32.not_lt.mpr h108⟩, cl_nI (show ff < 2147483648 by omega), cl_nI (show oo < 2147483648 by omega), cl_nI (show nn < 2147483648 by omega)]) rfl (by show _ = setR (setR (setR σ 30 (σ.1 30)) 31 (σ.1 31)) 32 _; rw [setR_same, setR_same]))
                        · intro k hk139 ih139 
                          refine aw_iload (pc := 139) C 0 dX9_copy_139 rfl ?_
                          refine aw_iload (pc := 141) C 7 dX9_copy_141 rfl ?_
                          refine aw_icmp_geN (pc := 143) C k nn 200 rfl rfl (by omega) (by omega) dX9_copy_143 (by decide) (fun h143 => absurd h143 (by omega)) (fun h143 => ?_)
                          refine aw_iload (pc := 146) C 1 dX9_copy_146 rfl ?_
                          refine aw_if_eq (pc := 148) C 161 dX9_copy_148 (by decide) (fun h148 => ?_) (fun h148 => absurd h148 (by decide))
                          refine aw_iload (pc := 161) C 0 dX9_copy_161 rfl ?_
                          refine aw_istore (pc := 163) C [(8, .int (nI k)), (7, .int (nI k)), (6, .int 0), (0, .ref 73), (1, .int (nI ss)), (2, .int (nI ff)), (3, .int (nI tt)), (4, .int (nI oo)), (5, .int (nI nn))] dX9_copy_163 (Nat.le_of_ble_eq_true rfl) rfl ?_
                          refine aw_aload_n (pc := 165) C 3 dX9_copy_165 rfl ?_
                          refine aw_getR (pc := 166) C fl_X9_43 sh73 rfl dX9_copy_166 ?_
                          refine aw_bipush (pc := 169) (v := 40) C dX9_copy_169 rfl ?_
                          refine aw_iload_n (pc := 171) C 6 dX9_copy_171 rfl ?_
                          refine aw_imulN (pc := 172) C 40 tt rfl rfl dX9_copy_172 ?_
                          refine aw_iload (pc := 173) C 7 dX9_copy_173 rfl ?_
                          refine aw_iaddN (pc := 175) C (40 * tt) oo rfl rfl dX9_copy_175 ?_
                          refine aw_iload (pc := 176) C 0 dX9_copy_176 rfl ?_
                          refine aw_iaddN (pc := 178) C ((40 * tt) + oo) k rfl rfl dX9_copy_178 ?_
                          refine aw_aload_n (pc := 179) C 3 dX9_copy_179 rfl ?_
                          refine aw_getR (pc := 180) C fl_X9_43 sh73 rfl dX9_copy_180 ?_
                          refine aw_bipush (pc := 183) (v := 40) C dX9_copy_183 rfl ?_
                          refine aw_iload_n (pc := 185) C 4 dX9_copy_185 rfl ?_
                          refine aw_imulN (pc := 186) C 40 ss rfl rfl dX9_copy_186 ?_
                          refine aw_iload_n (pc := 187) C 5 dX9_copy_187 rfl ?_
                          refine aw_iaddN (pc := 188) C (40 * ss) ff rfl rfl dX9_copy_188 ?_
                          refine aw_iload (pc := 189) C 0 dX9_copy_189 rfl ?_
                          refine aw_iaddN (pc := 191) C ((40 * ss) + ff) k rfl rfl dX9_copy_191 ?_
                          refine aw_ild (pc := 192) (k := ((40 * ss) + ff) + k) C (((40 * ss) + ff) + k) ((cpM (σ.1 32) (40 * ss + ff) (40 * tt + oo) k) (((40 * ss) + ff) + k)) sh85 dX9_copy_192 rfl (by omega) rfl (by first | rfl | (simp (disch := omega) only [setR_at, setR_twice, setL_at, setL_twice, setR_2, setL_1, setR_ne, setL_ne, ne_eq, Nat.reduceEqDiff, not_false_eq_true, pk_us, pk_un]; done) | ((try simp (disch := omega) only [setR_at, setR_twice, setL_at, setL_twice, setR_2, setL_1, setR_ne, setL_ne, ne_eq, Nat.reduceEqDiff, not_false_eq_true, pk_us, pk_un]); refine Prod.ext (funext fun z => ?_) rfl; simp only [setR]; (repeat' split) <;> first | rfl | (exfalso; omega))) ?_
                          refine aw_ist (pc := 193) (k := ((40 * tt) + oo) + k) C (((40 * tt) + oo) + k) (setR σ 32 (upd (cpM (σ.1 32) (40 * ss + ff) (40 * tt + oo) k) (((40 * tt) + oo) + k) ((cpM (σ.1 32) (40 * ss + ff) (40 * tt + oo) k) (((40 * ss) + ff) + k)))) sh85 dX9_copy_193 rfl (by omega) rfl (by first | rfl | (simp (disch := omega) only [setR_at, setR_twice, setL_at, setL_twice, setR_2, setL_1, setR_ne, setL_ne, ne_eq, Nat.reduceEqDiff, not_false_eq_true, pk_us, pk_un]; done) | ((try simp (disch := omega) only [setR_at, setR_twice, setL_at, setL_twice, setR_2, setL_1, setR_ne, setL_ne, ne_eq, Nat.reduceEqDiff, not_false_eq_true, pk_us, pk_un]); refine Prod.ext (funext fun z => ?_) rfl; simp only [setR]; (repeat' split) <;> first | rfl | (exfalso; omega))) ?_
                          refine aw_iincN (pc := 194) C 1 k [(7, .int (nI (k + 1))), (8, .int (nI k)), (6, .int 0), (0, .ref 73), (1, .int (nI ss)), (2, .int (nI ff)), (3, .int (nI tt)), (4, .int (nI oo)), (5, .int (nI nn))] dX9_copy_194 rfl rfl rfl (Nat.le_of_ble_eq_true rfl) rfl ?_
                          refine aw_goto (pc := 197) C 139 dX9_copy_197 (by decide) ?_
                          refine aw_lvs C [0, 2, 3, 4, 5, 6, 7, 8] [(7, .int (nI (k + 1))), (6, .int 0), (0, .ref 73), (1, .int (nI ss)), (2, .int (nI ff)), (3, .int (nI tt)), (4, .int (nI oo)), (5, .int (nI nn))] rfl ?_
                          exact aw_conv (σ' := setR σ 32 (cpM (σ.1 32) (40 * ss + ff) (40 * tt + oo) (k + 1))) (lv' := [(7, .int (nI (k + 1))), (6, .int 0), (0, .ref 73), (1, .int (nI ss)), (2, .int (nI ff)), (3, .int (nI tt)), (4, .int (nI oo)), (5, .int (nI nn))]) (by rw [cpM_s (by omega)]) rfl rfl ih139
                      · refine aw_iload_n (pc := 123) C 2 dX9_copy_123 rfl ?_
                        refine aw_iload (pc := 124) C 4 dX9_copy_124 rfl ?_
                        refine aw_icmp_geN (pc := 126) C ff oo 133 rfl rfl (by omega) (by omega) dX9_copy_126 (by decide) (fun h126 => ?_) (fun h126 => ?_)
                        · refine aw_iconst (pc := 133) (v := 0) C dX9_copy_133 rfl ?_
                          refine aw_istore (pc := 134) C [(6, .int 0), (0, .ref 73), (1, .int (nI ss)), (2, .int (nI ff)), (3, .int (nI tt)), (4, .int (nI oo)), (5, .int (nI nn))] dX9_copy_134 (Nat.le_of_ble_eq_true rfl) rfl ?_
                          refine aw_iconst (pc := 136) (v := 0) C dX9_copy_136 rfl ?_
                          refine aw_istore (pc := 137) C [(7, .int 0), (6, .int 0), (0, .ref 73), (1, .int (nI ss)), (2, .int (nI ff)), (3, .int (nI tt)), (4, .int (nI oo)), (5, .int (nI nn))] dX9_copy_137 (Nat.le_of_ble_eq_true rfl) rfl ?_
                          refine aw_lvs C [0, 1, 2, 3, 4, 5, 6, 7] [(7, .int 0), (6, .int 0), (0, .ref 73), (1, .int (nI ss)), (2, .int (nI ff)), (3, .int (nI tt)), (4, .int (nI oo)), (5, .int (nI nn))] rfl ?_
                          refine aw_conv (σ' := setR σ 32 (cpM (σ.1 32) (40 * ss + ff) (40 * tt + oo) 0)) (lv' := [(7, .int (nI 0)), (6, .int 0), (0, .ref 73), (1, .int (nI ss)), (2, .int (nI ff)), (3, .int (nI tt)), (4, .int (nI oo)), (5, .int (nI nn))]) (by rw [cpM_0, setR_same]) rfl rfl ?_
                          refine loop_up (P := fun k => AW _ K _ (setR σ 32 (cpM (σ.1 32) (40 * ss + ff) (40 * tt + oo) k)) 139 [(7, .int (nI k)), (6, .int 0), (0, .ref 73), (1, .int (nI ss)), (2, .int (nI ff)), (3, .int (nI tt)), (4, .int (nI oo)), (5, .int (nI nn))] []) nn ?_ ?_ 0 (by omega) 
                          · refine aw_iload (pc := 139) C 0 dX9_copy_139 rfl ?_
                            refine aw_iload (pc := 141) C 7 dX9_copy_141 rfl ?_
                            refine aw_icmp_geN (pc := 143) C nn nn 200 rfl rfl (by omega) (by omega) dX9_copy_143 (by decide) (fun h143 => ?_) (fun h143 => absurd h143 (by omega))
                            refine aw_iload (pc := 200) C 7 dX9_copy_200 rfl ?_
                            exact aw_iretP (pc := 202) C rfl dX9_copy_202 (ps_of (an' := .inr (nI nn, σ.1 30, σ.1 31, cpM (σ.1 32) (40 * ss + ff) (40 * tt + oo) nn)) (by rw [sCopy, if_pos ⟨h4, h11⟩, cl_nI (show ss < 2147483648 by omega), cl_nI (show tt < 2147483648 by omega), if_neg (fun z => z.elim h27 h36), if_pos h59, if_pos ⟨h72, h76, h81, h94, Int32.not_lt.mpr h108⟩, cl_nI (show ff < 2147483648 by omega), cl_nI (show oo < 2147483648 by omega), cl_nI (show nn < 2147483648 by omega)]) rfl (by show _ = setR (setR (setR σ 30 (σ.1 30)) 31 (σ.1 31)) 32 _; rw [setR_same, setR_same]))
                          · intro k hk139 ih139 
                            refine aw_iload (pc := 139) C 0 dX9_copy_139 rfl ?_
                            refine aw_iload (pc := 141) C 7 dX9_copy_141 rfl ?_
                            refine aw_icmp_geN (pc := 143) C k nn 200 rfl rfl (by omega) (by omega) dX9_copy_143 (by decide) (fun h143 => absurd h143 (by omega)) (fun h143 => ?_)
                            refine aw_iload (pc := 146) C 1 dX9_copy_146 rfl ?_
                            refine aw_if_eq (pc := 148) C 161 dX9_copy_148 (by decide) (fun h148 => ?_) (fun h148 => absurd h148 (by decide))
                            refine aw_iload (pc := 161) C 0 dX9_copy_161 rfl ?_
                            refine aw_istore (pc := 163) C [(8, .int (nI k)), (7, .int (nI k)), (6, .int 0), (0, .ref 73), (1, .int (nI ss)), (2, .int (nI ff)), (3, .int (nI tt)), (4, .int (nI oo)), (5, .int (nI nn))] dX9_copy_163 (Nat.le_of_ble_eq_true rfl) rfl ?_
                            refine aw_aload_n (pc := 165) C 3 dX9_copy_165 rfl ?_
                            refine aw_getR (pc := 166) C fl_X9_43 sh73 rfl dX9_copy_166 ?_
                            refine aw_bipush (pc := 169) (v := 40) C dX9_copy_169 rfl ?_
                            refine aw_iload_n (pc := 171) C 6 dX9_copy_171 rfl ?_
                            refine aw_imulN (pc := 172) C 40 tt rfl rfl dX9_copy_172 ?_
                            refine aw_iload (pc := 173) C 7 dX9_copy_173 rfl ?_
                            refine aw_iaddN (pc := 175) C (40 * tt) oo rfl rfl dX9_copy_175 ?_
                            refine aw_iload (pc := 176) C 0 dX9_copy_176 rfl ?_
                            refine aw_iaddN (pc := 178) C ((40 * tt) + oo) k rfl rfl dX9_copy_178 ?_
                            refine aw_aload_n (pc := 179) C 3 dX9_copy_179 rfl ?_
                            refine aw_getR (pc := 180) C fl_X9_43 sh73 rfl dX9_copy_180 ?_
                            refine aw_bipush (pc := 183) (v := 40) C dX9_copy_183 rfl ?_
                            refine aw_iload_n (pc := 185) C 4 dX9_copy_185 rfl ?_
                            refine aw_imulN (pc := 186) C 40 ss rfl rfl dX9_copy_186 ?_
                            refine aw_iload_n (pc := 187) C 5 dX9_copy_187 rfl ?_
                            refine aw_iaddN (pc := 188) C (40 * ss) ff rfl rfl dX9_copy_188 ?_
                            refine aw_iload (pc := 189) C 0 dX9_copy_189 rfl ?_
                            refine aw_iaddN (pc := 191) C ((40 * ss) + ff) k rfl rfl dX9_copy_191 ?_
                            refine aw_ild (pc := 192) (k := ((40 * ss) + ff) + k) C (((40 * ss) + ff) + k) ((cpM (σ.1 32) (40 * ss + ff) (40 * tt + oo) k) (((40 * ss) + ff) + k)) sh85 dX9_copy_192 rfl (by omega) rfl (by first | rfl | (simp (disch := omega) only [setR_at, setR_twice, setL_at, setL_twice, setR_2, setL_1, setR_ne, setL_ne, ne_eq, Nat.reduceEqDiff, not_false_eq_true, pk_us, pk_un]; done) | ((try simp (disch := omega) only [setR_at, setR_twice, setL_at, setL_twice, setR_2, setL_1, setR_ne, setL_ne, ne_eq, Nat.reduceEqDiff, not_false_eq_true, pk_us, pk_un]); refine Prod.ext (funext fun z => ?_) rfl; simp only [setR]; (repeat' split) <;> first | rfl | (exfalso; omega))) ?_
                            refine aw_ist (pc := 193) (k := ((40 * tt) + oo) + k) C (((40 * tt) + oo) + k) (setR σ 32 (upd (cpM (σ.1 32) (40 * ss + ff) (40 * tt + oo) k) (((40 * tt) + oo) + k) ((cpM (σ.1 32) (40 * ss + ff) (40 * tt + oo) k) (((40 * ss) + ff) + k)))) sh85 dX9_copy_193 rfl (by omega) rfl (by first | rfl | (simp (disch := omega) only [setR_at, setR_twice, setL_at, setL_twice, setR_2, setL_1, setR_ne, setL_ne, ne_eq, Nat.reduceEqDiff, not_false_eq_true, pk_us, pk_un]; done) | ((try simp (disch := omega) only [setR_at, setR_twice, setL_at, setL_twice, setR_2, setL_1, setR_ne, setL_ne, ne_eq, Nat.reduceEqDiff, not_false_eq_true, pk_us, pk_un]); refine Prod.ext (funext fun z => ?_) rfl; simp only [setR]; (repeat' split) <;> first | rfl | (exfalso; omega))) ?_
                            refine aw_iincN (pc := 194) C 1 k [(7, .int (nI (k + 1))), (8, .int (nI k)), (6, .int 0), (0, .ref 73), (1, .int (nI ss)), (2, .int (nI ff)), (3, .int (nI tt)), (4, .int (nI oo)), (5, .int (nI nn))] dX9_copy_194 rfl rfl rfl (Nat.le_of_ble_eq_true rfl) rfl ?_
                            refine aw_goto (pc := 197) C 139 dX9_copy_197 (by decide) ?_
                            refine aw_lvs C [0, 2, 3, 4, 5, 6, 7, 8] [(7, .int (nI (k + 1))), (6, .int 0), (0, .ref 73), (1, .int (nI ss)), (2, .int (nI ff)), (3, .int (nI tt)), (4, .int (nI oo)), (5, .int (nI nn))] rfl ?_
                            exact aw_conv (σ' := setR σ 32 (cpM (σ.1 32) (40 * ss + ff) (40 * tt + oo) (k + 1))) (lv' := [(7, .int (nI (k + 1))), (6, .int 0), (0, .ref 73), (1, .int (nI ss)), (2, .int (nI ff)), (3, .int (nI tt)), (4, .int (nI oo)), (5, .int (nI nn))]) (by rw [cpM_s (by omega)]) rfl rfl ih139
                        · refine aw_iconst (pc := 129) (v := 1) C dX9_copy_129 rfl ?_
                          refine aw_goto (pc := 130) C 134 dX9_copy_130 (by decide) ?_
                          refine aw_istore (pc := 134) C [(6, .int 1), (0, .ref 73), (1, .int (nI ss)), (2, .int (nI ff)), (3, .int (nI tt)), (4, .int (nI oo)), (5, .int (nI nn))] dX9_copy_134 (Nat.le_of_ble_eq_true rfl) rfl ?_
                          refine aw_iconst (pc := 136) (v := 0) C dX9_copy_136 rfl ?_
                          refine aw_istore (pc := 137) C [(7, .int 0), (6, .int 1), (0, .ref 73), (1, .int (nI ss)), (2, .int (nI ff)), (3, .int (nI tt)), (4, .int (nI oo)), (5, .int (nI nn))] dX9_copy_137 (Nat.le_of_ble_eq_true rfl) rfl ?_
                          refine aw_lvs C [0, 1, 2, 3, 4, 5, 6, 7] [(7, .int 0), (6, .int 1), (0, .ref 73), (1, .int (nI ss)), (2, .int (nI ff)), (3, .int (nI tt)), (4, .int (nI oo)), (5, .int (nI nn))] rfl ?_
                          refine aw_conv (σ' := setR σ 32 (cpD (σ.1 32) (40 * ss + ff) (40 * tt + oo) nn 0)) (lv' := [(7, .int (nI 0)), (6, .int 1), (0, .ref 73), (1, .int (nI ss)), (2, .int (nI ff)), (3, .int (nI tt)), (4, .int (nI oo)), (5, .int (nI nn))]) (by rw [cpD_0, setR_same]) rfl rfl ?_
                          refine loop_up (P := fun k => AW _ K _ (setR σ 32 (cpD (σ.1 32) (40 * ss + ff) (40 * tt + oo) nn k)) 139 [(7, .int (nI k)), (6, .int 1), (0, .ref 73), (1, .int (nI ss)), (2, .int (nI ff)), (3, .int (nI tt)), (4, .int (nI oo)), (5, .int (nI nn))] []) nn ?_ ?_ 0 (by omega) 
                          · refine aw_iload (pc := 139) C 0 dX9_copy_139 rfl ?_
                            refine aw_iload (pc := 141) C 7 dX9_copy_141 rfl ?_
                            refine aw_icmp_geN (pc := 143) C nn nn 200 rfl rfl (by omega) (by omega) dX9_copy_143 (by decide) (fun h143 => ?_) (fun h143 => absurd h143 (by omega))
                            refine aw_iload (pc := 200) C 7 dX9_copy_200 rfl ?_
                            exact aw_iretP (pc := 202) C rfl dX9_copy_202 (ps_of (an' := .inr (nI nn, σ.1 30, σ.1 31, cpM (σ.1 32) (40 * ss + ff) (40 * tt + oo) nn)) (by rw [sCopy, if_pos ⟨h4, h11⟩, cl_nI (show ss < 2147483648 by omega), cl_nI (show tt < 2147483648 by omega), if_neg (fun z => z.elim h27 h36), if_pos h59, if_pos ⟨h72, h76, h81, h94, Int32.not_lt.mpr h108⟩, cl_nI (show ff < 2147483648 by omega), cl_nI (show oo < 2147483648 by omega), cl_nI (show nn < 2147483648 by omega)]) rfl (by show _ = setR (setR (setR σ 30 (σ.1 30)) 31 (σ.1 31)) 32 _; rw [setR_same, setR_same, cpD_n]))
                          · intro k hk139 ih139 
                            refine aw_iload (pc := 139) C 0 dX9_copy_139 rfl ?_
                            refine aw_iload (pc := 141) C 7 dX9_copy_141 rfl ?_
                            refine aw_icmp_geN (pc := 143) C k nn 200 rfl rfl (by omega) (by omega) dX9_copy_143 (by decide) (fun h143 => absurd h143 (by omega)) (fun h143 => ?_)
                            refine aw_iload (pc := 146) C 1 dX9_copy_146 rfl ?_
                            refine aw_if_eq (pc := 148) C 161 dX9_copy_148 (by decide) (fun h148 => absurd h148 (by decide)) (fun h148 => ?_)
                            refine aw_iload (pc := 151) C 7 dX9_copy_151 rfl ?_
                            refine aw_iconst (pc := 153) (v := 1) C dX9_copy_153 rfl ?_
                            refine aw_isubN (pc := 154) C nn 1 rfl rfl (by omega) dX9_copy_154 ?_
                            refine aw_iload (pc := 155) C 0 dX9_copy_155 rfl ?_
                            refine aw_isubN (pc := 157) C (nn - 1) k rfl rfl (by omega) dX9_copy_157 ?_
                            refine aw_goto (pc := 158) C 163 dX9_copy_158 (by decide) ?_
                            refine aw_istore (pc := 163) C [(8, .int (nI ((nn - 1) - k))), (7, .int (nI k)), (6, .int 1), (0, .ref 73), (1, .int (nI ss)), (2, .int (nI ff)), (3, .int (nI tt)), (4, .int (nI oo)), (5, .int (nI nn))] dX9_copy_163 (Nat.le_of_ble_eq_true rfl) rfl ?_
                            refine aw_aload_n (pc := 165) C 3 dX9_copy_165 rfl ?_
                            refine aw_getR (pc := 166) C fl_X9_43 sh73 rfl dX9_copy_166 ?_
                            refine aw_bipush (pc := 169) (v := 40) C dX9_copy_169 rfl ?_
                            refine aw_iload_n (pc := 171) C 6 dX9_copy_171 rfl ?_
                            refine aw_imulN (pc := 172) C 40 tt rfl rfl dX9_copy_172 ?_
                            refine aw_iload (pc := 173) C 7 dX9_copy_173 rfl ?_
                            refine aw_iaddN (pc := 175) C (40 * tt) oo rfl rfl dX9_copy_175 ?_
                            refine aw_iload (pc := 176) C 0 dX9_copy_176 rfl ?_
                            refine aw_iaddN (pc := 178) C ((40 * tt) + oo) ((nn - 1) - k) rfl rfl dX9_copy_178 ?_
                            refine aw_aload_n (pc := 179) C 3 dX9_copy_179 rfl ?_
                            refine aw_getR (pc := 180) C fl_X9_43 sh73 rfl dX9_copy_180 ?_
                            refine aw_bipush (pc := 183) (v := 40) C dX9_copy_183 rfl ?_
                            refine aw_iload_n (pc := 185) C 4 dX9_copy_185 rfl ?_
                            refine aw_imulN (pc := 186) C 40 ss rfl rfl dX9_copy_186 ?_
                            refine aw_iload_n (pc := 187) C 5 dX9_copy_187 rfl ?_
                            refine aw_iaddN (pc := 188) C (40 * ss) ff rfl rfl dX9_copy_188 ?_
                            refine aw_iload (pc := 189) C 0 dX9_copy_189 rfl ?_
                            refine aw_iaddN (pc := 191) C ((40 * ss) + ff) ((nn - 1) - k) rfl rfl dX9_copy_191 ?_
                            refine aw_ild (pc := 192) (k := ((40 * ss) + ff) + ((nn - 1) - k)) C (((40 * ss) + ff) + ((nn - 1) - k)) ((cpD (σ.1 32) (40 * ss + ff) (40 * tt + oo) nn k) (((40 * ss) + ff) + ((nn - 1) - k))) sh85 dX9_copy_192 rfl (by omega) rfl (by first | rfl | (simp (disch := omega) only [setR_at, setR_twice, setL_at, setL_twice, setR_2, setL_1, setR_ne, setL_ne, ne_eq, Nat.reduceEqDiff, not_false_eq_true, pk_us, pk_un]; done) | ((try simp (disch := omega) only [setR_at, setR_twice, setL_at, setL_twice, setR_2, setL_1, setR_ne, setL_ne, ne_eq, Nat.reduceEqDiff, not_false_eq_true, pk_us, pk_un]); refine Prod.ext (funext fun z => ?_) rfl; simp only [setR]; (repeat' split) <;> first | rfl | (exfalso; omega))) ?_
                            refine aw_ist (pc := 193) (k := ((40 * tt) + oo) + ((nn - 1) - k)) C (((40 * tt) + oo) + ((nn - 1) - k)) (setR σ 32 (upd (cpD (σ.1 32) (40 * ss + ff) (40 * tt + oo) nn k) (((40 * tt) + oo) + ((nn - 1) - k)) ((cpD (σ.1 32) (40 * ss + ff) (40 * tt + oo) nn k) (((40 * ss) + ff) + ((nn - 1) - k))))) sh85 dX9_copy_193 rfl (by omega) rfl (by first | rfl | (simp (disch := omega) only [setR_at, setR_twice, setL_at, setL_twice, setR_2, setL_1, setR_ne, setL_ne, ne_eq, Nat.reduceEqDiff, not_false_eq_true, pk_us, pk_un]; done) | ((try simp (disch := omega) only [setR_at, setR_twice, setL_at, setL_twice, setR_2, setL_1, setR_ne, setL_ne, ne_eq, Nat.reduceEqDiff, not_false_eq_true, pk_us, pk_un]); refine Prod.ext (funext fun z => ?_) rfl; simp only [setR]; (repeat' split) <;> first | rfl | (exfalso; omega))) ?_
                            refine aw_iincN (pc := 194) C 1 k [(7, .int (nI (k + 1))), (8, .int (nI ((nn - 1) - k))), (6, .int 1), (0, .ref 73), (1, .int (nI ss)), (2, .int (nI ff)), (3, .int (nI tt)), (4, .int (nI oo)), (5, .int (nI nn))] dX9_copy_194 rfl rfl rfl (Nat.le_of_ble_eq_true rfl) rfl ?_
                            refine aw_goto (pc := 197) C 139 dX9_copy_197 (by decide) ?_
                            refine aw_lvs C [0, 2, 3, 4, 5, 6, 7, 8] [(7, .int (nI (k + 1))), (6, .int 1), (0, .ref 73), (1, .int (nI ss)), (2, .int (nI ff)), (3, .int (nI tt)), (4, .int (nI oo)), (5, .int (nI nn))] rfl ?_
                            exact aw_conv (σ' := setR σ 32 (cpD (σ.1 32) (40 * ss + ff) (40 * tt + oo) nn (k + 1))) (lv' := [(7, .int (nI (k + 1))), (6, .int 1), (0, .ref 73), (1, .int (nI ss)), (2, .int (nI ff)), (3, .int (nI tt)), (4, .int (nI oo)), (5, .int (nI nn))]) (by rw [cpD_s (by omega) (by omega)]) rfl rfl ih139
                    · refine aw_aload_n (pc := 111) C 0 dX9_copy_111 rfl ?_
                      refine aw_ldc (pc := 112) C dX9_copy_112 kc_X9_46 ?_
                      refine aw_cVI (pc := 114) C (c_X9_finds _ (-100000001) 0 (by decide) (by decide)) lk_X9_48 sh73 rfl dX9_copy_114 (by decide) (Nat.le_of_ble_eq_true rfl) rfl rfl ?_
                      exact aw_iretP (pc := 117) C rfl dX9_copy_117 (ps_of (an' := .inl 0) (by rw [sCopy, if_pos ⟨h4, h11⟩, cl_nI (show ss < 2147483648 by omega), cl_nI (show tt < 2147483648 by omega), if_neg (fun z => z.elim h27 h36), if_pos h59, if_neg (fun z => z.2.2.2.2 (Int32.not_le.mp h108))]) rfl rfl)
          · refine aw_aload_n (pc := 62) C 0 dX9_copy_62 rfl ?_
            refine aw_ldcw (pc := 63) C dX9_copy_63 kc_X9_323 ?_
            refine aw_cVI (pc := 66) C (c_X9_finds _ (-100000003) 2 (by decide) (by decide)) lk_X9_48 sh73 rfl dX9_copy_66 (by decide) (Nat.le_of_ble_eq_true rfl) rfl rfl ?_
            exact aw_iretP (pc := 69) C rfl dX9_copy_69 (ps_of (an' := .inl 2) (by rw [sCopy, if_pos ⟨h4, h11⟩, cl_nI (show ss < 2147483648 by omega), cl_nI (show tt < 2147483648 by omega), if_neg (fun z => z.elim h27 h36), if_neg h59]) rfl rfl)
        · refine aw_aload_n (pc := 39) C 0 dX9_copy_39 rfl ?_
          refine aw_ldcw (pc := 40) C dX9_copy_40 kc_X9_319 ?_
          refine aw_cVI (pc := 43) C (c_X9_finds _ (-100000006) 5 (by decide) (by decide)) lk_X9_48 sh73 rfl dX9_copy_43 (by decide) (Nat.le_of_ble_eq_true rfl) rfl rfl ?_
          exact aw_iretP (pc := 46) C rfl dX9_copy_46 (ps_of (an' := .inl 5) (by rw [sCopy, if_pos ⟨h4, h11⟩, cl_nI (show ss < 2147483648 by omega), cl_nI (show tt < 2147483648 by omega), if_pos (Or.inr h36)]) rfl rfl)
    · refine aw_aload_n (pc := 14) C 0 dX9_copy_14 rfl ?_
      refine aw_ldc (pc := 15) C dX9_copy_15 kc_X9_46 ?_
      refine aw_cVI (pc := 17) C (c_X9_finds _ (-100000001) 0 (by decide) (by decide)) lk_X9_48 sh73 rfl dX9_copy_17 (by decide) (Nat.le_of_ble_eq_true rfl) rfl rfl ?_
      exact aw_iretP (pc := 20) C rfl dX9_copy_20 (ps_of (an' := .inl 0) (by rw [sCopy, if_neg (fun z => h11 z.2)]) rfl rfl)
