/-! the class: SHEETS -/
theorem c_X8_sheet (σ : St) (s b n : Int32) : AMet Y_X8_sheet [.ref 0, .int s, .int b, .int n] σ (PCS σ (ksSheet (Ph σ) s b n)) := by
  refine am_intro (by decide +kernel) (Nat.le_of_ble_eq_true rfl) (fun K C => ?_)
  refine aw_iload_n (pc := 0) C 1 dX8_sheet_0 rfl ?_
  refine aw_cSI (pc := 1) C (c_X8_isSheet _ s ) lk_X8_255 dX8_sheet_1 (by decide) (Nat.le_of_ble_eq_true rfl) rfl rfl ?_
  refine aw_if_eqB (pc := 4) C 29 dX8_sheet_4 (by decide) (fun h4 => ?_) (fun h4 => ?_)
  · refine aw_aload_n (pc := 29) C 0 dX8_sheet_29 rfl ?_
    refine aw_iconst (pc := 30) (v := 0) C dX8_sheet_30 rfl ?_
    refine aw_cVI (pc := 31) C (c_X8_found _ 0 (by omega)) lk_X8_78 sh0 rfl dX8_sheet_31 (by decide) (Nat.le_of_ble_eq_true rfl) rfl rfl ?_
    exact aw_iretP (pc := 34) C rfl dX8_sheet_34 (pcs_of (an' := .inl 0) (by rw [ksSheet, if_neg (fun z => h4 z.1)]) rfl rfl)
  · refine aw_iload_n (pc := 7) C 2 dX8_sheet_7 rfl ?_
    refine aw_if_eq (pc := 8) C 35 dX8_sheet_8 (by decide) (fun h8 => ?_) (fun h8 => ?_)
    · refine aw_iload_n (pc := 35) C 3 dX8_sheet_35 rfl ?_
      refine aw_if_ge (pc := 36) C 46 dX8_sheet_36 (by decide) (fun h36 => ?_) (fun h36 => ?_)
      · refine aw_iload_n (pc := 46) C 3 dX8_sheet_46 rfl ?_
        refine aw_bipush (pc := 47) (v := 40) C dX8_sheet_47 rfl ?_
        refine aw_icmp_le (pc := 49) C 58 dX8_sheet_49 (by decide) (fun h49 => ?_) (fun h49 => ?_)
        · obtain ⟨ss, rfl, hss0, hss⟩ := rg 0 3 h4 (by omega) (by omega)
          refine aw_aload_n (pc := 58) C 0 dX8_sheet_58 rfl ?_
          refine aw_getR (pc := 59) C fl_X8_61 sh0 rfl dX8_sheet_59 ?_
          refine aw_iload_n (pc := 62) C 1 dX8_sheet_62 rfl ?_
          refine aw_aald (pc := 63) (k := ss) C sh16 dX8_sheet_63 rfl (by omega) ?_
          refine aw_iload_n (pc := 64) C 2 dX8_sheet_64 rfl ?_
          refine aw_iload_n (pc := 65) C 3 dX8_sheet_65 rfl ?_
          refine aw_cV0 (pc := 66) C (c_X5_lay _ ss (by omega) b n ) lk_X8_258 (shS (by omega)) rfl dX8_sheet_66 (by decide) (Nat.le_of_ble_eq_true rfl) rfl rfl ?_
          refine aw_aload_n (pc := 69) C 0 dX8_sheet_69 rfl ?_
          refine aw_getR (pc := 70) C fl_X8_61 sh0 rfl dX8_sheet_70 ?_
          refine aw_iload_n (pc := 73) C 1 dX8_sheet_73 rfl ?_
          refine aw_aald (pc := 74) (k := ss) C sh16 dX8_sheet_74 rfl (by omega) ?_
          refine aw_gld (pc := 75) C ((filK (upd (upd (σ.1 (14 + ss)) 40 b) 41 (szv b n)) 0 0 40) 41) fl_X8_261 (shS (by omega)) rfl dX8_sheet_75 (by first | with_reducible rfl | (simp (disch := omega) only [setR_at, setR_twice, setL_at, setL_twice, setR_2, setL_1, setR_ne, setL_ne, ne_eq, Nat.reduceEqDiff, not_false_eq_true, pk_us, pk_un]; done) | (simp (disch := omega) only [setR_at, setR_twice, setL_at, setL_twice, setR_2, setL_1, setR_ne, setL_ne, ne_eq, Nat.reduceEqDiff, not_false_eq_true, pk_us, pk_un, Option.toList_some, Option.toList_none, List.cons_append, List.nil_append]; done) | ((try simp (disch := omega) only [setR_at, setR_twice, setL_at, setL_twice, setR_2, setL_1, setR_ne, setL_ne, ne_eq, Nat.reduceEqDiff, not_false_eq_true, pk_us, pk_un]); refine Prod.ext (funext fun z => ?_) rfl; simp only [setR]; (repeat' split) <;> first | with_reducible rfl | (exfalso; omega)) | (simp (disch := omega) only [setR_at, setR_twice, setL_at, setL_twice, setR_2, setL_1, setR_ne, setL_ne, ne_eq, Nat.reduceEqDiff, not_false_eq_true, pk_us, pk_un, setL_010, Option.toList_some, Option.toList_none, List.cons_append, List.nil_append]; done) | rfl) ?_
          refine aw_top C (szv b n) (rfl) ?_
          exact aw_iretP (pc := 78) C rfl dX8_sheet_78 (pcs_of (an' := .inr (szv b n, ss, filK (upd (upd (σ.1 (14 + ss)) 40 b) 41 (szv b n)) 0 0 40)) (by rw [ksSheet, if_pos ⟨h4, Or.inl h8⟩, if_neg (Int32.not_lt.mpr h36), if_neg (Int32.not_lt.mpr h49), cl_nI (show ss < 2147483648 by omega)]) rfl rfl)
        · refine aw_aload_n (pc := 52) C 0 dX8_sheet_52 rfl ?_
          refine aw_iconst (pc := 53) (v := 0) C dX8_sheet_53 rfl ?_
          refine aw_cVI (pc := 54) C (c_X8_found _ 0 (by omega)) lk_X8_78 sh0 rfl dX8_sheet_54 (by decide) (Nat.le_of_ble_eq_true rfl) rfl rfl ?_
          exact aw_iretP (pc := 57) C rfl dX8_sheet_57 (pcs_of (an' := .inl 0) (by rw [ksSheet, if_pos ⟨h4, Or.inl h8⟩, if_neg (Int32.not_lt.mpr h36), if_pos (Int32.not_le.mp h49)]) rfl rfl)
      · refine aw_aload_n (pc := 39) C 0 dX8_sheet_39 rfl ?_
        refine aw_bipush (pc := 40) (v := 6) C dX8_sheet_40 rfl ?_
        refine aw_cVI (pc := 42) C (c_X8_found _ 6 (by omega)) lk_X8_78 sh0 rfl dX8_sheet_42 (by decide) (Nat.le_of_ble_eq_true rfl) rfl rfl ?_
        exact aw_iretP (pc := 45) C rfl dX8_sheet_45 (pcs_of (an' := .inl 6) (by rw [ksSheet, if_pos ⟨h4, Or.inl h8⟩, if_pos (Int32.not_le.mp h36)]) rfl rfl)
    · refine aw_iload_n (pc := 11) C 2 dX8_sheet_11 rfl ?_
      refine aw_bipush (pc := 12) (v := 8) C dX8_sheet_12 rfl ?_
      refine aw_icmp_eq (pc := 14) C 35 dX8_sheet_14 (by decide) (fun h14 => ?_) (fun h14 => ?_)
      · refine aw_iload_n (pc := 35) C 3 dX8_sheet_35 rfl ?_
        refine aw_if_ge (pc := 36) C 46 dX8_sheet_36 (by decide) (fun h36 => ?_) (fun h36 => ?_)
        · refine aw_iload_n (pc := 46) C 3 dX8_sheet_46 rfl ?_
          refine aw_bipush (pc := 47) (v := 40) C dX8_sheet_47 rfl ?_
          refine aw_icmp_le (pc := 49) C 58 dX8_sheet_49 (by decide) (fun h49 => ?_) (fun h49 => ?_)
          · obtain ⟨ss, rfl, hss0, hss⟩ := rg 0 3 h4 (by omega) (by omega)
            refine aw_aload_n (pc := 58) C 0 dX8_sheet_58 rfl ?_
            refine aw_getR (pc := 59) C fl_X8_61 sh0 rfl dX8_sheet_59 ?_
            refine aw_iload_n (pc := 62) C 1 dX8_sheet_62 rfl ?_
            refine aw_aald (pc := 63) (k := ss) C sh16 dX8_sheet_63 rfl (by omega) ?_
            refine aw_iload_n (pc := 64) C 2 dX8_sheet_64 rfl ?_
            refine aw_iload_n (pc := 65) C 3 dX8_sheet_65 rfl ?_
            refine aw_cV0 (pc := 66) C (c_X5_lay _ ss (by omega) b n ) lk_X8_258 (shS (by omega)) rfl dX8_sheet_66 (by decide) (Nat.le_of_ble_eq_true rfl) rfl rfl ?_
            refine aw_aload_n (pc := 69) C 0 dX8_sheet_69 rfl ?_
            refine aw_getR (pc := 70) C fl_X8_61 sh0 rfl dX8_sheet_70 ?_
            refine aw_iload_n (pc := 73) C 1 dX8_sheet_73 rfl ?_
            refine aw_aald (pc := 74) (k := ss) C sh16 dX8_sheet_74 rfl (by omega) ?_
            refine aw_gld (pc := 75) C ((filK (upd (upd (σ.1 (14 + ss)) 40 b) 41 (szv b n)) 0 0 40) 41) fl_X8_261 (shS (by omega)) rfl dX8_sheet_75 (by first | with_reducible rfl | (simp (disch := omega) only [setR_at, setR_twice, setL_at, setL_twice, setR_2, setL_1, setR_ne, setL_ne, ne_eq, Nat.reduceEqDiff, not_false_eq_true, pk_us, pk_un]; done) | (simp (disch := omega) only [setR_at, setR_twice, setL_at, setL_twice, setR_2, setL_1, setR_ne, setL_ne, ne_eq, Nat.reduceEqDiff, not_false_eq_true, pk_us, pk_un, Option.toList_some, Option.toList_none, List.cons_append, List.nil_append]; done) | ((try simp (disch := omega) only [setR_at, setR_twice, setL_at, setL_twice, setR_2, setL_1, setR_ne, setL_ne, ne_eq, Nat.reduceEqDiff, not_false_eq_true, pk_us, pk_un]); refine Prod.ext (funext fun z => ?_) rfl; simp only [setR]; (repeat' split) <;> first | with_reducible rfl | (exfalso; omega)) | (simp (disch := omega) only [setR_at, setR_twice, setL_at, setL_twice, setR_2, setL_1, setR_ne, setL_ne, ne_eq, Nat.reduceEqDiff, not_false_eq_true, pk_us, pk_un, setL_010, Option.toList_some, Option.toList_none, List.cons_append, List.nil_append]; done) | rfl) ?_
            refine aw_top C (szv b n) (rfl) ?_
            exact aw_iretP (pc := 78) C rfl dX8_sheet_78 (pcs_of (an' := .inr (szv b n, ss, filK (upd (upd (σ.1 (14 + ss)) 40 b) 41 (szv b n)) 0 0 40)) (by rw [ksSheet, if_pos ⟨h4, Or.inr (Or.inl h14)⟩, if_neg (Int32.not_lt.mpr h36), if_neg (Int32.not_lt.mpr h49), cl_nI (show ss < 2147483648 by omega)]) rfl rfl)
          · refine aw_aload_n (pc := 52) C 0 dX8_sheet_52 rfl ?_
            refine aw_iconst (pc := 53) (v := 0) C dX8_sheet_53 rfl ?_
            refine aw_cVI (pc := 54) C (c_X8_found _ 0 (by omega)) lk_X8_78 sh0 rfl dX8_sheet_54 (by decide) (Nat.le_of_ble_eq_true rfl) rfl rfl ?_
            exact aw_iretP (pc := 57) C rfl dX8_sheet_57 (pcs_of (an' := .inl 0) (by rw [ksSheet, if_pos ⟨h4, Or.inr (Or.inl h14)⟩, if_neg (Int32.not_lt.mpr h36), if_pos (Int32.not_le.mp h49)]) rfl rfl)
        · refine aw_aload_n (pc := 39) C 0 dX8_sheet_39 rfl ?_
          refine aw_bipush (pc := 40) (v := 6) C dX8_sheet_40 rfl ?_
          refine aw_cVI (pc := 42) C (c_X8_found _ 6 (by omega)) lk_X8_78 sh0 rfl dX8_sheet_42 (by decide) (Nat.le_of_ble_eq_true rfl) rfl rfl ?_
          exact aw_iretP (pc := 45) C rfl dX8_sheet_45 (pcs_of (an' := .inl 6) (by rw [ksSheet, if_pos ⟨h4, Or.inr (Or.inl h14)⟩, if_pos (Int32.not_le.mp h36)]) rfl rfl)
      · refine aw_iload_n (pc := 17) C 2 dX8_sheet_17 rfl ?_
        refine aw_bipush (pc := 18) (v := 16) C dX8_sheet_18 rfl ?_
        refine aw_icmp_eq (pc := 20) C 35 dX8_sheet_20 (by decide) (fun h20 => ?_) (fun h20 => ?_)
        · refine aw_iload_n (pc := 35) C 3 dX8_sheet_35 rfl ?_
          refine aw_if_ge (pc := 36) C 46 dX8_sheet_36 (by decide) (fun h36 => ?_) (fun h36 => ?_)
          · refine aw_iload_n (pc := 46) C 3 dX8_sheet_46 rfl ?_
            refine aw_bipush (pc := 47) (v := 40) C dX8_sheet_47 rfl ?_
            refine aw_icmp_le (pc := 49) C 58 dX8_sheet_49 (by decide) (fun h49 => ?_) (fun h49 => ?_)
            · obtain ⟨ss, rfl, hss0, hss⟩ := rg 0 3 h4 (by omega) (by omega)
              refine aw_aload_n (pc := 58) C 0 dX8_sheet_58 rfl ?_
              refine aw_getR (pc := 59) C fl_X8_61 sh0 rfl dX8_sheet_59 ?_
              refine aw_iload_n (pc := 62) C 1 dX8_sheet_62 rfl ?_
              refine aw_aald (pc := 63) (k := ss) C sh16 dX8_sheet_63 rfl (by omega) ?_
              refine aw_iload_n (pc := 64) C 2 dX8_sheet_64 rfl ?_
              refine aw_iload_n (pc := 65) C 3 dX8_sheet_65 rfl ?_
              refine aw_cV0 (pc := 66) C (c_X5_lay _ ss (by omega) b n ) lk_X8_258 (shS (by omega)) rfl dX8_sheet_66 (by decide) (Nat.le_of_ble_eq_true rfl) rfl rfl ?_
              refine aw_aload_n (pc := 69) C 0 dX8_sheet_69 rfl ?_
              refine aw_getR (pc := 70) C fl_X8_61 sh0 rfl dX8_sheet_70 ?_
              refine aw_iload_n (pc := 73) C 1 dX8_sheet_73 rfl ?_
              refine aw_aald (pc := 74) (k := ss) C sh16 dX8_sheet_74 rfl (by omega) ?_
              refine aw_gld (pc := 75) C ((filK (upd (upd (σ.1 (14 + ss)) 40 b) 41 (szv b n)) 0 0 40) 41) fl_X8_261 (shS (by omega)) rfl dX8_sheet_75 (by first | with_reducible rfl | (simp (disch := omega) only [setR_at, setR_twice, setL_at, setL_twice, setR_2, setL_1, setR_ne, setL_ne, ne_eq, Nat.reduceEqDiff, not_false_eq_true, pk_us, pk_un]; done) | (simp (disch := omega) only [setR_at, setR_twice, setL_at, setL_twice, setR_2, setL_1, setR_ne, setL_ne, ne_eq, Nat.reduceEqDiff, not_false_eq_true, pk_us, pk_un, Option.toList_some, Option.toList_none, List.cons_append, List.nil_append]; done) | ((try simp (disch := omega) only [setR_at, setR_twice, setL_at, setL_twice, setR_2, setL_1, setR_ne, setL_ne, ne_eq, Nat.reduceEqDiff, not_false_eq_true, pk_us, pk_un]); refine Prod.ext (funext fun z => ?_) rfl; simp only [setR]; (repeat' split) <;> first | with_reducible rfl | (exfalso; omega)) | (simp (disch := omega) only [setR_at, setR_twice, setL_at, setL_twice, setR_2, setL_1, setR_ne, setL_ne, ne_eq, Nat.reduceEqDiff, not_false_eq_true, pk_us, pk_un, setL_010, Option.toList_some, Option.toList_none, List.cons_append, List.nil_append]; done) | rfl) ?_
              refine aw_top C (szv b n) (rfl) ?_
              exact aw_iretP (pc := 78) C rfl dX8_sheet_78 (pcs_of (an' := .inr (szv b n, ss, filK (upd (upd (σ.1 (14 + ss)) 40 b) 41 (szv b n)) 0 0 40)) (by rw [ksSheet, if_pos ⟨h4, Or.inr (Or.inr (Or.inl h20))⟩, if_neg (Int32.not_lt.mpr h36), if_neg (Int32.not_lt.mpr h49), cl_nI (show ss < 2147483648 by omega)]) rfl rfl)
            · refine aw_aload_n (pc := 52) C 0 dX8_sheet_52 rfl ?_
              refine aw_iconst (pc := 53) (v := 0) C dX8_sheet_53 rfl ?_
              refine aw_cVI (pc := 54) C (c_X8_found _ 0 (by omega)) lk_X8_78 sh0 rfl dX8_sheet_54 (by decide) (Nat.le_of_ble_eq_true rfl) rfl rfl ?_
              exact aw_iretP (pc := 57) C rfl dX8_sheet_57 (pcs_of (an' := .inl 0) (by rw [ksSheet, if_pos ⟨h4, Or.inr (Or.inr (Or.inl h20))⟩, if_neg (Int32.not_lt.mpr h36), if_pos (Int32.not_le.mp h49)]) rfl rfl)
          · refine aw_aload_n (pc := 39) C 0 dX8_sheet_39 rfl ?_
            refine aw_bipush (pc := 40) (v := 6) C dX8_sheet_40 rfl ?_
            refine aw_cVI (pc := 42) C (c_X8_found _ 6 (by omega)) lk_X8_78 sh0 rfl dX8_sheet_42 (by decide) (Nat.le_of_ble_eq_true rfl) rfl rfl ?_
            exact aw_iretP (pc := 45) C rfl dX8_sheet_45 (pcs_of (an' := .inl 6) (by rw [ksSheet, if_pos ⟨h4, Or.inr (Or.inr (Or.inl h20))⟩, if_pos (Int32.not_le.mp h36)]) rfl rfl)
        · refine aw_iload_n (pc := 23) C 2 dX8_sheet_23 rfl ?_
          refine aw_bipush (pc := 24) (v := 32) C dX8_sheet_24 rfl ?_
          refine aw_icmp_eq (pc := 26) C 35 dX8_sheet_26 (by decide) (fun h26 => ?_) (fun h26 => ?_)
          · refine aw_iload_n (pc := 35) C 3 dX8_sheet_35 rfl ?_
            refine aw_if_ge (pc := 36) C 46 dX8_sheet_36 (by decide) (fun h36 => ?_) (fun h36 => ?_)
            · refine aw_iload_n (pc := 46) C 3 dX8_sheet_46 rfl ?_
              refine aw_bipush (pc := 47) (v := 40) C dX8_sheet_47 rfl ?_
              refine aw_icmp_le (pc := 49) C 58 dX8_sheet_49 (by decide) (fun h49 => ?_) (fun h49 => ?_)
              · obtain ⟨ss, rfl, hss0, hss⟩ := rg 0 3 h4 (by omega) (by omega)
                refine aw_aload_n (pc := 58) C 0 dX8_sheet_58 rfl ?_
                refine aw_getR (pc := 59) C fl_X8_61 sh0 rfl dX8_sheet_59 ?_
                refine aw_iload_n (pc := 62) C 1 dX8_sheet_62 rfl ?_
                refine aw_aald (pc := 63) (k := ss) C sh16 dX8_sheet_63 rfl (by omega) ?_
                refine aw_iload_n (pc := 64) C 2 dX8_sheet_64 rfl ?_
                refine aw_iload_n (pc := 65) C 3 dX8_sheet_65 rfl ?_
                refine aw_cV0 (pc := 66) C (c_X5_lay _ ss (by omega) b n ) lk_X8_258 (shS (by omega)) rfl dX8_sheet_66 (by decide) (Nat.le_of_ble_eq_true rfl) rfl rfl ?_
                refine aw_aload_n (pc := 69) C 0 dX8_sheet_69 rfl ?_
                refine aw_getR (pc := 70) C fl_X8_61 sh0 rfl dX8_sheet_70 ?_
                refine aw_iload_n (pc := 73) C 1 dX8_sheet_73 rfl ?_
                refine aw_aald (pc := 74) (k := ss) C sh16 dX8_sheet_74 rfl (by omega) ?_
                refine aw_gld (pc := 75) C ((filK (upd (upd (σ.1 (14 + ss)) 40 b) 41 (szv b n)) 0 0 40) 41) fl_X8_261 (shS (by omega)) rfl dX8_sheet_75 (by first | with_reducible rfl | (simp (disch := omega) only [setR_at, setR_twice, setL_at, setL_twice, setR_2, setL_1, setR_ne, setL_ne, ne_eq, Nat.reduceEqDiff, not_false_eq_true, pk_us, pk_un]; done) | (simp (disch := omega) only [setR_at, setR_twice, setL_at, setL_twice, setR_2, setL_1, setR_ne, setL_ne, ne_eq, Nat.reduceEqDiff, not_false_eq_true, pk_us, pk_un, Option.toList_some, Option.toList_none, List.cons_append, List.nil_append]; done) | ((try simp (disch := omega) only [setR_at, setR_twice, setL_at, setL_twice, setR_2, setL_1, setR_ne, setL_ne, ne_eq, Nat.reduceEqDiff, not_false_eq_true, pk_us, pk_un]); refine Prod.ext (funext fun z => ?_) rfl; simp only [setR]; (repeat' split) <;> first | with_reducible rfl | (exfalso; omega)) | (simp (disch := omega) only [setR_at, setR_twice, setL_at, setL_twice, setR_2, setL_1, setR_ne, setL_ne, ne_eq, Nat.reduceEqDiff, not_false_eq_true, pk_us, pk_un, setL_010, Option.toList_some, Option.toList_none, List.cons_append, List.nil_append]; done) | rfl) ?_
                refine aw_top C (szv b n) (rfl) ?_
                exact aw_iretP (pc := 78) C rfl dX8_sheet_78 (pcs_of (an' := .inr (szv b n, ss, filK (upd (upd (σ.1 (14 + ss)) 40 b) 41 (szv b n)) 0 0 40)) (by rw [ksSheet, if_pos ⟨h4, Or.inr (Or.inr (Or.inr h26))⟩, if_neg (Int32.not_lt.mpr h36), if_neg (Int32.not_lt.mpr h49), cl_nI (show ss < 2147483648 by omega)]) rfl rfl)
              · refine aw_aload_n (pc := 52) C 0 dX8_sheet_52 rfl ?_
                refine aw_iconst (pc := 53) (v := 0) C dX8_sheet_53 rfl ?_
                refine aw_cVI (pc := 54) C (c_X8_found _ 0 (by omega)) lk_X8_78 sh0 rfl dX8_sheet_54 (by decide) (Nat.le_of_ble_eq_true rfl) rfl rfl ?_
                exact aw_iretP (pc := 57) C rfl dX8_sheet_57 (pcs_of (an' := .inl 0) (by rw [ksSheet, if_pos ⟨h4, Or.inr (Or.inr (Or.inr h26))⟩, if_neg (Int32.not_lt.mpr h36), if_pos (Int32.not_le.mp h49)]) rfl rfl)
            · refine aw_aload_n (pc := 39) C 0 dX8_sheet_39 rfl ?_
              refine aw_bipush (pc := 40) (v := 6) C dX8_sheet_40 rfl ?_
              refine aw_cVI (pc := 42) C (c_X8_found _ 6 (by omega)) lk_X8_78 sh0 rfl dX8_sheet_42 (by decide) (Nat.le_of_ble_eq_true rfl) rfl rfl ?_
              exact aw_iretP (pc := 45) C rfl dX8_sheet_45 (pcs_of (an' := .inl 6) (by rw [ksSheet, if_pos ⟨h4, Or.inr (Or.inr (Or.inr h26))⟩, if_pos (Int32.not_le.mp h36)]) rfl rfl)
          · refine aw_aload_n (pc := 29) C 0 dX8_sheet_29 rfl ?_
            refine aw_iconst (pc := 30) (v := 0) C dX8_sheet_30 rfl ?_
            refine aw_cVI (pc := 31) C (c_X8_found _ 0 (by omega)) lk_X8_78 sh0 rfl dX8_sheet_31 (by decide) (Nat.le_of_ble_eq_true rfl) rfl rfl ?_
            exact aw_iretP (pc := 34) C rfl dX8_sheet_34 (pcs_of (an' := .inl 0) (by rw [ksSheet, if_neg (fun z => z.2.elim h8 (fun z => z.elim h14 (fun z => z.elim h20 h26)))]) rfl rfl)
theorem c_X8_write (σ : St) (hsh : CShOk (Ph σ)) (s i v : Int32) : AMet Y_X8_write [.ref 0, .int s, .int i, .int v] σ (PCS σ (ksWrite (Ph σ) s i v)) := by
  refine am_intro (by decide +kernel) (Nat.le_of_ble_eq_true rfl) (fun K C => ?_)
  refine aw_iload_n (pc := 0) C 1 dX8_write_0 rfl ?_
  refine aw_cSI (pc := 1) C (c_X8_isSheet _ s ) lk_X8_255 dX8_write_1 (by decide) (Nat.le_of_ble_eq_true rfl) rfl rfl ?_
  refine aw_if_neB (pc := 4) C 13 dX8_write_4 (by decide) (fun h4 => ?_) (fun h4 => ?_)
  · obtain ⟨ss, rfl, hss0, hss⟩ := rg 0 3 h4 (by omega) (by omega)
    refine aw_aload_n (pc := 13) C 0 dX8_write_13 rfl ?_
    refine aw_getR (pc := 14) C fl_X8_61 sh0 rfl dX8_write_14 ?_
    refine aw_iload_n (pc := 17) C 1 dX8_write_17 rfl ?_
    refine aw_aald (pc := 18) (k := ss) C sh16 dX8_write_18 rfl (by omega) ?_
    refine aw_cVI (pc := 19) C (c_X5_isMissing _ ss (by omega) ) lk_X8_262 (shS (by omega)) rfl dX8_write_19 (by decide) (Nat.le_of_ble_eq_true rfl) rfl rfl ?_
    refine aw_if_eqB (pc := 22) C 31 dX8_write_22 (by decide) (fun h22 => ?_) (fun h22 => ?_)
    · refine aw_iload_n (pc := 31) C 2 dX8_write_31 rfl ?_
      refine aw_iconst (pc := 32) (v := 0) C dX8_write_32 rfl ?_
      refine aw_aload_n (pc := 33) C 0 dX8_write_33 rfl ?_
      refine aw_getR (pc := 34) C fl_X8_61 sh0 rfl dX8_write_34 ?_
      refine aw_iload_n (pc := 37) C 1 dX8_write_37 rfl ?_
      refine aw_aald (pc := 38) (k := ss) C sh16 dX8_write_38 rfl (by omega) ?_
      refine aw_gld (pc := 39) C ((σ.1 (14 + ss)) 41) fl_X8_261 (shS (by omega)) rfl dX8_write_39 rfl ?_
      refine aw_iconst (pc := 42) (v := 1) C dX8_write_42 rfl ?_
      refine aw_isub (pc := 43) C dX8_write_43 ?_
      refine aw_cSI (pc := 44) C (c_X8_within _ i 0 (((σ.1 (14 + ss)) 41) - 1) ) lk_X8_74 dX8_write_44 (by decide) (Nat.le_of_ble_eq_true rfl) rfl rfl ?_
      refine aw_if_neB (pc := 47) C 56 dX8_write_47 (by decide) (fun h47 => ?_) (fun h47 => ?_)
      · obtain ⟨z, hz4, ez⟩ := hsh ss (by omega)
        obtain ⟨ii, rfl, hii⟩ := idx_nat hz4 ez h47
        refine aw_aload_n (pc := 56) C 0 dX8_write_56 rfl ?_
        refine aw_getR (pc := 57) C fl_X8_61 sh0 rfl dX8_write_57 ?_
        refine aw_iload_n (pc := 60) C 1 dX8_write_60 rfl ?_
        refine aw_aald (pc := 61) (k := ss) C sh16 dX8_write_61 rfl (by omega) ?_
        refine aw_iload_n (pc := 62) C 2 dX8_write_62 rfl ?_
        refine aw_iload_n (pc := 63) C 3 dX8_write_63 rfl ?_
        refine aw_cV0 (pc := 64) C (c_X5_put _ ss (by omega) ii v (by omega)) lk_X8_265 (shS (by omega)) rfl dX8_write_64 (by decide) (Nat.le_of_ble_eq_true rfl) rfl rfl ?_
        refine aw_iconst (pc := 67) (v := 1) C dX8_write_67 rfl ?_
        exact aw_iretP (pc := 68) C rfl dX8_write_68 (pcs_of (an' := .inr (1, ss, upd (σ.1 (14 + ss)) ii (wv (σ.1 (14 + ss) 40) v))) (by rw [ksWrite, if_pos h4, cl_nI (show ss < 2147483648 by omega), if_neg (show ¬ Ph σ ss 40 = 0 from h22), if_pos (show 0 ≤ nI ii ∧ nI ii ≤ Ph σ ss 41 - 1 from h47), cl_nI (show ii < 2147483648 by omega)]) rfl rfl)
      · refine aw_aload_n (pc := 50) C 0 dX8_write_50 rfl ?_
        refine aw_iconst (pc := 51) (v := 0) C dX8_write_51 rfl ?_
        refine aw_cVI (pc := 52) C (c_X8_found _ 0 (by omega)) lk_X8_78 sh0 rfl dX8_write_52 (by decide) (Nat.le_of_ble_eq_true rfl) rfl rfl ?_
        exact aw_iretP (pc := 55) C rfl dX8_write_55 (pcs_of (an' := .inl 0) (by rw [ksWrite, if_pos h4, cl_nI (show ss < 2147483648 by omega), if_neg (show ¬ Ph σ ss 40 = 0 from h22), if_neg (show ¬ (0 ≤ i ∧ i ≤ Ph σ ss 41 - 1) from h47)]) rfl rfl)
    · refine aw_aload_n (pc := 25) C 0 dX8_write_25 rfl ?_
      refine aw_iconst (pc := 26) (v := 5) C dX8_write_26 rfl ?_
      refine aw_cVI (pc := 27) C (c_X8_found _ 5 (by omega)) lk_X8_78 sh0 rfl dX8_write_27 (by decide) (Nat.le_of_ble_eq_true rfl) rfl rfl ?_
      exact aw_iretP (pc := 30) C rfl dX8_write_30 (pcs_of (an' := .inl 5) (by rw [ksWrite, if_pos h4, cl_nI (show ss < 2147483648 by omega), if_pos (show Ph σ ss 40 = 0 from h22)]) rfl rfl)
  · refine aw_aload_n (pc := 7) C 0 dX8_write_7 rfl ?_
    refine aw_iconst (pc := 8) (v := 0) C dX8_write_8 rfl ?_
    refine aw_cVI (pc := 9) C (c_X8_found _ 0 (by omega)) lk_X8_78 sh0 rfl dX8_write_9 (by decide) (Nat.le_of_ble_eq_true rfl) rfl rfl ?_
    exact aw_iretP (pc := 12) C rfl dX8_write_12 (pcs_of (an' := .inl 0) (by rw [ksWrite, if_neg (fun z => h4 z)]) rfl rfl)
theorem c_X8_copy (σ : St) (hsh : CShOk (Ph σ)) (s f t o n : Int32) : AMet Y_X8_copy [.ref 0, .int s, .int f, .int t, .int o, .int n] σ (PCS σ (ksCopy (Ph σ) s f t o n)) := by
  refine am_intro (by decide +kernel) (Nat.le_of_ble_eq_true rfl) (fun K C => ?_)
  refine aw_iload_n (pc := 0) C 1 dX8_copy_0 rfl ?_
  refine aw_cSI (pc := 1) C (c_X8_isSheet _ s ) lk_X8_255 dX8_copy_1 (by decide) (Nat.le_of_ble_eq_true rfl) rfl rfl ?_
  refine aw_if_eqB (pc := 4) C 14 dX8_copy_4 (by decide) (fun h4 => ?_) (fun h4 => ?_)
  · refine aw_aload_n (pc := 14) C 0 dX8_copy_14 rfl ?_
    refine aw_iconst (pc := 15) (v := 0) C dX8_copy_15 rfl ?_
    refine aw_cVI (pc := 16) C (c_X8_found _ 0 (by omega)) lk_X8_78 sh0 rfl dX8_copy_16 (by decide) (Nat.le_of_ble_eq_true rfl) rfl rfl ?_
    exact aw_iretP (pc := 19) C rfl dX8_copy_19 (pcs_of (an' := .inl 0) (by rw [ksCopy, if_neg (fun z => h4 z.1)]) rfl rfl)
  · refine aw_iload_n (pc := 7) C 3 dX8_copy_7 rfl ?_
    refine aw_cSI (pc := 8) C (c_X8_isSheet _ t ) lk_X8_255 dX8_copy_8 (by decide) (Nat.le_of_ble_eq_true rfl) rfl rfl ?_
    refine aw_if_neB (pc := 11) C 20 dX8_copy_11 (by decide) (fun h11 => ?_) (fun h11 => ?_)
    · obtain ⟨ss, rfl, hss0, hss⟩ := rg 0 3 h4 (by omega) (by omega)
      obtain ⟨tt, rfl, htt0, htt⟩ := rg 0 3 h11 (by omega) (by omega)
      refine aw_aload_n (pc := 20) C 0 dX8_copy_20 rfl ?_
      refine aw_getR (pc := 21) C fl_X8_61 sh0 rfl dX8_copy_21 ?_
      refine aw_iload_n (pc := 24) C 1 dX8_copy_24 rfl ?_
      refine aw_aald (pc := 25) (k := ss) C sh16 dX8_copy_25 rfl (by omega) ?_
      refine aw_astore (pc := 26) C [(6, .ref (17 + 2 * ss)), (0, .ref 0), (1, .int (nI ss)), (2, .int f), (3, .int (nI tt)), (4, .int o), (5, .int n)] dX8_copy_26 (Nat.le_of_ble_eq_true rfl) rfl ?_
      refine aw_aload_n (pc := 28) C 1 dX8_copy_28 rfl ?_
      refine aw_getR (pc := 29) C fl_X8_61 sh0 rfl dX8_copy_29 ?_
      refine aw_iload_n (pc := 32) C 4 dX8_copy_32 rfl ?_
      refine aw_aald (pc := 33) (k := tt) C sh16 dX8_copy_33 rfl (by omega) ?_
      refine aw_astore (pc := 34) C [(7, .ref (17 + 2 * tt)), (6, .ref (17 + 2 * ss)), (0, .ref 0), (1, .int (nI ss)), (2, .int f), (3, .int (nI tt)), (4, .int o), (5, .int n)] dX8_copy_34 (Nat.le_of_ble_eq_true rfl) rfl ?_
      refine aw_aload (pc := 36) C 1 dX8_copy_36 rfl ?_
      refine aw_cVI (pc := 38) C (c_X5_isMissing _ ss (by omega) ) lk_X8_262 (shS (by omega)) rfl dX8_copy_38 (by decide) (Nat.le_of_ble_eq_true rfl) rfl rfl ?_
      refine aw_if_neB (pc := 41) C 52 dX8_copy_41 (by decide) (fun h41 => ?_) (fun h41 => ?_)
      · refine aw_aload_n (pc := 52) C 2 dX8_copy_52 rfl ?_
        refine aw_iconst (pc := 53) (v := 5) C dX8_copy_53 rfl ?_
        refine aw_cVI (pc := 54) C (c_X8_found _ 5 (by omega)) lk_X8_78 sh0 rfl dX8_copy_54 (by decide) (Nat.le_of_ble_eq_true rfl) rfl rfl ?_
        exact aw_iretP (pc := 57) C rfl dX8_copy_57 (pcs_of (an' := .inl 5) (by rw [ksCopy, if_pos ⟨h4, h11⟩, cl_nI (show ss < 2147483648 by omega), cl_nI (show tt < 2147483648 by omega), if_pos (show Ph σ ss 40 = 0 ∨ Ph σ tt 40 = 0 from Or.inl h41)]) rfl rfl)
      · refine aw_aload (pc := 44) C 0 dX8_copy_44 rfl ?_
        refine aw_cVI (pc := 46) C (c_X5_isMissing _ tt (by omega) ) lk_X8_262 (shS (by omega)) rfl dX8_copy_46 (by decide) (Nat.le_of_ble_eq_true rfl) rfl rfl ?_
        refine aw_if_eqB (pc := 49) C 58 dX8_copy_49 (by decide) (fun h49 => ?_) (fun h49 => ?_)
        · refine aw_aload (pc := 58) C 1 dX8_copy_58 rfl ?_
          refine aw_gld (pc := 60) C ((σ.1 (14 + ss)) 40) fl_X8_266 (shS (by omega)) rfl dX8_copy_60 rfl ?_
          refine aw_aload (pc := 63) C 0 dX8_copy_63 rfl ?_
          refine aw_gld (pc := 65) C ((σ.1 (14 + tt)) 40) fl_X8_266 (shS (by omega)) rfl dX8_copy_65 rfl ?_
          refine aw_icmp_eq (pc := 68) C 77 dX8_copy_68 (by decide) (fun h68 => ?_) (fun h68 => ?_)
          · refine aw_aload (pc := 77) C 1 dX8_copy_77 rfl ?_
            refine aw_iload_n (pc := 79) C 4 dX8_copy_79 rfl ?_
            refine aw_iload (pc := 80) C 7 dX8_copy_80 rfl ?_
            refine aw_cVI (pc := 82) C (c_X5_hasRow _ ss (by omega) f n ) lk_X8_269 (shS (by omega)) rfl dX8_copy_82 (by decide) (Nat.le_of_ble_eq_true rfl) rfl rfl ?_
            refine aw_if_eqB (pc := 85) C 100 dX8_copy_85 (by decide) (fun h85 => ?_) (fun h85 => ?_)
            · refine aw_aload_n (pc := 100) C 2 dX8_copy_100 rfl ?_
              refine aw_iconst (pc := 101) (v := 0) C dX8_copy_101 rfl ?_
              refine aw_cVI (pc := 102) C (c_X8_found _ 0 (by omega)) lk_X8_78 sh0 rfl dX8_copy_102 (by decide) (Nat.le_of_ble_eq_true rfl) rfl rfl ?_
              exact aw_iretP (pc := 105) C rfl dX8_copy_105 (pcs_of (an' := .inl 0) (by rw [ksCopy, if_pos ⟨h4, h11⟩, cl_nI (show ss < 2147483648 by omega), cl_nI (show tt < 2147483648 by omega), if_neg (show ¬ (Ph σ ss 40 = 0 ∨ Ph σ tt 40 = 0) from fun z => z.elim h41 h49), if_pos (show Ph σ ss 40 = Ph σ tt 40 from h68), if_neg (show ¬ (hrP (Ph σ ss 41) f n ∧ hrP (Ph σ tt 41) o n) from fun z => h85 z.1)]) rfl rfl)
            · refine aw_aload (pc := 88) C 0 dX8_copy_88 rfl ?_
              refine aw_iload (pc := 90) C 6 dX8_copy_90 rfl ?_
              refine aw_iload (pc := 92) C 7 dX8_copy_92 rfl ?_
              refine aw_cVI (pc := 94) C (c_X5_hasRow _ tt (by omega) o n ) lk_X8_269 (shS (by omega)) rfl dX8_copy_94 (by decide) (Nat.le_of_ble_eq_true rfl) rfl rfl ?_
              refine aw_if_neB (pc := 97) C 106 dX8_copy_97 (by decide) (fun h97 => ?_) (fun h97 => ?_)
              · obtain ⟨z1, hz1, ez1⟩ := hsh ss (by omega)
                obtain ⟨z2, hz2, ez2⟩ := hsh tt (by omega)
                obtain ⟨ff, nn, rfl, rfl, hfn⟩ := hr_nat hz1 ez1 h85
                obtain ⟨oo, mm, rfl, emm, hom⟩ := hr_nat hz2 ez2 h97
                have hnm : nn = mm := (nI_eq (by omega) (by omega)).mp emm
                refine aw_aload (pc := 106) C 1 dX8_copy_106 rfl ?_
                refine aw_getR (pc := 108) C fl_X8_273 (shS (by omega)) rfl dX8_copy_108 ?_
                refine aw_iload_n (pc := 111) C 4 dX8_copy_111 rfl ?_
                refine aw_aload (pc := 112) C 0 dX8_copy_112 rfl ?_
                refine aw_getR (pc := 114) C fl_X8_273 (shS (by omega)) rfl dX8_copy_114 ?_
                refine aw_iload (pc := 117) C 6 dX8_copy_117 rfl ?_
                refine aw_iload (pc := 119) C 7 dX8_copy_119 rfl ?_
                refine aw_copyI (pc := 121) (sp := ff) (dp := oo) (n := nn) C (shN (by omega)) (shN (by omega)) ac_X8_276 (by decide) rfl rfl rfl (by omega) (by omega) (Nat.le_of_ble_eq_true rfl) dX8_copy_121 ?_
                refine aw_iload (pc := 124) C 7 dX8_copy_124 rfl ?_
                exact aw_iretP (pc := 126) C rfl dX8_copy_126 (pcs_of (an' := .inr (nI nn, tt, cpyR (σ.1 (14 + ss)) (σ.1 (14 + tt)) ff oo nn)) (by rw [ksCopy, if_pos ⟨h4, h11⟩, cl_nI (show ss < 2147483648 by omega), cl_nI (show tt < 2147483648 by omega), if_neg (show ¬ (Ph σ ss 40 = 0 ∨ Ph σ tt 40 = 0) from fun z => z.elim h41 h49), if_pos (show Ph σ ss 40 = Ph σ tt 40 from h68), if_pos (show hrP (Ph σ ss 41) (nI ff) (nI nn) ∧ hrP (Ph σ tt 41) (nI oo) (nI nn) from ⟨h85, h97⟩), cl_nI (show ff < 2147483648 by omega), cl_nI (show oo < 2147483648 by omega), cl_nI (show nn < 2147483648 by omega)]) rfl rfl)
              · refine aw_aload_n (pc := 100) C 2 dX8_copy_100 rfl ?_
                refine aw_iconst (pc := 101) (v := 0) C dX8_copy_101 rfl ?_
                refine aw_cVI (pc := 102) C (c_X8_found _ 0 (by omega)) lk_X8_78 sh0 rfl dX8_copy_102 (by decide) (Nat.le_of_ble_eq_true rfl) rfl rfl ?_
                exact aw_iretP (pc := 105) C rfl dX8_copy_105 (pcs_of (an' := .inl 0) (by rw [ksCopy, if_pos ⟨h4, h11⟩, cl_nI (show ss < 2147483648 by omega), cl_nI (show tt < 2147483648 by omega), if_neg (show ¬ (Ph σ ss 40 = 0 ∨ Ph σ tt 40 = 0) from fun z => z.elim h41 h49), if_pos (show Ph σ ss 40 = Ph σ tt 40 from h68), if_neg (show ¬ (hrP (Ph σ ss 41) f n ∧ hrP (Ph σ tt 41) o n) from fun z => h97 z.2)]) rfl rfl)
          · refine aw_aload_n (pc := 71) C 2 dX8_copy_71 rfl ?_
            refine aw_iconst (pc := 72) (v := 2) C dX8_copy_72 rfl ?_
            refine aw_cVI (pc := 73) C (c_X8_found _ 2 (by omega)) lk_X8_78 sh0 rfl dX8_copy_73 (by decide) (Nat.le_of_ble_eq_true rfl) rfl rfl ?_
            exact aw_iretP (pc := 76) C rfl dX8_copy_76 (pcs_of (an' := .inl 2) (by rw [ksCopy, if_pos ⟨h4, h11⟩, cl_nI (show ss < 2147483648 by omega), cl_nI (show tt < 2147483648 by omega), if_neg (show ¬ (Ph σ ss 40 = 0 ∨ Ph σ tt 40 = 0) from fun z => z.elim h41 h49), if_neg (show ¬ Ph σ ss 40 = Ph σ tt 40 from h68)]) rfl rfl)
        · refine aw_aload_n (pc := 52) C 2 dX8_copy_52 rfl ?_
          refine aw_iconst (pc := 53) (v := 5) C dX8_copy_53 rfl ?_
          refine aw_cVI (pc := 54) C (c_X8_found _ 5 (by omega)) lk_X8_78 sh0 rfl dX8_copy_54 (by decide) (Nat.le_of_ble_eq_true rfl) rfl rfl ?_
          exact aw_iretP (pc := 57) C rfl dX8_copy_57 (pcs_of (an' := .inl 5) (by rw [ksCopy, if_pos ⟨h4, h11⟩, cl_nI (show ss < 2147483648 by omega), cl_nI (show tt < 2147483648 by omega), if_pos (show Ph σ ss 40 = 0 ∨ Ph σ tt 40 = 0 from Or.inr h49)]) rfl rfl)
    · refine aw_aload_n (pc := 14) C 0 dX8_copy_14 rfl ?_
      refine aw_iconst (pc := 15) (v := 0) C dX8_copy_15 rfl ?_
      refine aw_cVI (pc := 16) C (c_X8_found _ 0 (by omega)) lk_X8_78 sh0 rfl dX8_copy_16 (by decide) (Nat.le_of_ble_eq_true rfl) rfl rfl ?_
      exact aw_iretP (pc := 19) C rfl dX8_copy_19 (pcs_of (an' := .inl 0) (by rw [ksCopy, if_neg (fun z => h11 z.2)]) rfl rfl)
