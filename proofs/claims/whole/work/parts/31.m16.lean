/-! the reference: SPOTS, SHEETS, images, counts -/
theorem yard_nat {j : Nat} (h : j < 1000) : (0 ≤ nI j ∧ nI j ≤ 29) ↔ j < 30 := by
  have e : nI j ≤ 29 ↔ j ≤ 29 := nI_leI (b := 29) (by omega) (by omega)
  rw [e]
  exact ⟨fun z => by omega, fun z => ⟨nI_pos' (by omega), by omega⟩⟩
theorem c_X9_hold (σ : St) (n : Nat) (hn : σ.1 20 2 = nI n) (hz : n ≤ 6) (s r : Int32) : AMet Y_X9_hold [.ref 73, .int s, .int r] σ (PM σ (sHold (σ.1 20) n s r)) := by
  refine am_intro (by decide +kernel) (Nat.le_of_ble_eq_true rfl) (fun K C => ?_)
  refine aw_iload_n (pc := 0) C 1 dX9_hold_0 rfl ?_
  refine aw_i2l (pc := 1) C dX9_hold_1 ?_
  refine aw_lconst (pc := 2) (v := 0) C dX9_hold_2 rfl ?_
  refine aw_ldc2 (pc := 3) C dX9_hold_3 kc_X9_58 ?_
  refine aw_cSI (pc := 6) C (c_X9_in _ s 0 9 _ _ _ rfl (by decide) (by decide)) lk_X9_54 dX9_hold_6 (by decide) (Nat.le_of_ble_eq_true rfl) rfl rfl ?_
  refine aw_if_eqB (pc := 9) C 25 dX9_hold_9 (by decide) (fun h9 => ?_) (fun h9 => ?_)
  · refine aw_aload_n (pc := 25) C 0 dX9_hold_25 rfl ?_
    refine aw_ldc (pc := 26) C dX9_hold_26 kc_X9_46 ?_
    refine aw_cVI (pc := 28) C (c_X9_finds _ (-100000001) 0 (by decide) (by decide)) lk_X9_48 sh73 rfl dX9_hold_28 (by decide) (Nat.le_of_ble_eq_true rfl) rfl rfl ?_
    exact aw_iretP (pc := 31) C rfl dX9_hold_31 (pm_of (an' := .inl 0) (by rw [sHold, if_neg (fun z => h9 z.1)]) rfl rfl)
  · refine aw_iload_n (pc := 12) C 2 dX9_hold_12 rfl ?_
    refine aw_iconst (pc := 13) (v := (-1)) C dX9_hold_13 rfl ?_
    refine aw_icmp_eq (pc := 14) C 32 dX9_hold_14 (by decide) (fun h14 => ?_) (fun h14 => ?_)
    · obtain ⟨ss, rfl, hss0, hss⟩ := rg 0 9 h9 (by omega) (by omega)
      refine aw_aload_n (pc := 32) C 0 dX9_hold_32 rfl ?_
      refine aw_getR (pc := 33) C fl_X9_9 sh73 rfl dX9_hold_33 ?_
      refine aw_sipush (pc := 36) (v := 255) C dX9_hold_36 rfl ?_
      refine aw_iload_n (pc := 39) C 1 dX9_hold_39 rfl ?_
      refine aw_iaddN (pc := 40) C 255 ss rfl rfl dX9_hold_40 ?_
      refine aw_iload_n (pc := 41) C 2 dX9_hold_41 rfl ?_
      refine aw_ist (pc := 42) (k := 255 + ss) C (255 + ss) (setR σ 20 (upd (σ.1 20) (255 + ss) (r))) sh74 dX9_hold_42 rfl (by omega) rfl rfl ?_
      refine aw_iconst (pc := 43) (v := 1) C dX9_hold_43 rfl ?_
      exact aw_iretP (pc := 44) C rfl dX9_hold_44 (pm_of (an' := .inr (1, upd (σ.1 20) (255 + ss) (r))) (by rw [sHold, if_pos ⟨h9, Or.inl h14⟩, cl_nI (show ss < 2147483648 by omega)]) rfl rfl)
    · refine aw_aload_n (pc := 17) C 0 dX9_hold_17 rfl ?_
      refine aw_iload_n (pc := 18) C 2 dX9_hold_18 rfl ?_
      refine aw_cVI (pc := 19) C (c_X9_isRunner _ n hn hz r ) lk_X9_91 sh73 rfl dX9_hold_19 (by decide) (Nat.le_of_ble_eq_true rfl) rfl rfl ?_
      refine aw_if_neB (pc := 22) C 32 dX9_hold_22 (by decide) (fun h22 => ?_) (fun h22 => ?_)
      · obtain ⟨ss, rfl, hss0, hss⟩ := rg 0 9 h9 (by omega) (by omega)
        refine aw_aload_n (pc := 32) C 0 dX9_hold_32 rfl ?_
        refine aw_getR (pc := 33) C fl_X9_9 sh73 rfl dX9_hold_33 ?_
        refine aw_sipush (pc := 36) (v := 255) C dX9_hold_36 rfl ?_
        refine aw_iload_n (pc := 39) C 1 dX9_hold_39 rfl ?_
        refine aw_iaddN (pc := 40) C 255 ss rfl rfl dX9_hold_40 ?_
        refine aw_iload_n (pc := 41) C 2 dX9_hold_41 rfl ?_
        refine aw_ist (pc := 42) (k := 255 + ss) C (255 + ss) (setR σ 20 (upd (σ.1 20) (255 + ss) (r))) sh74 dX9_hold_42 rfl (by omega) rfl rfl ?_
        refine aw_iconst (pc := 43) (v := 1) C dX9_hold_43 rfl ?_
        exact aw_iretP (pc := 44) C rfl dX9_hold_44 (pm_of (an' := .inr (1, upd (σ.1 20) (255 + ss) (r))) (by rw [sHold, if_pos ⟨h9, Or.inr h22⟩, cl_nI (show ss < 2147483648 by omega)]) rfl rfl)
      · refine aw_aload_n (pc := 25) C 0 dX9_hold_25 rfl ?_
        refine aw_ldc (pc := 26) C dX9_hold_26 kc_X9_46 ?_
        refine aw_cVI (pc := 28) C (c_X9_finds _ (-100000001) 0 (by decide) (by decide)) lk_X9_48 sh73 rfl dX9_hold_28 (by decide) (Nat.le_of_ble_eq_true rfl) rfl rfl ?_
        exact aw_iretP (pc := 31) C rfl dX9_hold_31 (pm_of (an' := .inl 0) (by rw [sHold, if_neg (fun z => z.2.elim h14 h22)]) rfl rfl)
theorem c_X9_above_0 (σ : St) : AMet Y_X9_above [.int 0] σ (fz (some (.int (-1))) (σ)) := by
  refine am_intro (by decide +kernel) (Nat.le_of_ble_eq_true rfl) (fun K C => ?_)
  refine aw_iload_n (pc := 0) C 0 dX9_above_0 rfl ?_
  refine aw_tableIn (pc := 1) C 44 dX9_above_1 (by decide) (by decide) rfl (by decide) ?_
  refine aw_iconst (pc := 44) (v := (-1)) C dX9_above_44 rfl ?_
  exact aw_iret (pc := 45) C rfl dX9_above_45 rfl rfl
theorem c_X9_above_1 (σ : St) : AMet Y_X9_above [.int 1] σ (fz (some (.int (0))) (σ)) := by
  refine am_intro (by decide +kernel) (Nat.le_of_ble_eq_true rfl) (fun K C => ?_)
  refine aw_iload_n (pc := 0) C 0 dX9_above_0 rfl ?_
  refine aw_tableIn (pc := 1) C 50 dX9_above_1 (by decide) (by decide) rfl (by decide) ?_
  refine aw_iconst (pc := 50) (v := 0) C dX9_above_50 rfl ?_
  exact aw_iret (pc := 51) C rfl dX9_above_51 rfl rfl
theorem c_X9_above_2 (σ : St) : AMet Y_X9_above [.int 2] σ (fz (some (.int (0))) (σ)) := by
  refine am_intro (by decide +kernel) (Nat.le_of_ble_eq_true rfl) (fun K C => ?_)
  refine aw_iload_n (pc := 0) C 0 dX9_above_0 rfl ?_
  refine aw_tableIn (pc := 1) C 50 dX9_above_1 (by decide) (by decide) rfl (by decide) ?_
  refine aw_iconst (pc := 50) (v := 0) C dX9_above_50 rfl ?_
  exact aw_iret (pc := 51) C rfl dX9_above_51 rfl rfl
theorem c_X9_above_3 (σ : St) : AMet Y_X9_above [.int 3] σ (fz (some (.int (0))) (σ)) := by
  refine am_intro (by decide +kernel) (Nat.le_of_ble_eq_true rfl) (fun K C => ?_)
  refine aw_iload_n (pc := 0) C 0 dX9_above_0 rfl ?_
  refine aw_tableIn (pc := 1) C 50 dX9_above_1 (by decide) (by decide) rfl (by decide) ?_
  refine aw_iconst (pc := 50) (v := 0) C dX9_above_50 rfl ?_
  exact aw_iret (pc := 51) C rfl dX9_above_51 rfl rfl
theorem c_X9_above_4 (σ : St) : AMet Y_X9_above [.int 4] σ (fz (some (.int (1))) (σ)) := by
  refine am_intro (by decide +kernel) (Nat.le_of_ble_eq_true rfl) (fun K C => ?_)
  refine aw_iload_n (pc := 0) C 0 dX9_above_0 rfl ?_
  refine aw_tableIn (pc := 1) C 46 dX9_above_1 (by decide) (by decide) rfl (by decide) ?_
  refine aw_iconst (pc := 46) (v := 1) C dX9_above_46 rfl ?_
  exact aw_iret (pc := 47) C rfl dX9_above_47 rfl rfl
theorem c_X9_above_5 (σ : St) : AMet Y_X9_above [.int 5] σ (fz (some (.int (1))) (σ)) := by
  refine am_intro (by decide +kernel) (Nat.le_of_ble_eq_true rfl) (fun K C => ?_)
  refine aw_iload_n (pc := 0) C 0 dX9_above_0 rfl ?_
  refine aw_tableIn (pc := 1) C 46 dX9_above_1 (by decide) (by decide) rfl (by decide) ?_
  refine aw_iconst (pc := 46) (v := 1) C dX9_above_46 rfl ?_
  exact aw_iret (pc := 47) C rfl dX9_above_47 rfl rfl
theorem c_X9_above_6 (σ : St) : AMet Y_X9_above [.int 6] σ (fz (some (.int (2))) (σ)) := by
  refine am_intro (by decide +kernel) (Nat.le_of_ble_eq_true rfl) (fun K C => ?_)
  refine aw_iload_n (pc := 0) C 0 dX9_above_0 rfl ?_
  refine aw_tableIn (pc := 1) C 48 dX9_above_1 (by decide) (by decide) rfl (by decide) ?_
  refine aw_iconst (pc := 48) (v := 2) C dX9_above_48 rfl ?_
  exact aw_iret (pc := 49) C rfl dX9_above_49 rfl rfl
theorem c_X9_as (σ : St) (n : Nat) (hok : Ok n (σ.1 20)) (s k : Int32) : AMet Y_X9_as [.ref 73, .int s, .int k] σ (PM σ (sAs (σ.1 20) s k)) := by
  refine am_intro (by decide +kernel) (Nat.le_of_ble_eq_true rfl) (fun K C => ?_)
  have hz := hok.1
  have hn := hok.2.1
  refine aw_iload_n (pc := 0) C 1 dX9_as_0 rfl ?_
  refine aw_i2l (pc := 1) C dX9_as_1 ?_
  refine aw_lconst (pc := 2) (v := 0) C dX9_as_2 rfl ?_
  refine aw_ldc2 (pc := 3) C dX9_as_3 kc_X9_58 ?_
  refine aw_cSI (pc := 6) C (c_X9_in _ s 0 9 _ _ _ rfl (by decide) (by decide)) lk_X9_54 dX9_as_6 (by decide) (Nat.le_of_ble_eq_true rfl) rfl rfl ?_
  refine aw_if_eqB (pc := 9) C 19 dX9_as_9 (by decide) (fun h9 => ?_) (fun h9 => ?_)
  · refine aw_aload_n (pc := 19) C 0 dX9_as_19 rfl ?_
    refine aw_ldc (pc := 20) C dX9_as_20 kc_X9_46 ?_
    refine aw_cVI (pc := 22) C (c_X9_finds _ (-100000001) 0 (by decide) (by decide)) lk_X9_48 sh73 rfl dX9_as_22 (by decide) (Nat.le_of_ble_eq_true rfl) rfl rfl ?_
    exact aw_iretP (pc := 25) C rfl dX9_as_25 (pm_of (an' := .inl 0) (by rw [sAs, if_neg (fun z => h9 z.1)]) rfl rfl)
  · refine aw_iload_n (pc := 12) C 2 dX9_as_12 rfl ?_
    refine aw_cSI (pc := 13) C (c_X9_isKind _ k ) lk_X9_81 dX9_as_13 (by decide) (Nat.le_of_ble_eq_true rfl) rfl rfl ?_
    refine aw_if_neB (pc := 16) C 26 dX9_as_16 (by decide) (fun h16 => ?_) (fun h16 => ?_)
    · obtain ⟨ss, rfl, hss0, hss⟩ := rg 0 9 h9 (by omega) (by omega)
      refine aw_aload_n (pc := 26) C 0 dX9_as_26 rfl ?_
      refine aw_getR (pc := 27) C fl_X9_9 sh73 rfl dX9_as_27 ?_
      refine aw_sipush (pc := 30) (v := 255) C dX9_as_30 rfl ?_
      refine aw_iload_n (pc := 33) C 1 dX9_as_33 rfl ?_
      refine aw_iaddN (pc := 34) C 255 ss rfl rfl dX9_as_34 ?_
      refine aw_ild (pc := 35) (k := 255 + ss) C (255 + ss) (σ.1 20 (255 + ss)) sh74 dX9_as_35 rfl (by omega) rfl rfl ?_
      refine aw_istore_n (pc := 36) C [(3, .int (σ.1 20 (255 + ss))), (0, .ref 73), (1, .int (nI ss)), (2, .int k)] dX9_as_36 (Nat.le_of_ble_eq_true rfl) rfl ?_
      rcases hok.2.2.2.2.2 ss (by omega) with he | ⟨q, hq, he⟩
      · refine aw_conv (σ' := σ) (lv' := [(3, .int ((-1))), (0, .ref 73), (1, .int (nI ss)), (2, .int k)]) rfl (by rw [he]) rfl ?_
        refine aw_iload_n (pc := 37) C 0 dX9_as_37 rfl ?_
        refine aw_if_ge (pc := 38) C 49 dX9_as_38 (by decide) (fun h38 => absurd h38 (by decide)) (fun h38 => ?_)
        refine aw_aload_n (pc := 41) C 1 dX9_as_41 rfl ?_
        refine aw_ldcw (pc := 42) C dX9_as_42 kc_X9_319 ?_
        refine aw_cVI (pc := 45) C (c_X9_finds _ (-100000006) 5 (by decide) (by decide)) lk_X9_48 sh73 rfl dX9_as_45 (by decide) (Nat.le_of_ble_eq_true rfl) rfl rfl ?_
        exact aw_iretP (pc := 48) C rfl dX9_as_48 (pm_of (an' := .inl 5) (by rw [sAs, if_pos ⟨h9, h16⟩, cl_nI (show ss < 2147483648 by omega), he, if_pos (by decide)]) rfl rfl)
      · refine aw_conv (σ' := σ) (lv' := [(3, .int (nI q)), (0, .ref 73), (1, .int (nI ss)), (2, .int k)]) rfl (by rw [he]) rfl ?_
        refine aw_iload_n (pc := 37) C 0 dX9_as_37 rfl ?_
        refine aw_if_ge (pc := 38) C 49 dX9_as_38 (by decide) (fun h38 => ?_) (fun h38 => absurd h38 (fun z => z (nI_pos' (by omega))))
        refine aw_aload_n (pc := 49) C 1 dX9_as_49 rfl ?_
        refine aw_iload_n (pc := 50) C 0 dX9_as_50 rfl ?_
        refine aw_iconst (pc := 51) (v := 0) C dX9_as_51 rfl ?_
        refine aw_cVI (pc := 52) C (c_X9_is _ q 0 (by omega)) lk_X9_62 sh73 rfl dX9_as_52 (by decide) (Nat.le_of_ble_eq_true rfl) rfl rfl ?_
        obtain ⟨kd, hkd, ek⟩ := (hok.2.2.2.2.1 q hq).1
        rcases (show kd = 0 ∨ kd = 1 ∨ kd = 2 ∨ kd = 3 ∨ kd = 4 ∨ kd = 5 ∨ kd = 6 by omega) with rfl | rfl | rfl | rfl | rfl | rfl | rfl
        · refine aw_top C 0 (ek.trans (by decide)) ?_
          refine aw_istore (pc := 55) C [(4, .int 0), (3, .int (nI q)), (0, .ref 73), (1, .int (nI ss)), (2, .int k)] dX9_as_55 (Nat.le_of_ble_eq_true rfl) rfl ?_
          refine aw_iload (pc := 57) C 0 dX9_as_57 rfl ?_
          refine aw_if_lt (pc := 59) C 80 dX9_as_59 (by decide) (fun h59 => absurd h59 (by decide)) (fun h59 => ?_)
          refine aw_iload (pc := 62) C 0 dX9_as_62 rfl ?_
          refine aw_iload_n (pc := 64) C 4 dX9_as_64 rfl ?_
          refine aw_icmp_ne (pc := 65) C 70 dX9_as_65 (by decide) (fun h65 => ?_) (fun h65 => ?_)
          · have hn0 := h65
            refine aw_iload (pc := 70) C 0 dX9_as_70 rfl ?_
            refine aw_cSI (pc := 72) C (c_X9_above_0 _  ) lk_X9_320 dX9_as_72 (by decide) (Nat.le_of_ble_eq_true rfl) rfl rfl ?_
            refine aw_istore (pc := 75) C [(4, .int ((-1))), (3, .int (nI q)), (0, .ref 73), (1, .int (nI ss)), (2, .int k)] dX9_as_75 (Nat.le_of_ble_eq_true rfl) rfl ?_
            refine aw_goto (pc := 77) C 57 dX9_as_77 (by decide) ?_
            refine aw_iload (pc := 57) C 0 dX9_as_57 rfl ?_
            refine aw_if_lt (pc := 59) C 80 dX9_as_59 (by decide) (fun h59 => ?_) (fun h59 => absurd h59 (by decide))
            refine aw_aload_n (pc := 80) C 2 dX9_as_80 rfl ?_
            refine aw_ldcw (pc := 81) C dX9_as_81 kc_X9_323 ?_
            refine aw_cVI (pc := 84) C (c_X9_finds _ (-100000003) 2 (by decide) (by decide)) lk_X9_48 sh73 rfl dX9_as_84 (by decide) (Nat.le_of_ble_eq_true rfl) rfl rfl ?_
            exact aw_iretP (pc := 87) C rfl dX9_as_87 (pm_of (an' := .inl 2) (by rw [sAs, if_pos ⟨h9, h16⟩, cl_nI (show ss < 2147483648 by omega), he, if_neg (nI_pos (show q < 2147483648 by have := hok.1; omega)), cl_nI (show q < 2147483648 by have := hok.1; omega), ek, if_neg (show ¬ asP (nI 0) k from fun z => by rcases z with z | z | ⟨z, q⟩ | ⟨z, q⟩ <;> first | exact hn0 z | exact hn0 z.symm | exact absurd q (by decide) | exact absurd q (by decide))]) rfl rfl)
          · refine aw_iload_n (pc := 68) C 1 dX9_as_68 rfl ?_
            exact aw_iretP (pc := 69) C rfl dX9_as_69 (pm_of (an' := .inr (nI q, σ.1 20)) (by rw [sAs, if_pos ⟨h9, h16⟩, cl_nI (show ss < 2147483648 by omega), he, if_neg (nI_pos (show q < 2147483648 by have := hok.1; omega)), cl_nI (show q < 2147483648 by have := hok.1; omega), ek, if_pos (show asP (nI 0) k from Or.inl h65)]) rfl (setR_same σ 20).symm)
        · refine aw_top C 1 (ek.trans (by decide)) ?_
          refine aw_istore (pc := 55) C [(4, .int 1), (3, .int (nI q)), (0, .ref 73), (1, .int (nI ss)), (2, .int k)] dX9_as_55 (Nat.le_of_ble_eq_true rfl) rfl ?_
          refine aw_iload (pc := 57) C 0 dX9_as_57 rfl ?_
          refine aw_if_lt (pc := 59) C 80 dX9_as_59 (by decide) (fun h59 => absurd h59 (by decide)) (fun h59 => ?_)
          refine aw_iload (pc := 62) C 0 dX9_as_62 rfl ?_
          refine aw_iload_n (pc := 64) C 4 dX9_as_64 rfl ?_
          refine aw_icmp_ne (pc := 65) C 70 dX9_as_65 (by decide) (fun h65 => ?_) (fun h65 => ?_)
          · have hn1 := h65
            refine aw_iload (pc := 70) C 0 dX9_as_70 rfl ?_
            refine aw_cSI (pc := 72) C (c_X9_above_1 _  ) lk_X9_320 dX9_as_72 (by decide) (Nat.le_of_ble_eq_true rfl) rfl rfl ?_
            refine aw_istore (pc := 75) C [(4, .int 0), (3, .int (nI q)), (0, .ref 73), (1, .int (nI ss)), (2, .int k)] dX9_as_75 (Nat.le_of_ble_eq_true rfl) rfl ?_
            refine aw_goto (pc := 77) C 57 dX9_as_77 (by decide) ?_
            refine aw_iload (pc := 57) C 0 dX9_as_57 rfl ?_
            refine aw_if_lt (pc := 59) C 80 dX9_as_59 (by decide) (fun h59 => absurd h59 (by decide)) (fun h59 => ?_)
            refine aw_iload (pc := 62) C 0 dX9_as_62 rfl ?_
            refine aw_iload_n (pc := 64) C 4 dX9_as_64 rfl ?_
            refine aw_icmp_ne (pc := 65) C 70 dX9_as_65 (by decide) (fun h65 => ?_) (fun h65 => ?_)
            · have hn0 := h65
              refine aw_iload (pc := 70) C 0 dX9_as_70 rfl ?_
              refine aw_cSI (pc := 72) C (c_X9_above_0 _  ) lk_X9_320 dX9_as_72 (by decide) (Nat.le_of_ble_eq_true rfl) rfl rfl ?_
              refine aw_istore (pc := 75) C [(4, .int ((-1))), (3, .int (nI q)), (0, .ref 73), (1, .int (nI ss)), (2, .int k)] dX9_as_75 (Nat.le_of_ble_eq_true rfl) rfl ?_
              refine aw_goto (pc := 77) C 57 dX9_as_77 (by decide) ?_
              refine aw_iload (pc := 57) C 0 dX9_as_57 rfl ?_
              refine aw_if_lt (pc := 59) C 80 dX9_as_59 (by decide) (fun h59 => ?_) (fun h59 => absurd h59 (by decide))
              refine aw_aload_n (pc := 80) C 2 dX9_as_80 rfl ?_
              refine aw_ldcw (pc := 81) C dX9_as_81 kc_X9_323 ?_
              refine aw_cVI (pc := 84) C (c_X9_finds _ (-100000003) 2 (by decide) (by decide)) lk_X9_48 sh73 rfl dX9_as_84 (by decide) (Nat.le_of_ble_eq_true rfl) rfl rfl ?_
              exact aw_iretP (pc := 87) C rfl dX9_as_87 (pm_of (an' := .inl 2) (by rw [sAs, if_pos ⟨h9, h16⟩, cl_nI (show ss < 2147483648 by omega), he, if_neg (nI_pos (show q < 2147483648 by have := hok.1; omega)), cl_nI (show q < 2147483648 by have := hok.1; omega), ek, if_neg (show ¬ asP (nI 1) k from fun z => by rcases z with z | z | ⟨z, q⟩ | ⟨z, q⟩ <;> first | exact hn1 z | exact hn0 z.symm | exact hn1 z.symm | exact absurd q (by decide))]) rfl rfl)
            · refine aw_iload_n (pc := 68) C 1 dX9_as_68 rfl ?_
              exact aw_iretP (pc := 69) C rfl dX9_as_69 (pm_of (an' := .inr (nI q, σ.1 20)) (by rw [sAs, if_pos ⟨h9, h16⟩, cl_nI (show ss < 2147483648 by omega), he, if_neg (nI_pos (show q < 2147483648 by have := hok.1; omega)), cl_nI (show q < 2147483648 by have := hok.1; omega), ek, if_pos (show asP (nI 1) k from Or.inr (Or.inl h65.symm))]) rfl (setR_same σ 20).symm)
          · refine aw_iload_n (pc := 68) C 1 dX9_as_68 rfl ?_
            exact aw_iretP (pc := 69) C rfl dX9_as_69 (pm_of (an' := .inr (nI q, σ.1 20)) (by rw [sAs, if_pos ⟨h9, h16⟩, cl_nI (show ss < 2147483648 by omega), he, if_neg (nI_pos (show q < 2147483648 by have := hok.1; omega)), cl_nI (show q < 2147483648 by have := hok.1; omega), ek, if_pos (show asP (nI 1) k from Or.inl h65)]) rfl (setR_same σ 20).symm)
        · refine aw_top C 2 (ek.trans (by decide)) ?_
          refine aw_istore (pc := 55) C [(4, .int 2), (3, .int (nI q)), (0, .ref 73), (1, .int (nI ss)), (2, .int k)] dX9_as_55 (Nat.le_of_ble_eq_true rfl) rfl ?_
          refine aw_iload (pc := 57) C 0 dX9_as_57 rfl ?_
          refine aw_if_lt (pc := 59) C 80 dX9_as_59 (by decide) (fun h59 => absurd h59 (by decide)) (fun h59 => ?_)
          refine aw_iload (pc := 62) C 0 dX9_as_62 rfl ?_
          refine aw_iload_n (pc := 64) C 4 dX9_as_64 rfl ?_
          refine aw_icmp_ne (pc := 65) C 70 dX9_as_65 (by decide) (fun h65 => ?_) (fun h65 => ?_)
          · have hn2 := h65
            refine aw_iload (pc := 70) C 0 dX9_as_70 rfl ?_
            refine aw_cSI (pc := 72) C (c_X9_above_2 _  ) lk_X9_320 dX9_as_72 (by decide) (Nat.le_of_ble_eq_true rfl) rfl rfl ?_
            refine aw_istore (pc := 75) C [(4, .int 0), (3, .int (nI q)), (0, .ref 73), (1, .int (nI ss)), (2, .int k)] dX9_as_75 (Nat.le_of_ble_eq_true rfl) rfl ?_
            refine aw_goto (pc := 77) C 57 dX9_as_77 (by decide) ?_
            refine aw_iload (pc := 57) C 0 dX9_as_57 rfl ?_
            refine aw_if_lt (pc := 59) C 80 dX9_as_59 (by decide) (fun h59 => absurd h59 (by decide)) (fun h59 => ?_)
            refine aw_iload (pc := 62) C 0 dX9_as_62 rfl ?_
            refine aw_iload_n (pc := 64) C 4 dX9_as_64 rfl ?_
            refine aw_icmp_ne (pc := 65) C 70 dX9_as_65 (by decide) (fun h65 => ?_) (fun h65 => ?_)
            · have hn0 := h65
              refine aw_iload (pc := 70) C 0 dX9_as_70 rfl ?_
              refine aw_cSI (pc := 72) C (c_X9_above_0 _  ) lk_X9_320 dX9_as_72 (by decide) (Nat.le_of_ble_eq_true rfl) rfl rfl ?_
              refine aw_istore (pc := 75) C [(4, .int ((-1))), (3, .int (nI q)), (0, .ref 73), (1, .int (nI ss)), (2, .int k)] dX9_as_75 (Nat.le_of_ble_eq_true rfl) rfl ?_
              refine aw_goto (pc := 77) C 57 dX9_as_77 (by decide) ?_
              refine aw_iload (pc := 57) C 0 dX9_as_57 rfl ?_
              refine aw_if_lt (pc := 59) C 80 dX9_as_59 (by decide) (fun h59 => ?_) (fun h59 => absurd h59 (by decide))
              refine aw_aload_n (pc := 80) C 2 dX9_as_80 rfl ?_
              refine aw_ldcw (pc := 81) C dX9_as_81 kc_X9_323 ?_
              refine aw_cVI (pc := 84) C (c_X9_finds _ (-100000003) 2 (by decide) (by decide)) lk_X9_48 sh73 rfl dX9_as_84 (by decide) (Nat.le_of_ble_eq_true rfl) rfl rfl ?_
              exact aw_iretP (pc := 87) C rfl dX9_as_87 (pm_of (an' := .inl 2) (by rw [sAs, if_pos ⟨h9, h16⟩, cl_nI (show ss < 2147483648 by omega), he, if_neg (nI_pos (show q < 2147483648 by have := hok.1; omega)), cl_nI (show q < 2147483648 by have := hok.1; omega), ek, if_neg (show ¬ asP (nI 2) k from fun z => by rcases z with z | z | ⟨z, q⟩ | ⟨z, q⟩ <;> first | exact hn2 z | exact hn0 z.symm | exact absurd q (by decide) | exact hn2 z.symm)]) rfl rfl)
            · refine aw_iload_n (pc := 68) C 1 dX9_as_68 rfl ?_
              exact aw_iretP (pc := 69) C rfl dX9_as_69 (pm_of (an' := .inr (nI q, σ.1 20)) (by rw [sAs, if_pos ⟨h9, h16⟩, cl_nI (show ss < 2147483648 by omega), he, if_neg (nI_pos (show q < 2147483648 by have := hok.1; omega)), cl_nI (show q < 2147483648 by have := hok.1; omega), ek, if_pos (show asP (nI 2) k from Or.inr (Or.inl h65.symm))]) rfl (setR_same σ 20).symm)
          · refine aw_iload_n (pc := 68) C 1 dX9_as_68 rfl ?_
            exact aw_iretP (pc := 69) C rfl dX9_as_69 (pm_of (an' := .inr (nI q, σ.1 20)) (by rw [sAs, if_pos ⟨h9, h16⟩, cl_nI (show ss < 2147483648 by omega), he, if_neg (nI_pos (show q < 2147483648 by have := hok.1; omega)), cl_nI (show q < 2147483648 by have := hok.1; omega), ek, if_pos (show asP (nI 2) k from Or.inl h65)]) rfl (setR_same σ 20).symm)
        · refine aw_top C 3 (ek.trans (by decide)) ?_
          refine aw_istore (pc := 55) C [(4, .int 3), (3, .int (nI q)), (0, .ref 73), (1, .int (nI ss)), (2, .int k)] dX9_as_55 (Nat.le_of_ble_eq_true rfl) rfl ?_
          refine aw_iload (pc := 57) C 0 dX9_as_57 rfl ?_
          refine aw_if_lt (pc := 59) C 80 dX9_as_59 (by decide) (fun h59 => absurd h59 (by decide)) (fun h59 => ?_)
          refine aw_iload (pc := 62) C 0 dX9_as_62 rfl ?_
          refine aw_iload_n (pc := 64) C 4 dX9_as_64 rfl ?_
          refine aw_icmp_ne (pc := 65) C 70 dX9_as_65 (by decide) (fun h65 => ?_) (fun h65 => ?_)
          · have hn3 := h65
            refine aw_iload (pc := 70) C 0 dX9_as_70 rfl ?_
            refine aw_cSI (pc := 72) C (c_X9_above_3 _  ) lk_X9_320 dX9_as_72 (by decide) (Nat.le_of_ble_eq_true rfl) rfl rfl ?_
            refine aw_istore (pc := 75) C [(4, .int 0), (3, .int (nI q)), (0, .ref 73), (1, .int (nI ss)), (2, .int k)] dX9_as_75 (Nat.le_of_ble_eq_true rfl) rfl ?_
            refine aw_goto (pc := 77) C 57 dX9_as_77 (by decide) ?_
            refine aw_iload (pc := 57) C 0 dX9_as_57 rfl ?_
            refine aw_if_lt (pc := 59) C 80 dX9_as_59 (by decide) (fun h59 => absurd h59 (by decide)) (fun h59 => ?_)
            refine aw_iload (pc := 62) C 0 dX9_as_62 rfl ?_
            refine aw_iload_n (pc := 64) C 4 dX9_as_64 rfl ?_
            refine aw_icmp_ne (pc := 65) C 70 dX9_as_65 (by decide) (fun h65 => ?_) (fun h65 => ?_)
            · have hn0 := h65
              refine aw_iload (pc := 70) C 0 dX9_as_70 rfl ?_
              refine aw_cSI (pc := 72) C (c_X9_above_0 _  ) lk_X9_320 dX9_as_72 (by decide) (Nat.le_of_ble_eq_true rfl) rfl rfl ?_
              refine aw_istore (pc := 75) C [(4, .int ((-1))), (3, .int (nI q)), (0, .ref 73), (1, .int (nI ss)), (2, .int k)] dX9_as_75 (Nat.le_of_ble_eq_true rfl) rfl ?_
              refine aw_goto (pc := 77) C 57 dX9_as_77 (by decide) ?_
              refine aw_iload (pc := 57) C 0 dX9_as_57 rfl ?_
              refine aw_if_lt (pc := 59) C 80 dX9_as_59 (by decide) (fun h59 => ?_) (fun h59 => absurd h59 (by decide))
              refine aw_aload_n (pc := 80) C 2 dX9_as_80 rfl ?_
              refine aw_ldcw (pc := 81) C dX9_as_81 kc_X9_323 ?_
              refine aw_cVI (pc := 84) C (c_X9_finds _ (-100000003) 2 (by decide) (by decide)) lk_X9_48 sh73 rfl dX9_as_84 (by decide) (Nat.le_of_ble_eq_true rfl) rfl rfl ?_
              exact aw_iretP (pc := 87) C rfl dX9_as_87 (pm_of (an' := .inl 2) (by rw [sAs, if_pos ⟨h9, h16⟩, cl_nI (show ss < 2147483648 by omega), he, if_neg (nI_pos (show q < 2147483648 by have := hok.1; omega)), cl_nI (show q < 2147483648 by have := hok.1; omega), ek, if_neg (show ¬ asP (nI 3) k from fun z => by rcases z with z | z | ⟨z, q⟩ | ⟨z, q⟩ <;> first | exact hn3 z | exact hn0 z.symm | exact absurd q (by decide) | exact absurd q (by decide))]) rfl rfl)
            · refine aw_iload_n (pc := 68) C 1 dX9_as_68 rfl ?_
              exact aw_iretP (pc := 69) C rfl dX9_as_69 (pm_of (an' := .inr (nI q, σ.1 20)) (by rw [sAs, if_pos ⟨h9, h16⟩, cl_nI (show ss < 2147483648 by omega), he, if_neg (nI_pos (show q < 2147483648 by have := hok.1; omega)), cl_nI (show q < 2147483648 by have := hok.1; omega), ek, if_pos (show asP (nI 3) k from Or.inr (Or.inl h65.symm))]) rfl (setR_same σ 20).symm)
          · refine aw_iload_n (pc := 68) C 1 dX9_as_68 rfl ?_
            exact aw_iretP (pc := 69) C rfl dX9_as_69 (pm_of (an' := .inr (nI q, σ.1 20)) (by rw [sAs, if_pos ⟨h9, h16⟩, cl_nI (show ss < 2147483648 by omega), he, if_neg (nI_pos (show q < 2147483648 by have := hok.1; omega)), cl_nI (show q < 2147483648 by have := hok.1; omega), ek, if_pos (show asP (nI 3) k from Or.inl h65)]) rfl (setR_same σ 20).symm)
        · refine aw_top C 4 (ek.trans (by decide)) ?_
          refine aw_istore (pc := 55) C [(4, .int 4), (3, .int (nI q)), (0, .ref 73), (1, .int (nI ss)), (2, .int k)] dX9_as_55 (Nat.le_of_ble_eq_true rfl) rfl ?_
          refine aw_iload (pc := 57) C 0 dX9_as_57 rfl ?_
          refine aw_if_lt (pc := 59) C 80 dX9_as_59 (by decide) (fun h59 => absurd h59 (by decide)) (fun h59 => ?_)
          refine aw_iload (pc := 62) C 0 dX9_as_62 rfl ?_
          refine aw_iload_n (pc := 64) C 4 dX9_as_64 rfl ?_
          refine aw_icmp_ne (pc := 65) C 70 dX9_as_65 (by decide) (fun h65 => ?_) (fun h65 => ?_)
          · have hn4 := h65
            refine aw_iload (pc := 70) C 0 dX9_as_70 rfl ?_
            refine aw_cSI (pc := 72) C (c_X9_above_4 _  ) lk_X9_320 dX9_as_72 (by decide) (Nat.le_of_ble_eq_true rfl) rfl rfl ?_
            refine aw_istore (pc := 75) C [(4, .int 1), (3, .int (nI q)), (0, .ref 73), (1, .int (nI ss)), (2, .int k)] dX9_as_75 (Nat.le_of_ble_eq_true rfl) rfl ?_
            refine aw_goto (pc := 77) C 57 dX9_as_77 (by decide) ?_
            refine aw_iload (pc := 57) C 0 dX9_as_57 rfl ?_
            refine aw_if_lt (pc := 59) C 80 dX9_as_59 (by decide) (fun h59 => absurd h59 (by decide)) (fun h59 => ?_)
            refine aw_iload (pc := 62) C 0 dX9_as_62 rfl ?_
            refine aw_iload_n (pc := 64) C 4 dX9_as_64 rfl ?_
            refine aw_icmp_ne (pc := 65) C 70 dX9_as_65 (by decide) (fun h65 => ?_) (fun h65 => ?_)
            · have hn1 := h65
              refine aw_iload (pc := 70) C 0 dX9_as_70 rfl ?_
              refine aw_cSI (pc := 72) C (c_X9_above_1 _  ) lk_X9_320 dX9_as_72 (by decide) (Nat.le_of_ble_eq_true rfl) rfl rfl ?_
              refine aw_istore (pc := 75) C [(4, .int 0), (3, .int (nI q)), (0, .ref 73), (1, .int (nI ss)), (2, .int k)] dX9_as_75 (Nat.le_of_ble_eq_true rfl) rfl ?_
              refine aw_goto (pc := 77) C 57 dX9_as_77 (by decide) ?_
              refine aw_iload (pc := 57) C 0 dX9_as_57 rfl ?_
              refine aw_if_lt (pc := 59) C 80 dX9_as_59 (by decide) (fun h59 => absurd h59 (by decide)) (fun h59 => ?_)
              refine aw_iload (pc := 62) C 0 dX9_as_62 rfl ?_
              refine aw_iload_n (pc := 64) C 4 dX9_as_64 rfl ?_
              refine aw_icmp_ne (pc := 65) C 70 dX9_as_65 (by decide) (fun h65 => ?_) (fun h65 => ?_)
              · have hn0 := h65
                refine aw_iload (pc := 70) C 0 dX9_as_70 rfl ?_
                refine aw_cSI (pc := 72) C (c_X9_above_0 _  ) lk_X9_320 dX9_as_72 (by decide) (Nat.le_of_ble_eq_true rfl) rfl rfl ?_
                refine aw_istore (pc := 75) C [(4, .int ((-1))), (3, .int (nI q)), (0, .ref 73), (1, .int (nI ss)), (2, .int k)] dX9_as_75 (Nat.le_of_ble_eq_true rfl) rfl ?_
                refine aw_goto (pc := 77) C 57 dX9_as_77 (by decide) ?_
                refine aw_iload (pc := 57) C 0 dX9_as_57 rfl ?_
                refine aw_if_lt (pc := 59) C 80 dX9_as_59 (by decide) (fun h59 => ?_) (fun h59 => absurd h59 (by decide))
                refine aw_aload_n (pc := 80) C 2 dX9_as_80 rfl ?_
                refine aw_ldcw (pc := 81) C dX9_as_81 kc_X9_323 ?_
                refine aw_cVI (pc := 84) C (c_X9_finds _ (-100000003) 2 (by decide) (by decide)) lk_X9_48 sh73 rfl dX9_as_84 (by decide) (Nat.le_of_ble_eq_true rfl) rfl rfl ?_
                exact aw_iretP (pc := 87) C rfl dX9_as_87 (pm_of (an' := .inl 2) (by rw [sAs, if_pos ⟨h9, h16⟩, cl_nI (show ss < 2147483648 by omega), he, if_neg (nI_pos (show q < 2147483648 by have := hok.1; omega)), cl_nI (show q < 2147483648 by have := hok.1; omega), ek, if_neg (show ¬ asP (nI 4) k from fun z => by rcases z with z | z | ⟨z, q⟩ | ⟨z, q⟩ <;> first | exact hn4 z | exact hn0 z.symm | exact hn1 z.symm | exact absurd q (by decide))]) rfl rfl)
              · refine aw_iload_n (pc := 68) C 1 dX9_as_68 rfl ?_
                exact aw_iretP (pc := 69) C rfl dX9_as_69 (pm_of (an' := .inr (nI q, σ.1 20)) (by rw [sAs, if_pos ⟨h9, h16⟩, cl_nI (show ss < 2147483648 by omega), he, if_neg (nI_pos (show q < 2147483648 by have := hok.1; omega)), cl_nI (show q < 2147483648 by have := hok.1; omega), ek, if_pos (show asP (nI 4) k from Or.inr (Or.inl h65.symm))]) rfl (setR_same σ 20).symm)
            · refine aw_iload_n (pc := 68) C 1 dX9_as_68 rfl ?_
              exact aw_iretP (pc := 69) C rfl dX9_as_69 (pm_of (an' := .inr (nI q, σ.1 20)) (by rw [sAs, if_pos ⟨h9, h16⟩, cl_nI (show ss < 2147483648 by omega), he, if_neg (nI_pos (show q < 2147483648 by have := hok.1; omega)), cl_nI (show q < 2147483648 by have := hok.1; omega), ek, if_pos (show asP (nI 4) k from Or.inr (Or.inr (Or.inl ⟨h65.symm, by decide⟩)))]) rfl (setR_same σ 20).symm)
          · refine aw_iload_n (pc := 68) C 1 dX9_as_68 rfl ?_
            exact aw_iretP (pc := 69) C rfl dX9_as_69 (pm_of (an' := .inr (nI q, σ.1 20)) (by rw [sAs, if_pos ⟨h9, h16⟩, cl_nI (show ss < 2147483648 by omega), he, if_neg (nI_pos (show q < 2147483648 by have := hok.1; omega)), cl_nI (show q < 2147483648 by have := hok.1; omega), ek, if_pos (show asP (nI 4) k from Or.inl h65)]) rfl (setR_same σ 20).symm)
        · refine aw_top C 5 (ek.trans (by decide)) ?_
          refine aw_istore (pc := 55) C [(4, .int 5), (3, .int (nI q)), (0, .ref 73), (1, .int (nI ss)), (2, .int k)] dX9_as_55 (Nat.le_of_ble_eq_true rfl) rfl ?_
          refine aw_iload (pc := 57) C 0 dX9_as_57 rfl ?_
          refine aw_if_lt (pc := 59) C 80 dX9_as_59 (by decide) (fun h59 => absurd h59 (by decide)) (fun h59 => ?_)
          refine aw_iload (pc := 62) C 0 dX9_as_62 rfl ?_
          refine aw_iload_n (pc := 64) C 4 dX9_as_64 rfl ?_
          refine aw_icmp_ne (pc := 65) C 70 dX9_as_65 (by decide) (fun h65 => ?_) (fun h65 => ?_)
          · have hn5 := h65
            refine aw_iload (pc := 70) C 0 dX9_as_70 rfl ?_
            refine aw_cSI (pc := 72) C (c_X9_above_5 _  ) lk_X9_320 dX9_as_72 (by decide) (Nat.le_of_ble_eq_true rfl) rfl rfl ?_
            refine aw_istore (pc := 75) C [(4, .int 1), (3, .int (nI q)), (0, .ref 73), (1, .int (nI ss)), (2, .int k)] dX9_as_75 (Nat.le_of_ble_eq_true rfl) rfl ?_
            refine aw_goto (pc := 77) C 57 dX9_as_77 (by decide) ?_
            refine aw_iload (pc := 57) C 0 dX9_as_57 rfl ?_
            refine aw_if_lt (pc := 59) C 80 dX9_as_59 (by decide) (fun h59 => absurd h59 (by decide)) (fun h59 => ?_)
            refine aw_iload (pc := 62) C 0 dX9_as_62 rfl ?_
            refine aw_iload_n (pc := 64) C 4 dX9_as_64 rfl ?_
            refine aw_icmp_ne (pc := 65) C 70 dX9_as_65 (by decide) (fun h65 => ?_) (fun h65 => ?_)
            · have hn1 := h65
              refine aw_iload (pc := 70) C 0 dX9_as_70 rfl ?_
              refine aw_cSI (pc := 72) C (c_X9_above_1 _  ) lk_X9_320 dX9_as_72 (by decide) (Nat.le_of_ble_eq_true rfl) rfl rfl ?_
              refine aw_istore (pc := 75) C [(4, .int 0), (3, .int (nI q)), (0, .ref 73), (1, .int (nI ss)), (2, .int k)] dX9_as_75 (Nat.le_of_ble_eq_true rfl) rfl ?_
              refine aw_goto (pc := 77) C 57 dX9_as_77 (by decide) ?_
              refine aw_iload (pc := 57) C 0 dX9_as_57 rfl ?_
              refine aw_if_lt (pc := 59) C 80 dX9_as_59 (by decide) (fun h59 => absurd h59 (by decide)) (fun h59 => ?_)
              refine aw_iload (pc := 62) C 0 dX9_as_62 rfl ?_
              refine aw_iload_n (pc := 64) C 4 dX9_as_64 rfl ?_
              refine aw_icmp_ne (pc := 65) C 70 dX9_as_65 (by decide) (fun h65 => ?_) (fun h65 => ?_)
              · have hn0 := h65
                refine aw_iload (pc := 70) C 0 dX9_as_70 rfl ?_
                refine aw_cSI (pc := 72) C (c_X9_above_0 _  ) lk_X9_320 dX9_as_72 (by decide) (Nat.le_of_ble_eq_true rfl) rfl rfl ?_
                refine aw_istore (pc := 75) C [(4, .int ((-1))), (3, .int (nI q)), (0, .ref 73), (1, .int (nI ss)), (2, .int k)] dX9_as_75 (Nat.le_of_ble_eq_true rfl) rfl ?_
                refine aw_goto (pc := 77) C 57 dX9_as_77 (by decide) ?_
                refine aw_iload (pc := 57) C 0 dX9_as_57 rfl ?_
                refine aw_if_lt (pc := 59) C 80 dX9_as_59 (by decide) (fun h59 => ?_) (fun h59 => absurd h59 (by decide))
                refine aw_aload_n (pc := 80) C 2 dX9_as_80 rfl ?_
                refine aw_ldcw (pc := 81) C dX9_as_81 kc_X9_323 ?_
                refine aw_cVI (pc := 84) C (c_X9_finds _ (-100000003) 2 (by decide) (by decide)) lk_X9_48 sh73 rfl dX9_as_84 (by decide) (Nat.le_of_ble_eq_true rfl) rfl rfl ?_
                exact aw_iretP (pc := 87) C rfl dX9_as_87 (pm_of (an' := .inl 2) (by rw [sAs, if_pos ⟨h9, h16⟩, cl_nI (show ss < 2147483648 by omega), he, if_neg (nI_pos (show q < 2147483648 by have := hok.1; omega)), cl_nI (show q < 2147483648 by have := hok.1; omega), ek, if_neg (show ¬ asP (nI 5) k from fun z => by rcases z with z | z | ⟨z, q⟩ | ⟨z, q⟩ <;> first | exact hn5 z | exact hn0 z.symm | exact hn1 z.symm | exact absurd q (by decide))]) rfl rfl)
              · refine aw_iload_n (pc := 68) C 1 dX9_as_68 rfl ?_
                exact aw_iretP (pc := 69) C rfl dX9_as_69 (pm_of (an' := .inr (nI q, σ.1 20)) (by rw [sAs, if_pos ⟨h9, h16⟩, cl_nI (show ss < 2147483648 by omega), he, if_neg (nI_pos (show q < 2147483648 by have := hok.1; omega)), cl_nI (show q < 2147483648 by have := hok.1; omega), ek, if_pos (show asP (nI 5) k from Or.inr (Or.inl h65.symm))]) rfl (setR_same σ 20).symm)
            · refine aw_iload_n (pc := 68) C 1 dX9_as_68 rfl ?_
              exact aw_iretP (pc := 69) C rfl dX9_as_69 (pm_of (an' := .inr (nI q, σ.1 20)) (by rw [sAs, if_pos ⟨h9, h16⟩, cl_nI (show ss < 2147483648 by omega), he, if_neg (nI_pos (show q < 2147483648 by have := hok.1; omega)), cl_nI (show q < 2147483648 by have := hok.1; omega), ek, if_pos (show asP (nI 5) k from Or.inr (Or.inr (Or.inl ⟨h65.symm, by decide⟩)))]) rfl (setR_same σ 20).symm)
          · refine aw_iload_n (pc := 68) C 1 dX9_as_68 rfl ?_
            exact aw_iretP (pc := 69) C rfl dX9_as_69 (pm_of (an' := .inr (nI q, σ.1 20)) (by rw [sAs, if_pos ⟨h9, h16⟩, cl_nI (show ss < 2147483648 by omega), he, if_neg (nI_pos (show q < 2147483648 by have := hok.1; omega)), cl_nI (show q < 2147483648 by have := hok.1; omega), ek, if_pos (show asP (nI 5) k from Or.inl h65)]) rfl (setR_same σ 20).symm)
        · refine aw_top C 6 (ek.trans (by decide)) ?_
          refine aw_istore (pc := 55) C [(4, .int 6), (3, .int (nI q)), (0, .ref 73), (1, .int (nI ss)), (2, .int k)] dX9_as_55 (Nat.le_of_ble_eq_true rfl) rfl ?_
          refine aw_iload (pc := 57) C 0 dX9_as_57 rfl ?_
          refine aw_if_lt (pc := 59) C 80 dX9_as_59 (by decide) (fun h59 => absurd h59 (by decide)) (fun h59 => ?_)
          refine aw_iload (pc := 62) C 0 dX9_as_62 rfl ?_
          refine aw_iload_n (pc := 64) C 4 dX9_as_64 rfl ?_
          refine aw_icmp_ne (pc := 65) C 70 dX9_as_65 (by decide) (fun h65 => ?_) (fun h65 => ?_)
          · have hn6 := h65
            refine aw_iload (pc := 70) C 0 dX9_as_70 rfl ?_
            refine aw_cSI (pc := 72) C (c_X9_above_6 _  ) lk_X9_320 dX9_as_72 (by decide) (Nat.le_of_ble_eq_true rfl) rfl rfl ?_
            refine aw_istore (pc := 75) C [(4, .int 2), (3, .int (nI q)), (0, .ref 73), (1, .int (nI ss)), (2, .int k)] dX9_as_75 (Nat.le_of_ble_eq_true rfl) rfl ?_
            refine aw_goto (pc := 77) C 57 dX9_as_77 (by decide) ?_
            refine aw_iload (pc := 57) C 0 dX9_as_57 rfl ?_
            refine aw_if_lt (pc := 59) C 80 dX9_as_59 (by decide) (fun h59 => absurd h59 (by decide)) (fun h59 => ?_)
            refine aw_iload (pc := 62) C 0 dX9_as_62 rfl ?_
            refine aw_iload_n (pc := 64) C 4 dX9_as_64 rfl ?_
            refine aw_icmp_ne (pc := 65) C 70 dX9_as_65 (by decide) (fun h65 => ?_) (fun h65 => ?_)
            · have hn2 := h65
              refine aw_iload (pc := 70) C 0 dX9_as_70 rfl ?_
              refine aw_cSI (pc := 72) C (c_X9_above_2 _  ) lk_X9_320 dX9_as_72 (by decide) (Nat.le_of_ble_eq_true rfl) rfl rfl ?_
              refine aw_istore (pc := 75) C [(4, .int 0), (3, .int (nI q)), (0, .ref 73), (1, .int (nI ss)), (2, .int k)] dX9_as_75 (Nat.le_of_ble_eq_true rfl) rfl ?_
              refine aw_goto (pc := 77) C 57 dX9_as_77 (by decide) ?_
              refine aw_iload (pc := 57) C 0 dX9_as_57 rfl ?_
              refine aw_if_lt (pc := 59) C 80 dX9_as_59 (by decide) (fun h59 => absurd h59 (by decide)) (fun h59 => ?_)
              refine aw_iload (pc := 62) C 0 dX9_as_62 rfl ?_
              refine aw_iload_n (pc := 64) C 4 dX9_as_64 rfl ?_
              refine aw_icmp_ne (pc := 65) C 70 dX9_as_65 (by decide) (fun h65 => ?_) (fun h65 => ?_)
              · have hn0 := h65
                refine aw_iload (pc := 70) C 0 dX9_as_70 rfl ?_
                refine aw_cSI (pc := 72) C (c_X9_above_0 _  ) lk_X9_320 dX9_as_72 (by decide) (Nat.le_of_ble_eq_true rfl) rfl rfl ?_
                refine aw_istore (pc := 75) C [(4, .int ((-1))), (3, .int (nI q)), (0, .ref 73), (1, .int (nI ss)), (2, .int k)] dX9_as_75 (Nat.le_of_ble_eq_true rfl) rfl ?_
                refine aw_goto (pc := 77) C 57 dX9_as_77 (by decide) ?_
                refine aw_iload (pc := 57) C 0 dX9_as_57 rfl ?_
                refine aw_if_lt (pc := 59) C 80 dX9_as_59 (by decide) (fun h59 => ?_) (fun h59 => absurd h59 (by decide))
                refine aw_aload_n (pc := 80) C 2 dX9_as_80 rfl ?_
                refine aw_ldcw (pc := 81) C dX9_as_81 kc_X9_323 ?_
                refine aw_cVI (pc := 84) C (c_X9_finds _ (-100000003) 2 (by decide) (by decide)) lk_X9_48 sh73 rfl dX9_as_84 (by decide) (Nat.le_of_ble_eq_true rfl) rfl rfl ?_
                exact aw_iretP (pc := 87) C rfl dX9_as_87 (pm_of (an' := .inl 2) (by rw [sAs, if_pos ⟨h9, h16⟩, cl_nI (show ss < 2147483648 by omega), he, if_neg (nI_pos (show q < 2147483648 by have := hok.1; omega)), cl_nI (show q < 2147483648 by have := hok.1; omega), ek, if_neg (show ¬ asP (nI 6) k from fun z => by rcases z with z | z | ⟨z, q⟩ | ⟨z, q⟩ <;> first | exact hn6 z | exact hn0 z.symm | exact absurd q (by decide) | exact hn2 z.symm)]) rfl rfl)
              · refine aw_iload_n (pc := 68) C 1 dX9_as_68 rfl ?_
                exact aw_iretP (pc := 69) C rfl dX9_as_69 (pm_of (an' := .inr (nI q, σ.1 20)) (by rw [sAs, if_pos ⟨h9, h16⟩, cl_nI (show ss < 2147483648 by omega), he, if_neg (nI_pos (show q < 2147483648 by have := hok.1; omega)), cl_nI (show q < 2147483648 by have := hok.1; omega), ek, if_pos (show asP (nI 6) k from Or.inr (Or.inl h65.symm))]) rfl (setR_same σ 20).symm)
            · refine aw_iload_n (pc := 68) C 1 dX9_as_68 rfl ?_
              exact aw_iretP (pc := 69) C rfl dX9_as_69 (pm_of (an' := .inr (nI q, σ.1 20)) (by rw [sAs, if_pos ⟨h9, h16⟩, cl_nI (show ss < 2147483648 by omega), he, if_neg (nI_pos (show q < 2147483648 by have := hok.1; omega)), cl_nI (show q < 2147483648 by have := hok.1; omega), ek, if_pos (show asP (nI 6) k from Or.inr (Or.inr (Or.inr ⟨h65.symm, by decide⟩)))]) rfl (setR_same σ 20).symm)
          · refine aw_iload_n (pc := 68) C 1 dX9_as_68 rfl ?_
            exact aw_iretP (pc := 69) C rfl dX9_as_69 (pm_of (an' := .inr (nI q, σ.1 20)) (by rw [sAs, if_pos ⟨h9, h16⟩, cl_nI (show ss < 2147483648 by omega), he, if_neg (nI_pos (show q < 2147483648 by have := hok.1; omega)), cl_nI (show q < 2147483648 by have := hok.1; omega), ek, if_pos (show asP (nI 6) k from Or.inl h65)]) rfl (setR_same σ 20).symm)
    · refine aw_aload_n (pc := 19) C 0 dX9_as_19 rfl ?_
      refine aw_ldc (pc := 20) C dX9_as_20 kc_X9_46 ?_
      refine aw_cVI (pc := 22) C (c_X9_finds _ (-100000001) 0 (by decide) (by decide)) lk_X9_48 sh73 rfl dX9_as_22 (by decide) (Nat.le_of_ble_eq_true rfl) rfl rfl ?_
      exact aw_iretP (pc := 25) C rfl dX9_as_25 (pm_of (an' := .inl 0) (by rw [sAs, if_neg (fun z => h16 z.2)]) rfl rfl)
