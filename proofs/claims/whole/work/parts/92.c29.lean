/-! the class: drops, gum, who is suspect -/
theorem c_X8_drops (σ : St) (n : Nat) (hok : Ok n (σ.1 0)) (r y k j : Int32) : AMet Y_X8_drops [.ref 0, .int r, .int y, .int k, .int j] σ (PCL σ (sDrops (σ.1 0) n r y k j)) := by
  refine am_intro (by decide +kernel) (Nat.le_of_ble_eq_true rfl) (fun K C => ?_)
  have hz := hok.1
  have hn := hok.2.1
  refine aw_aload_n (pc := 0) C 0 dX8_drops_0 rfl ?_
  refine aw_iload_n (pc := 1) C 1 dX8_drops_1 rfl ?_
  refine aw_iload_n (pc := 2) C 2 dX8_drops_2 rfl ?_
  refine aw_iload_n (pc := 3) C 3 dX8_drops_3 rfl ?_
  refine aw_cVI (pc := 4) C (c_X8_isStretch _ n hn hz r y k ) lk_X8_173 sh0 rfl dX8_drops_4 (by decide) (Nat.le_of_ble_eq_true rfl) rfl rfl ?_
  refine aw_if_eqB (pc := 7) C 30 dX8_drops_7 (by decide) (fun h7 => ?_) (fun h7 => ?_)
  · refine aw_aload_n (pc := 30) C 0 dX8_drops_30 rfl ?_
    refine aw_iconst (pc := 31) (v := 0) C dX8_drops_31 rfl ?_
    refine aw_cVI (pc := 32) C (c_X8_found _ 0 (by omega)) lk_X8_78 sh0 rfl dX8_drops_32 (by decide) (Nat.le_of_ble_eq_true rfl) rfl rfl ?_
    refine aw_i2l (pc := 35) C dX8_drops_35 ?_
    exact aw_lretP (pc := 36) C rfl dX8_drops_36 (pcl_low (by rw [sDrops, if_neg (show ¬ (strP n r y k 10 ∧ (0 ≤ j ∧ j ≤ k)) from fun z => h7 ((strC (B := 10) (by omega)).mpr z.1).1)]))
  · refine aw_iload_n (pc := 10) C 3 dX8_drops_10 rfl ?_
    refine aw_iconst (pc := 11) (v := 0) C dX8_drops_11 rfl ?_
    refine aw_bipush (pc := 12) (v := 10) C dX8_drops_12 rfl ?_
    refine aw_cSI (pc := 14) C (c_X8_within _ k 0 10 ) lk_X8_74 dX8_drops_14 (by decide) (Nat.le_of_ble_eq_true rfl) rfl rfl ?_
    refine aw_if_eqB (pc := 17) C 30 dX8_drops_17 (by decide) (fun h17 => ?_) (fun h17 => ?_)
    · refine aw_aload_n (pc := 30) C 0 dX8_drops_30 rfl ?_
      refine aw_iconst (pc := 31) (v := 0) C dX8_drops_31 rfl ?_
      refine aw_cVI (pc := 32) C (c_X8_found _ 0 (by omega)) lk_X8_78 sh0 rfl dX8_drops_32 (by decide) (Nat.le_of_ble_eq_true rfl) rfl rfl ?_
      refine aw_i2l (pc := 35) C dX8_drops_35 ?_
      exact aw_lretP (pc := 36) C rfl dX8_drops_36 (pcl_low (by rw [sDrops, if_neg (show ¬ (strP n r y k 10 ∧ (0 ≤ j ∧ j ≤ k)) from fun z => h17 ((strC (B := 10) (by omega)).mpr z.1).2)]))
    · refine aw_iload (pc := 20) C 4 dX8_drops_20 rfl ?_
      refine aw_iconst (pc := 22) (v := 0) C dX8_drops_22 rfl ?_
      refine aw_iload_n (pc := 23) C 3 dX8_drops_23 rfl ?_
      refine aw_cSI (pc := 24) C (c_X8_within _ j 0 k ) lk_X8_74 dX8_drops_24 (by decide) (Nat.le_of_ble_eq_true rfl) rfl rfl ?_
      refine aw_if_neB (pc := 27) C 37 dX8_drops_27 (by decide) (fun h27 => ?_) (fun h27 => ?_)
      · have hstr : strP n r y k 10 := (strC (B := 10) (by omega)).mp ⟨h7, h17⟩
        obtain ⟨rr, yy, kk, rfl, rfl, rfl, hrr, hyy, hkk, hyk⟩ := str_nat hstr hz (B := 10) rfl (by omega)
        obtain ⟨jj, rfl, -, hjj⟩ := rg 0 kk h27 (by omega) (by omega)
        refine aw_aload_n (pc := 37) C 0 dX8_drops_37 rfl ?_
        refine aw_getR (pc := 38) C fl_X8_36 sh0 rfl dX8_drops_38 ?_
        refine aw_aload_n (pc := 41) C 0 dX8_drops_41 rfl ?_
        refine aw_getR (pc := 42) C fl_X8_16 sh0 rfl dX8_drops_42 ?_
        refine aw_iload_n (pc := 45) C 1 dX8_drops_45 rfl ?_
        refine aw_iload_n (pc := 46) C 2 dX8_drops_46 rfl ?_
        refine aw_iload_n (pc := 47) C 3 dX8_drops_47 rfl ?_
        refine aw_iload (pc := 48) C 4 dX8_drops_48 rfl ?_
        refine aw_callV (pc := 50) C (c_X0_ofDrops _ 0 (by decide : 0 < 3) n hok rr yy kk jj (by omega) (by omega) (by omega) (by omega)) lk_X8_176 sh6 rfl (by decide) rfl (Nat.le_of_ble_eq_true rfl) dX8_drops_50 rfl (fun w s hq => ?_)
        obtain ⟨P50, A50, rfl, rfl⟩ := hq
        refine aw_conv (σ' := setL (setL σ 0 (P50)) 1 (A50)) (st' := [.long (dS (σ.1 0) rr kk yy jj 0)]) (by first | with_reducible rfl | (simp (disch := omega) only [setR_at, setR_twice, setL_at, setL_twice, setR_2, setL_1, setR_ne, setL_ne, ne_eq, Nat.reduceEqDiff, not_false_eq_true, pk_us, pk_un]; done) | (simp (disch := omega) only [setR_at, setR_twice, setL_at, setL_twice, setR_2, setL_1, setR_ne, setL_ne, ne_eq, Nat.reduceEqDiff, not_false_eq_true, pk_us, pk_un, Option.toList_some, Option.toList_none, List.cons_append, List.nil_append]; done) | ((try simp (disch := omega) only [setR_at, setR_twice, setL_at, setL_twice, setR_2, setL_1, setR_ne, setL_ne, ne_eq, Nat.reduceEqDiff, not_false_eq_true, pk_us, pk_un]); refine Prod.ext (funext fun z => ?_) rfl; simp only [setR]; (repeat' split) <;> first | with_reducible rfl | (exfalso; omega)) | (simp (disch := omega) only [setR_at, setR_twice, setL_at, setL_twice, setR_2, setL_1, setR_ne, setL_ne, ne_eq, Nat.reduceEqDiff, not_false_eq_true, pk_us, pk_un, setL_010, Option.toList_some, Option.toList_none, List.cons_append, List.nil_append]; done) | rfl) rfl (by first | with_reducible rfl | (simp (disch := omega) only [setR_at, setR_twice, setL_at, setL_twice, setR_2, setL_1, setR_ne, setL_ne, ne_eq, Nat.reduceEqDiff, not_false_eq_true, pk_us, pk_un]; done) | (simp (disch := omega) only [setR_at, setR_twice, setL_at, setL_twice, setR_2, setL_1, setR_ne, setL_ne, ne_eq, Nat.reduceEqDiff, not_false_eq_true, pk_us, pk_un, Option.toList_some, Option.toList_none, List.cons_append, List.nil_append]; done) | ((try simp (disch := omega) only [setR_at, setR_twice, setL_at, setL_twice, setR_2, setL_1, setR_ne, setL_ne, ne_eq, Nat.reduceEqDiff, not_false_eq_true, pk_us, pk_un]); refine Prod.ext (funext fun z => ?_) rfl; simp only [setR]; (repeat' split) <;> first | with_reducible rfl | (exfalso; omega)) | (simp (disch := omega) only [setR_at, setR_twice, setL_at, setL_twice, setR_2, setL_1, setR_ne, setL_ne, ne_eq, Nat.reduceEqDiff, not_false_eq_true, pk_us, pk_un, setL_010, Option.toList_some, Option.toList_none, List.cons_append, List.nil_append]; done) | rfl) ?_
        exact aw_lretP (pc := 53) C rfl dX8_drops_53 (pcl_any (by rw [sDrops, if_pos ⟨hstr, h27⟩, cl_nI (show rr < 2147483648 by omega), cl_nI (show yy < 2147483648 by omega), cl_nI (show kk < 2147483648 by omega), cl_nI (show jj < 2147483648 by omega)]) rfl (fun r hr => by first | rfl | (simp only [anS, setL_1, setR]; (repeat' split) <;> first | rfl | (subst_vars; first | rfl | exact absurd (by decide) hr))))
      · refine aw_aload_n (pc := 30) C 0 dX8_drops_30 rfl ?_
        refine aw_iconst (pc := 31) (v := 0) C dX8_drops_31 rfl ?_
        refine aw_cVI (pc := 32) C (c_X8_found _ 0 (by omega)) lk_X8_78 sh0 rfl dX8_drops_32 (by decide) (Nat.le_of_ble_eq_true rfl) rfl rfl ?_
        refine aw_i2l (pc := 35) C dX8_drops_35 ?_
        exact aw_lretP (pc := 36) C rfl dX8_drops_36 (pcl_low (by rw [sDrops, if_neg (show ¬ (strP n r y k 10 ∧ (0 ≤ j ∧ j ≤ k)) from fun z => h27 z.2)]))
theorem c_X8_gum (σ : St) (n : Nat) (hok : Ok n (σ.1 0)) (r y k j w : Int32) : AMet Y_X8_gum [.ref 0, .int r, .int y, .int k, .int j, .int w] σ (PCL σ (sGum (σ.1 0) n r y k j w)) := by
  refine am_intro (by decide +kernel) (Nat.le_of_ble_eq_true rfl) (fun K C => ?_)
  have hz := hok.1
  have hn := hok.2.1
  refine aw_aload_n (pc := 0) C 0 dX8_gum_0 rfl ?_
  refine aw_iload_n (pc := 1) C 1 dX8_gum_1 rfl ?_
  refine aw_iload_n (pc := 2) C 2 dX8_gum_2 rfl ?_
  refine aw_iload_n (pc := 3) C 3 dX8_gum_3 rfl ?_
  refine aw_cVI (pc := 4) C (c_X8_isStretch _ n hn hz r y k ) lk_X8_173 sh0 rfl dX8_gum_4 (by decide) (Nat.le_of_ble_eq_true rfl) rfl rfl ?_
  refine aw_if_eqB (pc := 7) C 40 dX8_gum_7 (by decide) (fun h7 => ?_) (fun h7 => ?_)
  · refine aw_aload_n (pc := 40) C 0 dX8_gum_40 rfl ?_
    refine aw_iconst (pc := 41) (v := 0) C dX8_gum_41 rfl ?_
    refine aw_cVI (pc := 42) C (c_X8_found _ 0 (by omega)) lk_X8_78 sh0 rfl dX8_gum_42 (by decide) (Nat.le_of_ble_eq_true rfl) rfl rfl ?_
    refine aw_i2l (pc := 45) C dX8_gum_45 ?_
    exact aw_lretP (pc := 46) C rfl dX8_gum_46 (pcl_low (by rw [sGum, if_neg (show ¬ (strP n r y k 8 ∧ (¬ k = 0) ∧ (0 ≤ j ∧ j ≤ k) ∧ (0 ≤ w ∧ w ≤ 1)) from fun z => h7 (strC1.mpr ⟨z.1, z.2.1⟩).1)]))
  · refine aw_iload_n (pc := 10) C 3 dX8_gum_10 rfl ?_
    refine aw_iconst (pc := 11) (v := 1) C dX8_gum_11 rfl ?_
    refine aw_bipush (pc := 12) (v := 8) C dX8_gum_12 rfl ?_
    refine aw_cSI (pc := 14) C (c_X8_within _ k 1 8 ) lk_X8_74 dX8_gum_14 (by decide) (Nat.le_of_ble_eq_true rfl) rfl rfl ?_
    refine aw_if_eqB (pc := 17) C 40 dX8_gum_17 (by decide) (fun h17 => ?_) (fun h17 => ?_)
    · refine aw_aload_n (pc := 40) C 0 dX8_gum_40 rfl ?_
      refine aw_iconst (pc := 41) (v := 0) C dX8_gum_41 rfl ?_
      refine aw_cVI (pc := 42) C (c_X8_found _ 0 (by omega)) lk_X8_78 sh0 rfl dX8_gum_42 (by decide) (Nat.le_of_ble_eq_true rfl) rfl rfl ?_
      refine aw_i2l (pc := 45) C dX8_gum_45 ?_
      exact aw_lretP (pc := 46) C rfl dX8_gum_46 (pcl_low (by rw [sGum, if_neg (show ¬ (strP n r y k 8 ∧ (¬ k = 0) ∧ (0 ≤ j ∧ j ≤ k) ∧ (0 ≤ w ∧ w ≤ 1)) from fun z => h17 (strC1.mpr ⟨z.1, z.2.1⟩).2)]))
    · refine aw_iload (pc := 20) C 4 dX8_gum_20 rfl ?_
      refine aw_iconst (pc := 22) (v := 0) C dX8_gum_22 rfl ?_
      refine aw_iload_n (pc := 23) C 3 dX8_gum_23 rfl ?_
      refine aw_cSI (pc := 24) C (c_X8_within _ j 0 k ) lk_X8_74 dX8_gum_24 (by decide) (Nat.le_of_ble_eq_true rfl) rfl rfl ?_
      refine aw_if_eqB (pc := 27) C 40 dX8_gum_27 (by decide) (fun h27 => ?_) (fun h27 => ?_)
      · refine aw_aload_n (pc := 40) C 0 dX8_gum_40 rfl ?_
        refine aw_iconst (pc := 41) (v := 0) C dX8_gum_41 rfl ?_
        refine aw_cVI (pc := 42) C (c_X8_found _ 0 (by omega)) lk_X8_78 sh0 rfl dX8_gum_42 (by decide) (Nat.le_of_ble_eq_true rfl) rfl rfl ?_
        refine aw_i2l (pc := 45) C dX8_gum_45 ?_
        exact aw_lretP (pc := 46) C rfl dX8_gum_46 (pcl_low (by rw [sGum, if_neg (show ¬ (strP n r y k 8 ∧ (¬ k = 0) ∧ (0 ≤ j ∧ j ≤ k) ∧ (0 ≤ w ∧ w ≤ 1)) from fun z => h27 z.2.2.1)]))
      · refine aw_iload (pc := 30) C 5 dX8_gum_30 rfl ?_
        refine aw_iconst (pc := 32) (v := 0) C dX8_gum_32 rfl ?_
        refine aw_iconst (pc := 33) (v := 1) C dX8_gum_33 rfl ?_
        refine aw_cSI (pc := 34) C (c_X8_within _ w 0 1 ) lk_X8_74 dX8_gum_34 (by decide) (Nat.le_of_ble_eq_true rfl) rfl rfl ?_
        refine aw_if_neB (pc := 37) C 47 dX8_gum_37 (by decide) (fun h37 => ?_) (fun h37 => ?_)
        · obtain ⟨hstr, hk0⟩ := strC1.mp ⟨h7, h17⟩
          obtain ⟨rr, yy, kk, rfl, rfl, rfl, hrr, hyy, hkk, hyk⟩ := str_nat hstr hz (B := 8) rfl (by omega)
          obtain ⟨jj, rfl, -, hjj⟩ := rg 0 kk h27 (by omega) (by omega)
          refine aw_iload (pc := 47) C 5 dX8_gum_47 rfl ?_
          refine aw_iconst (pc := 49) (v := 1) C dX8_gum_49 rfl ?_
          refine aw_icmp_ne (pc := 50) C 70 dX8_gum_50 (by decide) (fun h50 => ?_) (fun h50 => ?_)
          · have hokt : Ok n (bcm (σ.1 2) (σ.1 0) n) := hok.agr Agr.bcm.sym
            have hokg : Ok n (upd (bcm (σ.1 2) (σ.1 0) n) (33 + 37 * rr + 0) 5) := hokt.kind (k := 5) hrr (by omega)
            refine aw_aload_n (pc := 70) C 0 dX8_gum_70 rfl ?_
            refine aw_iload_n (pc := 71) C 1 dX8_gum_71 rfl ?_
            refine aw_cV0 (pc := 72) C (c_X8_tryGum _  n hok rr (by omega)) lk_X8_225 sh0 rfl dX8_gum_72 (by decide) (Nat.le_of_ble_eq_true rfl) rfl rfl ?_
            refine aw_aload_n (pc := 75) C 0 dX8_gum_75 rfl ?_
            refine aw_getR (pc := 76) C fl_X8_36 sh0 rfl dX8_gum_76 ?_
            refine aw_aload_n (pc := 79) C 0 dX8_gum_79 rfl ?_
            refine aw_getR (pc := 80) C fl_X8_23 sh0 rfl dX8_gum_80 ?_
            refine aw_iload_n (pc := 83) C 1 dX8_gum_83 rfl ?_
            refine aw_iload_n (pc := 84) C 2 dX8_gum_84 rfl ?_
            refine aw_iload_n (pc := 85) C 3 dX8_gum_85 rfl ?_
            refine aw_iload (pc := 86) C 4 dX8_gum_86 rfl ?_
            refine aw_callV (pc := 88) C (c_X0_ofDrops _ 2 (by decide : 2 < 3) n (by simp (disch := omega) only [setR_at, setR_twice, setL_at, setL_twice, setR_2, setL_1, setR_ne, setL_ne, ne_eq, Nat.reduceEqDiff, not_false_eq_true, pk_us, pk_un]; exact hokg) rr yy kk jj (by omega) (by omega) (by omega) (by omega)) lk_X8_176 sh6 rfl (by decide) rfl (Nat.le_of_ble_eq_true rfl) dX8_gum_88 rfl (fun w s hq => ?_)
            obtain ⟨P88, A88, rfl, rfl⟩ := hq
            refine aw_conv (σ' := setL (setL (setR σ 2 (upd (bcm (σ.1 2) (σ.1 0) n) (33 + 37 * rr + 0) 5)) 0 (P88)) 1 (A88)) (st' := [.long (dS (upd (bcm (σ.1 2) (σ.1 0) n) (33 + 37 * rr + 0) 5) rr kk yy jj 0)]) (by first | with_reducible rfl | (simp (disch := omega) only [setR_at, setR_twice, setL_at, setL_twice, setR_2, setL_1, setR_ne, setL_ne, ne_eq, Nat.reduceEqDiff, not_false_eq_true, pk_us, pk_un]; done) | (simp (disch := omega) only [setR_at, setR_twice, setL_at, setL_twice, setR_2, setL_1, setR_ne, setL_ne, ne_eq, Nat.reduceEqDiff, not_false_eq_true, pk_us, pk_un, Option.toList_some, Option.toList_none, List.cons_append, List.nil_append]; done) | ((try simp (disch := omega) only [setR_at, setR_twice, setL_at, setL_twice, setR_2, setL_1, setR_ne, setL_ne, ne_eq, Nat.reduceEqDiff, not_false_eq_true, pk_us, pk_un]); refine Prod.ext (funext fun z => ?_) rfl; simp only [setR]; (repeat' split) <;> first | with_reducible rfl | (exfalso; omega)) | (simp (disch := omega) only [setR_at, setR_twice, setL_at, setL_twice, setR_2, setL_1, setR_ne, setL_ne, ne_eq, Nat.reduceEqDiff, not_false_eq_true, pk_us, pk_un, setL_010, Option.toList_some, Option.toList_none, List.cons_append, List.nil_append]; done) | rfl) rfl (by first | with_reducible rfl | (simp (disch := omega) only [setR_at, setR_twice, setL_at, setL_twice, setR_2, setL_1, setR_ne, setL_ne, ne_eq, Nat.reduceEqDiff, not_false_eq_true, pk_us, pk_un]; done) | (simp (disch := omega) only [setR_at, setR_twice, setL_at, setL_twice, setR_2, setL_1, setR_ne, setL_ne, ne_eq, Nat.reduceEqDiff, not_false_eq_true, pk_us, pk_un, Option.toList_some, Option.toList_none, List.cons_append, List.nil_append]; done) | ((try simp (disch := omega) only [setR_at, setR_twice, setL_at, setL_twice, setR_2, setL_1, setR_ne, setL_ne, ne_eq, Nat.reduceEqDiff, not_false_eq_true, pk_us, pk_un]); refine Prod.ext (funext fun z => ?_) rfl; simp only [setR]; (repeat' split) <;> first | with_reducible rfl | (exfalso; omega)) | (simp (disch := omega) only [setR_at, setR_twice, setL_at, setL_twice, setR_2, setL_1, setR_ne, setL_ne, ne_eq, Nat.reduceEqDiff, not_false_eq_true, pk_us, pk_un, setL_010, Option.toList_some, Option.toList_none, List.cons_append, List.nil_append]; done) | rfl) ?_
            exact aw_lretP (pc := 91) C rfl dX8_gum_91 (pcl_any (by rw [sGum, if_pos ⟨hstr, hk0, h27, h37⟩, cl_nI (show rr < 2147483648 by omega), cl_nI (show yy < 2147483648 by omega), cl_nI (show kk < 2147483648 by omega), cl_nI (show jj < 2147483648 by omega), if_pos (w01 h37 h50)]; rfl) (dS_agr (Agr.bcm.put rfl) hrr (by omega)) (fun r hr => by first | rfl | (simp only [anS, setL_1, setR]; (repeat' split) <;> first | rfl | (subst_vars; first | rfl | exact absurd (by decide) hr))))
          · skip
            refine aw_aload_n (pc := 53) C 0 dX8_gum_53 rfl ?_
            refine aw_getR (pc := 54) C fl_X8_36 sh0 rfl dX8_gum_54 ?_
            refine aw_aload_n (pc := 57) C 0 dX8_gum_57 rfl ?_
            refine aw_getR (pc := 58) C fl_X8_16 sh0 rfl dX8_gum_58 ?_
            refine aw_iload_n (pc := 61) C 1 dX8_gum_61 rfl ?_
            refine aw_iload_n (pc := 62) C 2 dX8_gum_62 rfl ?_
            refine aw_iload_n (pc := 63) C 3 dX8_gum_63 rfl ?_
            refine aw_iload (pc := 64) C 4 dX8_gum_64 rfl ?_
            refine aw_callV (pc := 66) C (c_X0_ofDrops _ 0 (by decide : 0 < 3) n hok rr yy kk jj (by omega) (by omega) (by omega) (by omega)) lk_X8_176 sh6 rfl (by decide) rfl (Nat.le_of_ble_eq_true rfl) dX8_gum_66 rfl (fun w s hq => ?_)
            obtain ⟨P66, A66, rfl, rfl⟩ := hq
            refine aw_conv (σ' := setL (setL σ 0 (P66)) 1 (A66)) (st' := [.long (dS (σ.1 0) rr kk yy jj 0)]) (by first | with_reducible rfl | (simp (disch := omega) only [setR_at, setR_twice, setL_at, setL_twice, setR_2, setL_1, setR_ne, setL_ne, ne_eq, Nat.reduceEqDiff, not_false_eq_true, pk_us, pk_un]; done) | (simp (disch := omega) only [setR_at, setR_twice, setL_at, setL_twice, setR_2, setL_1, setR_ne, setL_ne, ne_eq, Nat.reduceEqDiff, not_false_eq_true, pk_us, pk_un, Option.toList_some, Option.toList_none, List.cons_append, List.nil_append]; done) | ((try simp (disch := omega) only [setR_at, setR_twice, setL_at, setL_twice, setR_2, setL_1, setR_ne, setL_ne, ne_eq, Nat.reduceEqDiff, not_false_eq_true, pk_us, pk_un]); refine Prod.ext (funext fun z => ?_) rfl; simp only [setR]; (repeat' split) <;> first | with_reducible rfl | (exfalso; omega)) | (simp (disch := omega) only [setR_at, setR_twice, setL_at, setL_twice, setR_2, setL_1, setR_ne, setL_ne, ne_eq, Nat.reduceEqDiff, not_false_eq_true, pk_us, pk_un, setL_010, Option.toList_some, Option.toList_none, List.cons_append, List.nil_append]; done) | rfl) rfl (by first | with_reducible rfl | (simp (disch := omega) only [setR_at, setR_twice, setL_at, setL_twice, setR_2, setL_1, setR_ne, setL_ne, ne_eq, Nat.reduceEqDiff, not_false_eq_true, pk_us, pk_un]; done) | (simp (disch := omega) only [setR_at, setR_twice, setL_at, setL_twice, setR_2, setL_1, setR_ne, setL_ne, ne_eq, Nat.reduceEqDiff, not_false_eq_true, pk_us, pk_un, Option.toList_some, Option.toList_none, List.cons_append, List.nil_append]; done) | ((try simp (disch := omega) only [setR_at, setR_twice, setL_at, setL_twice, setR_2, setL_1, setR_ne, setL_ne, ne_eq, Nat.reduceEqDiff, not_false_eq_true, pk_us, pk_un]); refine Prod.ext (funext fun z => ?_) rfl; simp only [setR]; (repeat' split) <;> first | with_reducible rfl | (exfalso; omega)) | (simp (disch := omega) only [setR_at, setR_twice, setL_at, setL_twice, setR_2, setL_1, setR_ne, setL_ne, ne_eq, Nat.reduceEqDiff, not_false_eq_true, pk_us, pk_un, setL_010, Option.toList_some, Option.toList_none, List.cons_append, List.nil_append]; done) | rfl) ?_
            exact aw_lretP (pc := 69) C rfl dX8_gum_69 (pcl_any (by rw [sGum, if_pos ⟨hstr, hk0, h27, h37⟩, cl_nI (show rr < 2147483648 by omega), cl_nI (show yy < 2147483648 by omega), cl_nI (show kk < 2147483648 by omega), cl_nI (show jj < 2147483648 by omega), if_neg (show ¬ w = 0 from fun z => by rw [h50] at z; exact absurd z (by decide)), asK_own]) rfl (fun r hr => by first | rfl | (simp only [anS, setL_1, setR]; (repeat' split) <;> first | rfl | (subst_vars; first | rfl | exact absurd (by decide) hr))))
        · refine aw_aload_n (pc := 40) C 0 dX8_gum_40 rfl ?_
          refine aw_iconst (pc := 41) (v := 0) C dX8_gum_41 rfl ?_
          refine aw_cVI (pc := 42) C (c_X8_found _ 0 (by omega)) lk_X8_78 sh0 rfl dX8_gum_42 (by decide) (Nat.le_of_ble_eq_true rfl) rfl rfl ?_
          refine aw_i2l (pc := 45) C dX8_gum_45 ?_
          exact aw_lretP (pc := 46) C rfl dX8_gum_46 (pcl_low (by rw [sGum, if_neg (show ¬ (strP n r y k 8 ∧ (¬ k = 0) ∧ (0 ≤ j ∧ j ≤ k) ∧ (0 ≤ w ∧ w ≤ 1)) from fun z => h37 z.2.2.2)]))
theorem c_X8_suspect (σ : St) (n : Nat) (hok : Ok n (σ.1 0)) (r y k : Int32) : AMet Y_X8_suspect [.ref 0, .int r, .int y, .int k] σ (PC σ (sSuspect (σ.1 0) n r y k)) := by
  refine am_intro (by decide +kernel) (Nat.le_of_ble_eq_true rfl) (fun K C => ?_)
  have hz := hok.1
  have hn := hok.2.1
  refine aw_aload_n (pc := 0) C 0 dX8_suspect_0 rfl ?_
  refine aw_iload_n (pc := 1) C 1 dX8_suspect_1 rfl ?_
  refine aw_iload_n (pc := 2) C 2 dX8_suspect_2 rfl ?_
  refine aw_iload_n (pc := 3) C 3 dX8_suspect_3 rfl ?_
  refine aw_cVI (pc := 4) C (c_X8_isStretch _ n hn hz r y k ) lk_X8_173 sh0 rfl dX8_suspect_4 (by decide) (Nat.le_of_ble_eq_true rfl) rfl rfl ?_
  refine aw_if_eqB (pc := 7) C 20 dX8_suspect_7 (by decide) (fun h7 => ?_) (fun h7 => ?_)
  · refine aw_aload_n (pc := 20) C 0 dX8_suspect_20 rfl ?_
    refine aw_iconst (pc := 21) (v := 0) C dX8_suspect_21 rfl ?_
    refine aw_cVI (pc := 22) C (c_X8_found _ 0 (by omega)) lk_X8_78 sh0 rfl dX8_suspect_22 (by decide) (Nat.le_of_ble_eq_true rfl) rfl rfl ?_
    exact aw_iretP (pc := 25) C rfl dX8_suspect_25 (pc_of (an' := .inl 0) (by rw [sSuspect, if_neg (fun z => h7 (strC1.mpr z).1)]) rfl rfl)
  · refine aw_iload_n (pc := 10) C 3 dX8_suspect_10 rfl ?_
    refine aw_iconst (pc := 11) (v := 1) C dX8_suspect_11 rfl ?_
    refine aw_bipush (pc := 12) (v := 8) C dX8_suspect_12 rfl ?_
    refine aw_cSI (pc := 14) C (c_X8_within _ k 1 8 ) lk_X8_74 dX8_suspect_14 (by decide) (Nat.le_of_ble_eq_true rfl) rfl rfl ?_
    refine aw_if_neB (pc := 17) C 26 dX8_suspect_17 (by decide) (fun h17 => ?_) (fun h17 => ?_)
    · obtain ⟨hstr, hk0⟩ := strC1.mp ⟨h7, h17⟩
      obtain ⟨rr, yy, kk, rfl, rfl, rfl, hrr, hyy, hkk, hyk⟩ := str_nat hstr hz (B := 8) rfl (by omega)
      have hokt : Ok n (bcm (σ.1 2) (σ.1 0) n) := hok.agr Agr.bcm.sym
      have hokg : Ok n (upd (bcm (σ.1 2) (σ.1 0) n) (33 + 37 * rr + 0) 5) := hokt.kind (k := 5) hrr (by omega)
      refine aw_aload_n (pc := 26) C 0 dX8_suspect_26 rfl ?_
      refine aw_iload_n (pc := 27) C 1 dX8_suspect_27 rfl ?_
      refine aw_cV0 (pc := 28) C (c_X8_tryGum _  n hok rr (by omega)) lk_X8_225 sh0 rfl dX8_suspect_28 (by decide) (Nat.le_of_ble_eq_true rfl) rfl rfl ?_
      refine aw_iload_n (pc := 31) C 3 dX8_suspect_31 rfl ?_
      refine aw_istore (pc := 32) C [(4, .int (nI kk)), (0, .ref 0), (1, .int (nI rr)), (2, .int (nI yy)), (3, .int (nI kk))] dX8_suspect_32 (Nat.le_of_ble_eq_true rfl) rfl ?_
      refine aw_lvs C [0, 1, 2, 3, 4] [(4, .int (nI kk)), (0, .ref 0), (1, .int (nI rr)), (2, .int (nI yy)), (3, .int (nI kk))] rfl ?_
      refine aw_conv (σ' := setL (setL (setR σ 2 (upd (bcm (σ.1 2) (σ.1 0) n) (33 + 37 * rr + 0) 5)) 0 (σ.2 0)) 1 (σ.2 1)) (lv' := [(4, .int (nI kk)), (0, .ref 0), (1, .int (nI rr)), (2, .int (nI yy)), (3, .int (nI kk))]) ((setL_same (setL (setR σ 2 (upd (bcm (σ.1 2) (σ.1 0) n) (33 + 37 * rr + 0) 5)) 0 (σ.2 0)) 1).trans (setL_same (setR σ 2 (upd (bcm (σ.1 2) (σ.1 0) n) (33 + 37 * rr + 0) 5)) 0)).symm rfl rfl ?_
      refine loop_dn (P := fun m => m ≤ kk + 1 → ∀ (P A : LR) (hI : susS (σ.1 0) rr yy kk (kk + 1) = susS (σ.1 0) rr yy kk m), AW _ K _ (setL (setL (setR σ 2 (upd (bcm (σ.1 2) (σ.1 0) n) (33 + 37 * rr + 0) 5)) 0 (P)) 1 (A)) 34 [(4, .int (dI m)), (0, .ref 0), (1, .int (nI rr)), (2, .int (nI yy)), (3, .int (nI kk))] []) ?_ ?_ (kk + 1) (by omega) (σ.2 0) (σ.2 1) rfl
      · intro hk34 P A hI
        refine aw_iload (pc := 34) C 0 dX8_suspect_34 rfl ?_
        refine aw_if_lt (pc := 36) C 103 dX8_suspect_36 (by decide) (fun h36 => ?_) (fun h36 => absurd h36 (by decide))
        refine aw_aload_n (pc := 103) C 1 dX8_suspect_103 rfl ?_
        refine aw_iconst (pc := 104) (v := 3) C dX8_suspect_104 rfl ?_
        refine aw_cVI (pc := 105) C (c_X8_found _ 3 (by omega)) lk_X8_78 sh0 rfl dX8_suspect_105 (by decide) (Nat.le_of_ble_eq_true rfl) rfl rfl ?_
        refine aw_conv (σ' := setR (setL (setL (setR σ 2 (upd (bcm (σ.1 2) (σ.1 0) n) (33 + 37 * rr + 0) 5)) 0 (P)) 1 (A)) 3 (upd (σ.1 3) 3 (σ.1 3 3 + 1))) (st' := [.int ((-100000004))]) (by first | with_reducible rfl | (simp (disch := omega) only [setR_at, setR_twice, setL_at, setL_twice, setR_2, setL_1, setR_ne, setL_ne, ne_eq, Nat.reduceEqDiff, not_false_eq_true, pk_us, pk_un]; done) | (simp (disch := omega) only [setR_at, setR_twice, setL_at, setL_twice, setR_2, setL_1, setR_ne, setL_ne, ne_eq, Nat.reduceEqDiff, not_false_eq_true, pk_us, pk_un, Option.toList_some, Option.toList_none, List.cons_append, List.nil_append]; done) | ((try simp (disch := omega) only [setR_at, setR_twice, setL_at, setL_twice, setR_2, setL_1, setR_ne, setL_ne, ne_eq, Nat.reduceEqDiff, not_false_eq_true, pk_us, pk_un]); refine Prod.ext (funext fun z => ?_) rfl; simp only [setR]; (repeat' split) <;> first | with_reducible rfl | (exfalso; omega)) | (simp (disch := omega) only [setR_at, setR_twice, setL_at, setL_twice, setR_2, setL_1, setR_ne, setL_ne, ne_eq, Nat.reduceEqDiff, not_false_eq_true, pk_us, pk_un, setL_010, Option.toList_some, Option.toList_none, List.cons_append, List.nil_append]; done) | rfl) rfl (by first | with_reducible rfl | (simp (disch := omega) only [setR_at, setR_twice, setL_at, setL_twice, setR_2, setL_1, setR_ne, setL_ne, ne_eq, Nat.reduceEqDiff, not_false_eq_true, pk_us, pk_un]; done) | (simp (disch := omega) only [setR_at, setR_twice, setL_at, setL_twice, setR_2, setL_1, setR_ne, setL_ne, ne_eq, Nat.reduceEqDiff, not_false_eq_true, pk_us, pk_un, Option.toList_some, Option.toList_none, List.cons_append, List.nil_append]; done) | ((try simp (disch := omega) only [setR_at, setR_twice, setL_at, setL_twice, setR_2, setL_1, setR_ne, setL_ne, ne_eq, Nat.reduceEqDiff, not_false_eq_true, pk_us, pk_un]); refine Prod.ext (funext fun z => ?_) rfl; simp only [setR]; (repeat' split) <;> first | with_reducible rfl | (exfalso; omega)) | (simp (disch := omega) only [setR_at, setR_twice, setL_at, setL_twice, setR_2, setL_1, setR_ne, setL_ne, ne_eq, Nat.reduceEqDiff, not_false_eq_true, pk_us, pk_un, setL_010, Option.toList_some, Option.toList_none, List.cons_append, List.nil_append]; done) | rfl) ?_
        exact aw_iretP (pc := 108) C rfl dX8_suspect_108 (pc_scr (an' := .inl 3) (by rw [sSuspect, if_pos ⟨hstr, hk0⟩, cl_nI (show rr < 2147483648 by omega), cl_nI (show yy < 2147483648 by omega), cl_nI (show kk < 2147483648 by omega), hI, susS]) rfl (fun r hr => by first | rfl | (simp only [anS, setL_1, setR]; (repeat' split) <;> first | rfl | (subst_vars; first | rfl | exact absurd (by decide) hr))))
      · intro m ih34 hk34 P A hI
        refine aw_iload (pc := 34) C 0 dX8_suspect_34 rfl ?_
        refine aw_if_lt (pc := 36) C 103 dX8_suspect_36 (by decide) (fun h36 => absurd h36 (nI_pos (by omega))) (fun h36 => ?_)
        refine aw_aload_n (pc := 39) C 1 dX8_suspect_39 rfl ?_
        refine aw_getR (pc := 40) C fl_X8_36 sh0 rfl dX8_suspect_40 ?_
        refine aw_aload_n (pc := 43) C 1 dX8_suspect_43 rfl ?_
        refine aw_getR (pc := 44) C fl_X8_23 sh0 rfl dX8_suspect_44 ?_
        refine aw_iload_n (pc := 47) C 2 dX8_suspect_47 rfl ?_
        refine aw_iload_n (pc := 48) C 3 dX8_suspect_48 rfl ?_
        refine aw_iload_n (pc := 49) C 4 dX8_suspect_49 rfl ?_
        refine aw_iload (pc := 50) C 0 dX8_suspect_50 rfl ?_
        refine aw_callV (pc := 52) C (c_X0_ofDrops _ 2 (by decide : 2 < 3) n (by simp (disch := omega) only [setR_at, setR_twice, setL_at, setL_twice, setR_2, setL_1, setR_ne, setL_ne, ne_eq, Nat.reduceEqDiff, not_false_eq_true, pk_us, pk_un]; exact hokg) rr yy kk m (by omega) (by omega) (by omega) (by omega)) lk_X8_176 sh6 rfl (by decide) rfl (Nat.le_of_ble_eq_true rfl) dX8_suspect_52 rfl (fun w s hq => ?_)
        obtain ⟨P52, A52, rfl, rfl⟩ := hq
        refine aw_conv (σ' := setL (setL (setR σ 2 (upd (bcm (σ.1 2) (σ.1 0) n) (33 + 37 * rr + 0) 5)) 0 (P52)) 1 (A52)) (st' := [.long (dS (upd (bcm (σ.1 2) (σ.1 0) n) (33 + 37 * rr + 0) 5) rr kk yy m 0)]) (by first | with_reducible rfl | (simp (disch := omega) only [setR_at, setR_twice, setL_at, setL_twice, setR_2, setL_1, setR_ne, setL_ne, ne_eq, Nat.reduceEqDiff, not_false_eq_true, pk_us, pk_un]; done) | (simp (disch := omega) only [setR_at, setR_twice, setL_at, setL_twice, setR_2, setL_1, setR_ne, setL_ne, ne_eq, Nat.reduceEqDiff, not_false_eq_true, pk_us, pk_un, Option.toList_some, Option.toList_none, List.cons_append, List.nil_append]; done) | ((try simp (disch := omega) only [setR_at, setR_twice, setL_at, setL_twice, setR_2, setL_1, setR_ne, setL_ne, ne_eq, Nat.reduceEqDiff, not_false_eq_true, pk_us, pk_un]); refine Prod.ext (funext fun z => ?_) rfl; simp only [setR]; (repeat' split) <;> first | with_reducible rfl | (exfalso; omega)) | (simp (disch := omega) only [setR_at, setR_twice, setL_at, setL_twice, setR_2, setL_1, setR_ne, setL_ne, ne_eq, Nat.reduceEqDiff, not_false_eq_true, pk_us, pk_un, setL_010, Option.toList_some, Option.toList_none, List.cons_append, List.nil_append]; done) | rfl) rfl (by first | with_reducible rfl | (simp (disch := omega) only [setR_at, setR_twice, setL_at, setL_twice, setR_2, setL_1, setR_ne, setL_ne, ne_eq, Nat.reduceEqDiff, not_false_eq_true, pk_us, pk_un]; done) | (simp (disch := omega) only [setR_at, setR_twice, setL_at, setL_twice, setR_2, setL_1, setR_ne, setL_ne, ne_eq, Nat.reduceEqDiff, not_false_eq_true, pk_us, pk_un, Option.toList_some, Option.toList_none, List.cons_append, List.nil_append]; done) | ((try simp (disch := omega) only [setR_at, setR_twice, setL_at, setL_twice, setR_2, setL_1, setR_ne, setL_ne, ne_eq, Nat.reduceEqDiff, not_false_eq_true, pk_us, pk_un]); refine Prod.ext (funext fun z => ?_) rfl; simp only [setR]; (repeat' split) <;> first | with_reducible rfl | (exfalso; omega)) | (simp (disch := omega) only [setR_at, setR_twice, setL_at, setL_twice, setR_2, setL_1, setR_ne, setL_ne, ne_eq, Nat.reduceEqDiff, not_false_eq_true, pk_us, pk_un, setL_010, Option.toList_some, Option.toList_none, List.cons_append, List.nil_append]; done) | rfl) ?_
        refine aw_topL C (dS (asK (σ.1 0) rr 5) rr kk yy m 0) (dS_agr (Agr.bcm.put rfl) hrr (by omega)) ?_
        refine aw_lstore (pc := 55) C [(5, .long (dS (asK (σ.1 0) rr 5) rr kk yy m 0)), (4, .int (nI m)), (0, .ref 0), (1, .int (nI rr)), (2, .int (nI yy)), (3, .int (nI kk))] dX8_suspect_55 (Nat.le_of_ble_eq_true rfl) rfl ?_
        refine aw_aload_n (pc := 57) C 2 dX8_suspect_57 rfl ?_
        refine aw_getR (pc := 58) C fl_X8_36 sh0 rfl dX8_suspect_58 ?_
        refine aw_aload_n (pc := 61) C 2 dX8_suspect_61 rfl ?_
        refine aw_getR (pc := 62) C fl_X8_16 sh0 rfl dX8_suspect_62 ?_
        refine aw_iload_n (pc := 65) C 3 dX8_suspect_65 rfl ?_
        refine aw_iload_n (pc := 66) C 4 dX8_suspect_66 rfl ?_
        refine aw_iload_n (pc := 67) C 5 dX8_suspect_67 rfl ?_
        refine aw_iload (pc := 68) C 1 dX8_suspect_68 rfl ?_
        refine aw_callV (pc := 70) C (c_X0_ofDrops _ 0 (by decide : 0 < 3) n (by simp (disch := omega) only [setR_at, setR_twice, setL_at, setL_twice, setR_2, setL_1, setR_ne, setL_ne, ne_eq, Nat.reduceEqDiff, not_false_eq_true, pk_us, pk_un]; exact hok) rr yy kk m (by omega) (by omega) (by omega) (by omega)) lk_X8_176 sh6 rfl (by decide) rfl (Nat.le_of_ble_eq_true rfl) dX8_suspect_70 rfl (fun w s hq => ?_)
        obtain ⟨P70, A70, rfl, rfl⟩ := hq
        refine aw_conv (σ' := setL (setL (setR σ 2 (upd (bcm (σ.1 2) (σ.1 0) n) (33 + 37 * rr + 0) 5)) 0 (P70)) 1 (A70)) (st' := [.long (dS (σ.1 0) rr kk yy m 0)]) (by first | with_reducible rfl | (simp (disch := omega) only [setR_at, setR_twice, setL_at, setL_twice, setR_2, setL_1, setR_ne, setL_ne, ne_eq, Nat.reduceEqDiff, not_false_eq_true, pk_us, pk_un]; done) | (simp (disch := omega) only [setR_at, setR_twice, setL_at, setL_twice, setR_2, setL_1, setR_ne, setL_ne, ne_eq, Nat.reduceEqDiff, not_false_eq_true, pk_us, pk_un, Option.toList_some, Option.toList_none, List.cons_append, List.nil_append]; done) | ((try simp (disch := omega) only [setR_at, setR_twice, setL_at, setL_twice, setR_2, setL_1, setR_ne, setL_ne, ne_eq, Nat.reduceEqDiff, not_false_eq_true, pk_us, pk_un]); refine Prod.ext (funext fun z => ?_) rfl; simp only [setR]; (repeat' split) <;> first | with_reducible rfl | (exfalso; omega)) | (simp (disch := omega) only [setR_at, setR_twice, setL_at, setL_twice, setR_2, setL_1, setR_ne, setL_ne, ne_eq, Nat.reduceEqDiff, not_false_eq_true, pk_us, pk_un, setL_010, Option.toList_some, Option.toList_none, List.cons_append, List.nil_append]; done) | rfl) rfl (by first | with_reducible rfl | (simp (disch := omega) only [setR_at, setR_twice, setL_at, setL_twice, setR_2, setL_1, setR_ne, setL_ne, ne_eq, Nat.reduceEqDiff, not_false_eq_true, pk_us, pk_un]; done) | (simp (disch := omega) only [setR_at, setR_twice, setL_at, setL_twice, setR_2, setL_1, setR_ne, setL_ne, ne_eq, Nat.reduceEqDiff, not_false_eq_true, pk_us, pk_un, Option.toList_some, Option.toList_none, List.cons_append, List.nil_append]; done) | ((try simp (disch := omega) only [setR_at, setR_twice, setL_at, setL_twice, setR_2, setL_1, setR_ne, setL_ne, ne_eq, Nat.reduceEqDiff, not_false_eq_true, pk_us, pk_un]); refine Prod.ext (funext fun z => ?_) rfl; simp only [setR]; (repeat' split) <;> first | with_reducible rfl | (exfalso; omega)) | (simp (disch := omega) only [setR_at, setR_twice, setL_at, setL_twice, setR_2, setL_1, setR_ne, setL_ne, ne_eq, Nat.reduceEqDiff, not_false_eq_true, pk_us, pk_un, setL_010, Option.toList_some, Option.toList_none, List.cons_append, List.nil_append]; done) | rfl) ?_
        refine aw_lstore (pc := 73) C [(7, .long (dS (σ.1 0) rr kk yy m 0)), (5, .long (dS (asK (σ.1 0) rr 5) rr kk yy m 0)), (4, .int (nI m)), (0, .ref 0), (1, .int (nI rr)), (2, .int (nI yy)), (3, .int (nI kk))] dX8_suspect_73 (Nat.le_of_ble_eq_true rfl) rfl ?_
        refine aw_lload (pc := 75) C 1 dX8_suspect_75 rfl ?_
        refine aw_lconst (pc := 77) (v := 0) C dX8_suspect_77 rfl ?_
        refine aw_lcmp (pc := 78) C dX8_suspect_78 ?_
        refine aw_if_leC (pc := 79) C 97 dX8_suspect_79 (by decide) (fun h79 => ?_) (fun h79 => ?_)
        · refine aw_iinc (pc := 97) C 2 ((nI (m)) + (-1)) [(4, .int ((nI (m)) + (-1))), (7, .long (dS (σ.1 0) rr kk yy m 0)), (5, .long (dS (asK (σ.1 0) rr 5) rr kk yy m 0)), (0, .ref 0), (1, .int (nI rr)), (2, .int (nI yy)), (3, .int (nI kk))] dX8_suspect_97 rfl rfl (Nat.le_of_ble_eq_true rfl) rfl ?_
          refine aw_goto (pc := 100) C 34 dX8_suspect_100 (by decide) ?_
          refine aw_lvs C [0, 3, 4, 5, 6] [(4, .int ((nI (m)) + (-1))), (0, .ref 0), (1, .int (nI rr)), (2, .int (nI yy)), (3, .int (nI kk))] rfl ?_
          exact aw_conv (σ' := setL (setL (setR σ 2 (upd (bcm (σ.1 2) (σ.1 0) n) (33 + 37 * rr + 0) 5)) 0 (P70)) 1 (A70)) (lv' := [(4, .int (dI m)), (0, .ref 0), (1, .int (nI rr)), (2, .int (nI yy)), (3, .int (nI kk))]) rfl (by rw [dI_dec]) rfl (ih34 (by omega) _ _ (by rw [hI, susS, if_neg (fun z => Int64.not_lt.mpr h79 z.1)]))
        · refine aw_lload (pc := 82) C 1 dX8_suspect_82 rfl ?_
          refine aw_ldc2 (pc := 84) C dX8_suspect_84 kc_X8_229 ?_
          refine aw_lload (pc := 87) C 0 dX8_suspect_87 rfl ?_
          refine aw_lmul (pc := 89) C dX8_suspect_89 ?_
          refine aw_lcmp (pc := 90) C dX8_suspect_90 ?_
          refine aw_if_ltC (pc := 91) C 97 dX8_suspect_91 (by decide) (fun h91 => ?_) (fun h91 => ?_)
          · refine aw_iinc (pc := 97) C 2 ((nI (m)) + (-1)) [(4, .int ((nI (m)) + (-1))), (7, .long (dS (σ.1 0) rr kk yy m 0)), (5, .long (dS (asK (σ.1 0) rr 5) rr kk yy m 0)), (0, .ref 0), (1, .int (nI rr)), (2, .int (nI yy)), (3, .int (nI kk))] dX8_suspect_97 rfl rfl (Nat.le_of_ble_eq_true rfl) rfl ?_
            refine aw_goto (pc := 100) C 34 dX8_suspect_100 (by decide) ?_
            refine aw_lvs C [0, 3, 4, 5, 6] [(4, .int ((nI (m)) + (-1))), (0, .ref 0), (1, .int (nI rr)), (2, .int (nI yy)), (3, .int (nI kk))] rfl ?_
            exact aw_conv (σ' := setL (setL (setR σ 2 (upd (bcm (σ.1 2) (σ.1 0) n) (33 + 37 * rr + 0) 5)) 0 (P70)) 1 (A70)) (lv' := [(4, .int (dI m)), (0, .ref 0), (1, .int (nI rr)), (2, .int (nI yy)), (3, .int (nI kk))]) rfl (by rw [dI_dec]) rfl (ih34 (by omega) _ _ (by rw [hI, susS, if_neg (fun z => Int64.not_le.mpr h91 z.2)]))
          · refine aw_iload (pc := 94) C 2 dX8_suspect_94 rfl ?_
            exact aw_iretP (pc := 96) C rfl dX8_suspect_96 (pc_scr (an' := .inr (nI m, σ.1 0)) (by rw [sSuspect, if_pos ⟨hstr, hk0⟩, cl_nI (show rr < 2147483648 by omega), cl_nI (show yy < 2147483648 by omega), cl_nI (show kk < 2147483648 by omega), hI, susS, if_pos ⟨Int64.not_le.mp h79, Int64.not_lt.mp h91⟩]) rfl (fun r hr => by first | rfl | (simp only [anS, setL_1, setR]; (repeat' split) <;> first | rfl | (subst_vars; first | rfl | exact absurd (by decide) hr))))
    · refine aw_aload_n (pc := 20) C 0 dX8_suspect_20 rfl ?_
      refine aw_iconst (pc := 21) (v := 0) C dX8_suspect_21 rfl ?_
      refine aw_cVI (pc := 22) C (c_X8_found _ 0 (by omega)) lk_X8_78 sh0 rfl dX8_suspect_22 (by decide) (Nat.le_of_ble_eq_true rfl) rfl rfl ?_
      exact aw_iretP (pc := 25) C rfl dX8_suspect_25 (pc_of (an' := .inl 0) (by rw [sSuspect, if_neg (fun z => h17 (strC1.mpr z).2)]) rfl rfl)
