/-! the class: spoon, worst -/
theorem c_X8_spoon (σ : St) (n : Nat) (hok : Ok n (σ.1 0)) (r : Int32) : AMet Y_X8_spoon [.ref 0, .int r] σ (PC σ (sSpoon (σ.1 0) n r)) := by
  refine am_intro (by decide +kernel) (Nat.le_of_ble_eq_true rfl) (fun K C => ?_)
  have hz := hok.1
  have hn := hok.2.1
  have hokt : Ok n (bcm (σ.1 2) (σ.1 0) n) := hok.agr Agr.bcm.sym
  refine aw_aload_n (pc := 0) C 0 dX8_spoon_0 rfl ?_
  refine aw_iload_n (pc := 1) C 1 dX8_spoon_1 rfl ?_
  refine aw_cVI (pc := 2) C (c_X8_isRunner _ n hn hz r ) lk_X8_96 sh0 rfl dX8_spoon_2 (by decide) (Nat.le_of_ble_eq_true rfl) rfl rfl ?_
  refine aw_if_neB (pc := 5) C 14 dX8_spoon_5 (by decide) (fun h5 => ?_) (fun h5 => ?_)
  · obtain ⟨rr, rfl, hrr⟩ := rgR h5 hz
    refine aw_aload_n (pc := 14) C 0 dX8_spoon_14 rfl ?_
    refine aw_getR (pc := 15) C fl_X8_23 sh0 rfl dX8_spoon_15 ?_
    refine aw_aload_n (pc := 18) C 0 dX8_spoon_18 rfl ?_
    refine aw_getR (pc := 19) C fl_X8_16 sh0 rfl dX8_spoon_19 ?_
    refine aw_cV0 (pc := 22) C (c_X2_become _ 2 (by decide : 2 < 3) 0 (by decide : 0 < 3) (by decide) n hn hz) lk_X8_151 (shM (by decide : 2 < 3)) rfl dX8_spoon_22 (by decide) (Nat.le_of_ble_eq_true rfl) rfl rfl ?_
    refine aw_ldc (pc := 25) C dX8_spoon_25 kc_X8_192 ?_
    refine aw_istore_n (pc := 27) C [(2, .int 2147483647), (0, .ref 0), (1, .int (nI rr))] dX8_spoon_27 (Nat.le_of_ble_eq_true rfl) rfl ?_
    refine aw_iconst (pc := 28) (v := 0) C dX8_spoon_28 rfl ?_
    refine aw_istore_n (pc := 29) C [(3, .int 0), (2, .int 2147483647), (0, .ref 0), (1, .int (nI rr))] dX8_spoon_29 (Nat.le_of_ble_eq_true rfl) rfl ?_
    refine aw_iconst (pc := 30) (v := 0) C dX8_spoon_30 rfl ?_
    refine aw_istore (pc := 31) C [(4, .int 0), (3, .int 0), (2, .int 2147483647), (0, .ref 0), (1, .int (nI rr))] dX8_spoon_31 (Nat.le_of_ble_eq_true rfl) rfl ?_
    refine aw_lvs C [0, 1, 2, 3, 4] [(4, .int 0), (3, .int 0), (2, .int 2147483647), (0, .ref 0), (1, .int (nI rr))] rfl ?_
    refine aw_conv (σ' := setR (setR (setR σ 2 (spN (bcm (σ.1 2) (σ.1 0) n) (33 + 37 * rr + 2) 0)) 5 (σ.1 5)) 6 (σ.1 6)) (lv' := [(4, .int (nI 0)), (3, .int (oZ (amin (spV (σ.1 0) rr) 0))), (2, .int (lsM (spV (σ.1 0) rr) (amin (spV (σ.1 0) rr) 0))), (0, .ref 0), (1, .int (nI rr))]) (by show setR σ 2 (bcm (σ.1 2) (σ.1 0) n) = setR (setR (setR σ 2 (bcm (σ.1 2) (σ.1 0) n)) 5 (σ.1 5)) 6 (σ.1 6); exact ((setR_same (setR (setR σ 2 (bcm (σ.1 2) (σ.1 0) n)) 5 (σ.1 5)) 6).trans (setR_same (setR σ 2 (bcm (σ.1 2) (σ.1 0) n)) 5)).symm) rfl rfl ?_
    refine loop_up (P := fun k => ∀ (f g : Fl), AW _ K _ (setR (setR (setR σ 2 (spN (bcm (σ.1 2) (σ.1 0) n) (33 + 37 * rr + 2) k)) 5 (f)) 6 (g)) 33 [(4, .int (nI k)), (3, .int (oZ (amin (spV (σ.1 0) rr) k))), (2, .int (lsM (spV (σ.1 0) rr) (amin (spV (σ.1 0) rr) k))), (0, .ref 0), (1, .int (nI rr))] []) 6 ?_ ?_ 0 (by omega) (σ.1 5) (σ.1 6)
    · intro f g
      refine aw_iload (pc := 33) C 0 dX8_spoon_33 rfl ?_
      refine aw_iconst (pc := 35) (v := 5) C dX8_spoon_35 rfl ?_
      refine aw_icmp_gtN (pc := 36) C 6 5 89 rfl rfl (by omega) (by omega) dX8_spoon_36 (by decide) (fun h36 => ?_) (fun h36 => absurd h36 (by omega))
      refine aw_iload_n (pc := 89) C 1 dX8_spoon_89 rfl ?_
      obtain ⟨b, hb⟩ := amin_some (v := spV (σ.1 0) rr) (k := 6) (by omega)
      refine aw_top C (nI (b)) (by rw [hb]; rfl) ?_
      exact aw_iretP (pc := 90) C rfl dX8_spoon_90 (pc_scr (an' := .inr (nI b, σ.1 0)) (by rw [sSpoon, if_pos h5, cl_nI (show rr < 2147483648 by omega), hb]; rfl) rfl (fun r hr => by simp only [anS, setR]; (repeat' split) <;> first | rfl | (subst_vars; first | rfl | exact absurd (by decide) hr)))
    · intro k hk33 ih33 f g
      refine aw_iload (pc := 33) C 0 dX8_spoon_33 rfl ?_
      refine aw_iconst (pc := 35) (v := 5) C dX8_spoon_35 rfl ?_
      refine aw_icmp_gtN (pc := 36) C k 5 89 rfl rfl (by omega) (by omega) dX8_spoon_36 (by decide) (fun h36 => absurd h36 (by omega)) (fun h36 => ?_)
      refine aw_aload_n (pc := 39) C 3 dX8_spoon_39 rfl ?_
      refine aw_getR (pc := 40) C fl_X8_23 sh0 rfl dX8_spoon_40 ?_
      refine aw_getR (pc := 43) C fl_X8_99 (shM (by decide : 2 < 3)) rfl dX8_spoon_43 ?_
      refine aw_iload_n (pc := 46) C 4 dX8_spoon_46 rfl ?_
      refine aw_aald (pc := 47) (k := rr) C (shRs (by decide : 2 < 3)) dX8_spoon_47 rfl (by omega) ?_
      refine aw_iload (pc := 48) C 0 dX8_spoon_48 rfl ?_
      refine aw_pst (pc := 50) C (setR (setR (setR σ 2 (upd (spN (bcm (σ.1 2) (σ.1 0) n) (33 + 37 * rr + 2) k) (33 + 37 * rr + 2) (nI (k)))) 5 (f)) 6 (g)) fp_X8_203 (shR (by decide : 2 < 3) (by omega)) rfl dX8_spoon_50 (by first | with_reducible rfl | (simp (disch := omega) only [setR_at, setR_twice, setL_at, setL_twice, setR_2, setL_1, setR_ne, setL_ne, ne_eq, Nat.reduceEqDiff, not_false_eq_true, pk_us, pk_un]; done) | (simp (disch := omega) only [setR_at, setR_twice, setL_at, setL_twice, setR_2, setL_1, setR_ne, setL_ne, ne_eq, Nat.reduceEqDiff, not_false_eq_true, pk_us, pk_un, Option.toList_some, Option.toList_none, List.cons_append, List.nil_append]; done) | ((try simp (disch := omega) only [setR_at, setR_twice, setL_at, setL_twice, setR_2, setL_1, setR_ne, setL_ne, ne_eq, Nat.reduceEqDiff, not_false_eq_true, pk_us, pk_un]); refine Prod.ext (funext fun z => ?_) rfl; simp only [setR]; (repeat' split) <;> first | with_reducible rfl | (exfalso; omega)) | rfl) ?_
      refine aw_conv (σ' := setR (setR (setR σ 2 (spN (bcm (σ.1 2) (σ.1 0) n) (33 + 37 * rr + 2) (k + 1))) 5 (f)) 6 (g)) (by rw [show upd (spN (bcm (σ.1 2) (σ.1 0) n) (33 + 37 * rr + 2) k) (33 + 37 * rr + 2) (nI k) = spN (bcm (σ.1 2) (σ.1 0) n) (33 + 37 * rr + 2) (k + 1) from spN_upd]) rfl rfl ?_
      have hoks : Ok n (spN (bcm (σ.1 2) (σ.1 0) n) (33 + 37 * rr + 2) (k + 1)) := hokt.spoon hrr (by omega)
      refine aw_aload_n (pc := 53) C 3 dX8_spoon_53 rfl ?_
      refine aw_aload_n (pc := 54) C 3 dX8_spoon_54 rfl ?_
      refine aw_getR (pc := 55) C fl_X8_23 sh0 rfl dX8_spoon_55 ?_
      refine aw_iload_n (pc := 58) C 4 dX8_spoon_58 rfl ?_
      refine aw_callV (pc := 59) C (c_X8_wholeMean _ 2 (by decide : 2 < 3) n (by simp (disch := omega) only [setR_at, setR_twice, setL_at, setL_twice, setR_2, setL_1, setR_ne, setL_ne, ne_eq, Nat.reduceEqDiff, not_false_eq_true, pk_us, pk_un]; exact hoks) rr (by omega)) lk_X8_199 sh0 rfl (by decide) rfl (Nat.le_of_ble_eq_true rfl) dX8_spoon_59 rfl (fun w s hq => ?_)
      obtain ⟨f59, g59, rfl, rfl⟩ := hq
      refine aw_conv (σ' := setR (setR (setR σ 2 (spN (bcm (σ.1 2) (σ.1 0) n) (33 + 37 * rr + 2) (k + 1))) 5 (f59)) 6 (g59)) (st' := [.int (meanS (spN (bcm (σ.1 2) (σ.1 0) n) (33 + 37 * rr + 2) (k + 1)) rr)]) (by first | with_reducible rfl | (simp (disch := omega) only [setR_at, setR_twice, setL_at, setL_twice, setR_2, setL_1, setR_ne, setL_ne, ne_eq, Nat.reduceEqDiff, not_false_eq_true, pk_us, pk_un]; done) | (simp (disch := omega) only [setR_at, setR_twice, setL_at, setL_twice, setR_2, setL_1, setR_ne, setL_ne, ne_eq, Nat.reduceEqDiff, not_false_eq_true, pk_us, pk_un, Option.toList_some, Option.toList_none, List.cons_append, List.nil_append]; done) | ((try simp (disch := omega) only [setR_at, setR_twice, setL_at, setL_twice, setR_2, setL_1, setR_ne, setL_ne, ne_eq, Nat.reduceEqDiff, not_false_eq_true, pk_us, pk_un]); refine Prod.ext (funext fun z => ?_) rfl; simp only [setR]; (repeat' split) <;> first | with_reducible rfl | (exfalso; omega)) | rfl) rfl (by first | with_reducible rfl | (simp (disch := omega) only [setR_at, setR_twice, setL_at, setL_twice, setR_2, setL_1, setR_ne, setL_ne, ne_eq, Nat.reduceEqDiff, not_false_eq_true, pk_us, pk_un]; done) | (simp (disch := omega) only [setR_at, setR_twice, setL_at, setL_twice, setR_2, setL_1, setR_ne, setL_ne, ne_eq, Nat.reduceEqDiff, not_false_eq_true, pk_us, pk_un, Option.toList_some, Option.toList_none, List.cons_append, List.nil_append]; done) | ((try simp (disch := omega) only [setR_at, setR_twice, setL_at, setL_twice, setR_2, setL_1, setR_ne, setL_ne, ne_eq, Nat.reduceEqDiff, not_false_eq_true, pk_us, pk_un]); refine Prod.ext (funext fun z => ?_) rfl; simp only [setR]; (repeat' split) <;> first | with_reducible rfl | (exfalso; omega)) | rfl) ?_
      refine aw_sipush (pc := 62) (v := 15000) C dX8_spoon_62 rfl ?_
      refine aw_iload (pc := 65) C 0 dX8_spoon_65 rfl ?_
      refine aw_imulN (pc := 67) C 15000 k rfl rfl dX8_spoon_67 ?_
      refine aw_iadd (pc := 68) C dX8_spoon_68 ?_
      refine aw_top C (spV (σ.1 0) rr k) (by show meanS (upd (bcm (σ.1 2) (σ.1 0) n) (33 + 37 * rr + 2) (nI k)) rr + _ = meanS (upd (σ.1 0) (33 + 37 * rr + 2) (nI k)) rr + _; rw [mean_agr (Agr.bcm.put rfl) hrr]) ?_
      refine aw_istore (pc := 69) C [(5, .int (spV (σ.1 0) rr k)), (4, .int (nI k)), (3, .int (oZ (amin (spV (σ.1 0) rr) k))), (2, .int (lsM (spV (σ.1 0) rr) (amin (spV (σ.1 0) rr) k))), (0, .ref 0), (1, .int (nI rr))] dX8_spoon_69 (Nat.le_of_ble_eq_true rfl) rfl ?_
      rcases hb : amin (spV (σ.1 0) rr) k with _ | b
      · refine aw_lvs C [0, 1, 2, 3, 4, 5] [(5, .int (spV (σ.1 0) rr k)), (4, .int (nI k)), (3, .int 0), (2, .int 2147483647), (0, .ref 0), (1, .int (nI rr))] rfl ?_
        refine aw_iload (pc := 71) C 0 dX8_spoon_71 rfl ?_
        refine aw_iload_n (pc := 73) C 3 dX8_spoon_73 rfl ?_
        refine aw_icmp_ge (pc := 74) C 83 dX8_spoon_74 (by decide) (fun h74 => absurd h74 (Int32.not_le.mpr (spV_bd hok hrr (by omega)))) (fun h74 => ?_)
        refine aw_iload (pc := 77) C 0 dX8_spoon_77 rfl ?_
        refine aw_istore_n (pc := 79) C [(2, .int (spV (σ.1 0) rr k)), (5, .int (spV (σ.1 0) rr k)), (4, .int (nI k)), (3, .int 0), (0, .ref 0), (1, .int (nI rr))] dX8_spoon_79 (Nat.le_of_ble_eq_true rfl) rfl ?_
        refine aw_iload (pc := 80) C 2 dX8_spoon_80 rfl ?_
        refine aw_istore_n (pc := 82) C [(3, .int (nI k)), (2, .int (spV (σ.1 0) rr k)), (5, .int (spV (σ.1 0) rr k)), (4, .int (nI k)), (0, .ref 0), (1, .int (nI rr))] dX8_spoon_82 (Nat.le_of_ble_eq_true rfl) rfl ?_
        refine aw_iincN (pc := 83) C 3 k [(4, .int (nI (k + 1))), (3, .int (nI k)), (2, .int (spV (σ.1 0) rr k)), (5, .int (spV (σ.1 0) rr k)), (0, .ref 0), (1, .int (nI rr))] dX8_spoon_83 rfl rfl rfl (Nat.le_of_ble_eq_true rfl) rfl ?_
        refine aw_goto (pc := 86) C 33 dX8_spoon_86 (by decide) ?_
        refine aw_lvs C [0, 1, 2, 4, 5] [(4, .int (nI (k + 1))), (3, .int (nI k)), (2, .int (spV (σ.1 0) rr k)), (0, .ref 0), (1, .int (nI rr))] rfl ?_
        exact aw_conv (σ' := setR (setR (setR σ 2 (spN (bcm (σ.1 2) (σ.1 0) n) (33 + 37 * rr + 2) (k + 1))) 5 (f59)) 6 (g59)) (lv' := [(4, .int (nI (k + 1))), (3, .int (oZ (amin (spV (σ.1 0) rr) (k + 1)))), (2, .int (lsM (spV (σ.1 0) rr) (amin (spV (σ.1 0) rr) (k + 1)))), (0, .ref 0), (1, .int (nI rr))]) rfl (by rw [amin_none hb]; rfl) rfl (ih33 _ _)
      · have hbk := amin_lt hb
        refine aw_lvs C [0, 1, 2, 3, 4, 5] [(5, .int (spV (σ.1 0) rr k)), (4, .int (nI k)), (3, .int (nI b)), (2, .int (spV (σ.1 0) rr b)), (0, .ref 0), (1, .int (nI rr))] rfl ?_
        refine aw_iload (pc := 71) C 0 dX8_spoon_71 rfl ?_
        refine aw_iload_n (pc := 73) C 3 dX8_spoon_73 rfl ?_
        refine aw_icmp_ge (pc := 74) C 83 dX8_spoon_74 (by decide) (fun h74 => ?_) (fun h74 => ?_)
        · refine aw_iincN (pc := 83) C 1 k [(4, .int (nI (k + 1))), (5, .int (spV (σ.1 0) rr k)), (3, .int (nI b)), (2, .int (spV (σ.1 0) rr b)), (0, .ref 0), (1, .int (nI rr))] dX8_spoon_83 rfl rfl rfl (Nat.le_of_ble_eq_true rfl) rfl ?_
          refine aw_goto (pc := 86) C 33 dX8_spoon_86 (by decide) ?_
          refine aw_lvs C [0, 2, 3, 4, 5] [(4, .int (nI (k + 1))), (3, .int (nI b)), (2, .int (spV (σ.1 0) rr b)), (0, .ref 0), (1, .int (nI rr))] rfl ?_
          exact aw_conv (σ' := setR (setR (setR σ 2 (spN (bcm (σ.1 2) (σ.1 0) n) (33 + 37 * rr + 2) (k + 1))) 5 (f59)) 6 (g59)) (lv' := [(4, .int (nI (k + 1))), (3, .int (oZ (amin (spV (σ.1 0) rr) (k + 1)))), (2, .int (lsM (spV (σ.1 0) rr) (amin (spV (σ.1 0) rr) (k + 1)))), (0, .ref 0), (1, .int (nI rr))]) rfl (by rw [amin_more hb (Int32.not_lt.mpr h74)]; rfl) rfl (ih33 _ _)
        · refine aw_iload (pc := 77) C 0 dX8_spoon_77 rfl ?_
          refine aw_istore_n (pc := 79) C [(2, .int (spV (σ.1 0) rr k)), (5, .int (spV (σ.1 0) rr k)), (4, .int (nI k)), (3, .int (nI b)), (0, .ref 0), (1, .int (nI rr))] dX8_spoon_79 (Nat.le_of_ble_eq_true rfl) rfl ?_
          refine aw_iload (pc := 80) C 2 dX8_spoon_80 rfl ?_
          refine aw_istore_n (pc := 82) C [(3, .int (nI k)), (2, .int (spV (σ.1 0) rr k)), (5, .int (spV (σ.1 0) rr k)), (4, .int (nI k)), (0, .ref 0), (1, .int (nI rr))] dX8_spoon_82 (Nat.le_of_ble_eq_true rfl) rfl ?_
          refine aw_iincN (pc := 83) C 3 k [(4, .int (nI (k + 1))), (3, .int (nI k)), (2, .int (spV (σ.1 0) rr k)), (5, .int (spV (σ.1 0) rr k)), (0, .ref 0), (1, .int (nI rr))] dX8_spoon_83 rfl rfl rfl (Nat.le_of_ble_eq_true rfl) rfl ?_
          refine aw_goto (pc := 86) C 33 dX8_spoon_86 (by decide) ?_
          refine aw_lvs C [0, 1, 2, 4, 5] [(4, .int (nI (k + 1))), (3, .int (nI k)), (2, .int (spV (σ.1 0) rr k)), (0, .ref 0), (1, .int (nI rr))] rfl ?_
          exact aw_conv (σ' := setR (setR (setR σ 2 (spN (bcm (σ.1 2) (σ.1 0) n) (33 + 37 * rr + 2) (k + 1))) 5 (f59)) 6 (g59)) (lv' := [(4, .int (nI (k + 1))), (3, .int (oZ (amin (spV (σ.1 0) rr) (k + 1)))), (2, .int (lsM (spV (σ.1 0) rr) (amin (spV (σ.1 0) rr) (k + 1)))), (0, .ref 0), (1, .int (nI rr))]) rfl (by rw [amin_less hb (Int32.not_le.mp h74)]; rfl) rfl (ih33 _ _)
  · refine aw_aload_n (pc := 8) C 0 dX8_spoon_8 rfl ?_
    refine aw_iconst (pc := 9) (v := 0) C dX8_spoon_9 rfl ?_
    refine aw_cVI (pc := 10) C (c_X8_found _ 0 (by omega)) lk_X8_78 sh0 rfl dX8_spoon_10 (by decide) (Nat.le_of_ble_eq_true rfl) rfl rfl ?_
    exact aw_iretP (pc := 13) C rfl dX8_spoon_13 (pc_of (an' := .inl 0) (by rw [sSpoon, if_neg (fun z => h5 z)]) rfl rfl)
