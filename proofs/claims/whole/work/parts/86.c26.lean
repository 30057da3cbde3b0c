/-! the class: armFor -/
theorem c_X8_armFor (σ : St) (n : Nat) (hok : Ok n (σ.1 0)) (r v : Int32) : AMet Y_X8_armFor [.ref 0, .int r, .int v] σ (PC σ (sArmFor (σ.1 0) n r v)) := by
  refine am_intro (by decide +kernel) (Nat.le_of_ble_eq_true rfl) (fun K C => ?_)
  have hz := hok.1
  have hn := hok.2.1
  have hokt : Ok n (bcm (σ.1 2) (σ.1 0) n) := hok.agr Agr.bcm.sym
  refine aw_aload_n (pc := 0) C 0 dX8_armFor_0 rfl ?_
  refine aw_iload_n (pc := 1) C 1 dX8_armFor_1 rfl ?_
  refine aw_cVI (pc := 2) C (c_X8_isRunner _ n hn hz r ) lk_X8_96 sh0 rfl dX8_armFor_2 (by decide) (Nat.le_of_ble_eq_true rfl) rfl rfl ?_
  refine aw_if_eqB (pc := 5) C 18 dX8_armFor_5 (by decide) (fun h5 => ?_) (fun h5 => ?_)
  · refine aw_aload_n (pc := 18) C 0 dX8_armFor_18 rfl ?_
    refine aw_iconst (pc := 19) (v := 0) C dX8_armFor_19 rfl ?_
    refine aw_cVI (pc := 20) C (c_X8_found _ 0 (by omega)) lk_X8_78 sh0 rfl dX8_armFor_20 (by decide) (Nat.le_of_ble_eq_true rfl) rfl rfl ?_
    exact aw_iretP (pc := 23) C rfl dX8_armFor_23 (pc_of (an' := .inl 0) (by rw [sArmFor, if_neg (fun z => h5 z.1)]) rfl rfl)
  · refine aw_iload_n (pc := 8) C 2 dX8_armFor_8 rfl ?_
    refine aw_iconst (pc := 9) (v := 0) C dX8_armFor_9 rfl ?_
    refine aw_ldc (pc := 10) C dX8_armFor_10 kc_X8_206 ?_
    refine aw_cSI (pc := 12) C (c_X8_within _ v 0 9999999 ) lk_X8_74 dX8_armFor_12 (by decide) (Nat.le_of_ble_eq_true rfl) rfl rfl ?_
    refine aw_if_neB (pc := 15) C 24 dX8_armFor_15 (by decide) (fun h15 => ?_) (fun h15 => ?_)
    · obtain ⟨rr, rfl, hrr⟩ := rgR h5 hz
      refine aw_aload_n (pc := 24) C 0 dX8_armFor_24 rfl ?_
      refine aw_getR (pc := 25) C fl_X8_23 sh0 rfl dX8_armFor_25 ?_
      refine aw_aload_n (pc := 28) C 0 dX8_armFor_28 rfl ?_
      refine aw_getR (pc := 29) C fl_X8_16 sh0 rfl dX8_armFor_29 ?_
      refine aw_cV0 (pc := 32) C (c_X2_become _ 2 (by decide : 2 < 3) 0 (by decide : 0 < 3) (by decide) n hn hz) lk_X8_151 (shM (by decide : 2 < 3)) rfl dX8_armFor_32 (by decide) (Nat.le_of_ble_eq_true rfl) rfl rfl ?_
      refine aw_iconst (pc := 35) (v := 0) C dX8_armFor_35 rfl ?_
      refine aw_istore_n (pc := 36) C [(3, .int 0), (0, .ref 0), (1, .int (nI rr)), (2, .int v)] dX8_armFor_36 (Nat.le_of_ble_eq_true rfl) rfl ?_
      refine aw_lvs C [0, 1, 2, 3] [(3, .int 0), (0, .ref 0), (1, .int (nI rr)), (2, .int v)] rfl ?_
      refine aw_conv (σ' := setR (setR (setR σ 2 (spN (bcm (σ.1 2) (σ.1 0) n) (33 + 37 * rr + 1) 0)) 5 (σ.1 5)) 6 (σ.1 6)) (lv' := [(3, .int (nI 0)), (0, .ref 0), (1, .int (nI rr)), (2, .int v)]) (by show setR σ 2 (bcm (σ.1 2) (σ.1 0) n) = setR (setR (setR σ 2 (bcm (σ.1 2) (σ.1 0) n)) 5 (σ.1 5)) 6 (σ.1 6); exact ((setR_same (setR (setR σ 2 (bcm (σ.1 2) (σ.1 0) n)) 5 (σ.1 5)) 6).trans (setR_same (setR σ 2 (bcm (σ.1 2) (σ.1 0) n)) 5)).symm) rfl rfl ?_
      refine loop_up (P := fun k => ∀ (f g : Fl) (hI : arD (σ.1 0) rr v 10 = arD (σ.1 0) rr v (10 - k)), AW _ K _ (setR (setR (setR σ 2 (spN (bcm (σ.1 2) (σ.1 0) n) (33 + 37 * rr + 1) k)) 5 (f)) 6 (g)) 37 [(3, .int (nI k)), (0, .ref 0), (1, .int (nI rr)), (2, .int v)] []) 10 ?_ ?_ 0 (by omega) (σ.1 5) (σ.1 6) rfl
      · intro f g hI
        refine aw_iload_n (pc := 37) C 0 dX8_armFor_37 rfl ?_
        refine aw_bipush (pc := 38) (v := 9) C dX8_armFor_38 rfl ?_
        refine aw_icmp_gtN (pc := 40) C 10 9 77 rfl rfl (by omega) (by omega) dX8_armFor_40 (by decide) (fun h40 => ?_) (fun h40 => absurd h40 (by omega))
        refine aw_aload_n (pc := 77) C 1 dX8_armFor_77 rfl ?_
        refine aw_iconst (pc := 78) (v := 3) C dX8_armFor_78 rfl ?_
        refine aw_cVI (pc := 79) C (c_X8_found _ 3 (by omega)) lk_X8_78 sh0 rfl dX8_armFor_79 (by decide) (Nat.le_of_ble_eq_true rfl) rfl rfl ?_
        refine aw_conv (σ' := setR (setR (setR (setR σ 2 (spN (bcm (σ.1 2) (σ.1 0) n) (33 + 37 * rr + 1) 10)) 5 (f)) 6 (g)) 3 (upd (σ.1 3) 3 (σ.1 3 3 + 1))) (st' := [.int ((-100000004))]) (by first | with_reducible rfl | (simp (disch := omega) only [setR_at, setR_twice, setL_at, setL_twice, setR_2, setL_1, setR_ne, setL_ne, ne_eq, Nat.reduceEqDiff, not_false_eq_true, pk_us, pk_un]; done) | (simp (disch := omega) only [setR_at, setR_twice, setL_at, setL_twice, setR_2, setL_1, setR_ne, setL_ne, ne_eq, Nat.reduceEqDiff, not_false_eq_true, pk_us, pk_un, Option.toList_some, Option.toList_none, List.cons_append, List.nil_append]; done) | ((try simp (disch := omega) only [setR_at, setR_twice, setL_at, setL_twice, setR_2, setL_1, setR_ne, setL_ne, ne_eq, Nat.reduceEqDiff, not_false_eq_true, pk_us, pk_un]); refine Prod.ext (funext fun z => ?_) rfl; simp only [setR]; (repeat' split) <;> first | with_reducible rfl | (exfalso; omega)) | rfl) rfl (by first | with_reducible rfl | (simp (disch := omega) only [setR_at, setR_twice, setL_at, setL_twice, setR_2, setL_1, setR_ne, setL_ne, ne_eq, Nat.reduceEqDiff, not_false_eq_true, pk_us, pk_un]; done) | (simp (disch := omega) only [setR_at, setR_twice, setL_at, setL_twice, setR_2, setL_1, setR_ne, setL_ne, ne_eq, Nat.reduceEqDiff, not_false_eq_true, pk_us, pk_un, Option.toList_some, Option.toList_none, List.cons_append, List.nil_append]; done) | ((try simp (disch := omega) only [setR_at, setR_twice, setL_at, setL_twice, setR_2, setL_1, setR_ne, setL_ne, ne_eq, Nat.reduceEqDiff, not_false_eq_true, pk_us, pk_un]); refine Prod.ext (funext fun z => ?_) rfl; simp only [setR]; (repeat' split) <;> first | with_reducible rfl | (exfalso; omega)) | rfl) ?_
        exact aw_iretP (pc := 82) C rfl dX8_armFor_82 (pc_scr (an' := .inl 3) (by have hb : arD (σ.1 0) rr v 10 = none := hI; simp only [sArmFor, if_pos (show isR n (nI rr) ∧ (0 ≤ v ∧ v ≤ 9999999) from ⟨h5, h15⟩), cl_nI (show rr < 2147483648 by omega), hb]) rfl (fun r hr => by simp only [anS, setR]; (repeat' split) <;> first | rfl | (subst_vars; first | rfl | exact absurd (by decide) hr)))
      · intro k hk37 ih37 f g hI
        refine aw_iload_n (pc := 37) C 0 dX8_armFor_37 rfl ?_
        refine aw_bipush (pc := 38) (v := 9) C dX8_armFor_38 rfl ?_
        refine aw_icmp_gtN (pc := 40) C k 9 77 rfl rfl (by omega) (by omega) dX8_armFor_40 (by decide) (fun h40 => absurd h40 (by omega)) (fun h40 => ?_)
        refine aw_aload_n (pc := 43) C 1 dX8_armFor_43 rfl ?_
        refine aw_getR (pc := 44) C fl_X8_23 sh0 rfl dX8_armFor_44 ?_
        refine aw_getR (pc := 47) C fl_X8_99 (shM (by decide : 2 < 3)) rfl dX8_armFor_47 ?_
        refine aw_iload_n (pc := 50) C 2 dX8_armFor_50 rfl ?_
        refine aw_aald (pc := 51) (k := rr) C (shRs (by decide : 2 < 3)) dX8_armFor_51 rfl (by omega) ?_
        refine aw_iload_n (pc := 52) C 0 dX8_armFor_52 rfl ?_
        refine aw_pst (pc := 53) C (setR (setR (setR σ 2 (upd (spN (bcm (σ.1 2) (σ.1 0) n) (33 + 37 * rr + 1) k) (33 + 37 * rr + 1) (nI (k)))) 5 (f)) 6 (g)) fp_X8_207 (shR (by decide : 2 < 3) (by omega)) rfl dX8_armFor_53 (by first | with_reducible rfl | (simp (disch := omega) only [setR_at, setR_twice, setL_at, setL_twice, setR_2, setL_1, setR_ne, setL_ne, ne_eq, Nat.reduceEqDiff, not_false_eq_true, pk_us, pk_un]; done) | (simp (disch := omega) only [setR_at, setR_twice, setL_at, setL_twice, setR_2, setL_1, setR_ne, setL_ne, ne_eq, Nat.reduceEqDiff, not_false_eq_true, pk_us, pk_un, Option.toList_some, Option.toList_none, List.cons_append, List.nil_append]; done) | ((try simp (disch := omega) only [setR_at, setR_twice, setL_at, setL_twice, setR_2, setL_1, setR_ne, setL_ne, ne_eq, Nat.reduceEqDiff, not_false_eq_true, pk_us, pk_un]); refine Prod.ext (funext fun z => ?_) rfl; simp only [setR]; (repeat' split) <;> first | with_reducible rfl | (exfalso; omega)) | rfl) ?_
        refine aw_conv (σ' := setR (setR (setR σ 2 (spN (bcm (σ.1 2) (σ.1 0) n) (33 + 37 * rr + 1) (k + 1))) 5 (f)) 6 (g)) (by rw [show upd (spN (bcm (σ.1 2) (σ.1 0) n) (33 + 37 * rr + 1) k) (33 + 37 * rr + 1) (nI k) = spN (bcm (σ.1 2) (σ.1 0) n) (33 + 37 * rr + 1) (k + 1) from spN_upd]) rfl rfl ?_
        have hoks : Ok n (spN (bcm (σ.1 2) (σ.1 0) n) (33 + 37 * rr + 1) (k + 1)) := hokt.arm hrr (by omega)
        refine aw_aload_n (pc := 56) C 1 dX8_armFor_56 rfl ?_
        refine aw_aload_n (pc := 57) C 1 dX8_armFor_57 rfl ?_
        refine aw_getR (pc := 58) C fl_X8_23 sh0 rfl dX8_armFor_58 ?_
        refine aw_iload_n (pc := 61) C 2 dX8_armFor_61 rfl ?_
        refine aw_callV (pc := 62) C (c_X8_wholeMean _ 2 (by decide : 2 < 3) n (by simp (disch := omega) only [setR_at, setR_twice, setL_at, setL_twice, setR_2, setL_1, setR_ne, setL_ne, ne_eq, Nat.reduceEqDiff, not_false_eq_true, pk_us, pk_un]; exact hoks) rr (by omega)) lk_X8_199 sh0 rfl (by decide) rfl (Nat.le_of_ble_eq_true rfl) dX8_armFor_62 rfl (fun w s hq => ?_)
        obtain ⟨f62, g62, rfl, rfl⟩ := hq
        refine aw_conv (σ' := setR (setR (setR σ 2 (spN (bcm (σ.1 2) (σ.1 0) n) (33 + 37 * rr + 1) (k + 1))) 5 (f62)) 6 (g62)) (st' := [.int (meanS (spN (bcm (σ.1 2) (σ.1 0) n) (33 + 37 * rr + 1) (k + 1)) rr)]) (by first | with_reducible rfl | (simp (disch := omega) only [setR_at, setR_twice, setL_at, setL_twice, setR_2, setL_1, setR_ne, setL_ne, ne_eq, Nat.reduceEqDiff, not_false_eq_true, pk_us, pk_un]; done) | (simp (disch := omega) only [setR_at, setR_twice, setL_at, setL_twice, setR_2, setL_1, setR_ne, setL_ne, ne_eq, Nat.reduceEqDiff, not_false_eq_true, pk_us, pk_un, Option.toList_some, Option.toList_none, List.cons_append, List.nil_append]; done) | ((try simp (disch := omega) only [setR_at, setR_twice, setL_at, setL_twice, setR_2, setL_1, setR_ne, setL_ne, ne_eq, Nat.reduceEqDiff, not_false_eq_true, pk_us, pk_un]); refine Prod.ext (funext fun z => ?_) rfl; simp only [setR]; (repeat' split) <;> first | with_reducible rfl | (exfalso; omega)) | rfl) rfl (by first | with_reducible rfl | (simp (disch := omega) only [setR_at, setR_twice, setL_at, setL_twice, setR_2, setL_1, setR_ne, setL_ne, ne_eq, Nat.reduceEqDiff, not_false_eq_true, pk_us, pk_un]; done) | (simp (disch := omega) only [setR_at, setR_twice, setL_at, setL_twice, setR_2, setL_1, setR_ne, setL_ne, ne_eq, Nat.reduceEqDiff, not_false_eq_true, pk_us, pk_un, Option.toList_some, Option.toList_none, List.cons_append, List.nil_append]; done) | ((try simp (disch := omega) only [setR_at, setR_twice, setL_at, setL_twice, setR_2, setL_1, setR_ne, setL_ne, ne_eq, Nat.reduceEqDiff, not_false_eq_true, pk_us, pk_un]); refine Prod.ext (funext fun z => ?_) rfl; simp only [setR]; (repeat' split) <;> first | with_reducible rfl | (exfalso; omega)) | rfl) ?_
        refine aw_top C (meanS (upd (σ.1 0) (33 + 37 * rr + 1) (nI k)) rr) (by show meanS (upd (bcm (σ.1 2) (σ.1 0) n) (33 + 37 * rr + 1) (nI k)) rr = meanS (upd (σ.1 0) (33 + 37 * rr + 1) (nI k)) rr; rw [mean_agr (Agr.bcm.put rfl) hrr]) ?_
        refine aw_iload_n (pc := 65) C 3 dX8_armFor_65 rfl ?_
        refine aw_icmp_gt (pc := 66) C 71 dX8_armFor_66 (by decide) (fun h66 => ?_) (fun h66 => ?_)
        · refine aw_iincN (pc := 71) C 0 k [(3, .int (nI (k + 1))), (0, .ref 0), (1, .int (nI rr)), (2, .int v)] dX8_armFor_71 rfl rfl rfl (Nat.le_of_ble_eq_true rfl) rfl ?_
          refine aw_goto (pc := 74) C 37 dX8_armFor_74 (by decide) ?_
          refine aw_lvs C [0, 1, 2, 3] [(3, .int (nI (k + 1))), (0, .ref 0), (1, .int (nI rr)), (2, .int v)] rfl ?_
          exact aw_conv (σ' := setR (setR (setR σ 2 (spN (bcm (σ.1 2) (σ.1 0) n) (33 + 37 * rr + 1) (k + 1))) 5 (f62)) 6 (g62)) (lv' := [(3, .int (nI (k + 1))), (0, .ref 0), (1, .int (nI rr)), (2, .int v)]) rfl rfl rfl (ih37 _ _ (hI.trans (by rw [arD_step (m := k) (by omega), if_pos h66])))
        · refine aw_iload_n (pc := 69) C 0 dX8_armFor_69 rfl ?_
          exact aw_iretP (pc := 70) C rfl dX8_armFor_70 (pc_scr (an' := .inr (nI k, σ.1 0)) (by have hb : arD (σ.1 0) rr v 10 = some k := hI.trans (by rw [arD_step (m := k) (by omega), if_neg h66]); simp only [sArmFor, if_pos (show isR n (nI rr) ∧ (0 ≤ v ∧ v ≤ 9999999) from ⟨h5, h15⟩), cl_nI (show rr < 2147483648 by omega), hb]) rfl (fun r hr => by simp only [anS, setR]; (repeat' split) <;> first | rfl | (subst_vars; first | rfl | exact absurd (by decide) hr)))
    · refine aw_aload_n (pc := 18) C 0 dX8_armFor_18 rfl ?_
      refine aw_iconst (pc := 19) (v := 0) C dX8_armFor_19 rfl ?_
      refine aw_cVI (pc := 20) C (c_X8_found _ 0 (by omega)) lk_X8_78 sh0 rfl dX8_armFor_20 (by decide) (Nat.le_of_ble_eq_true rfl) rfl rfl ?_
      exact aw_iretP (pc := 23) C rfl dX8_armFor_23 (pc_of (an' := .inl 0) (by rw [sArmFor, if_neg (fun z => h15 z.2)]) rfl rfl)
