/-! the reference: what would be better -/
theorem c_X9_later (σ : St) (n : Nat) (hn : σ.1 20 2 = nI n) (hz : n ≤ 6) (r : Int32) : AMet Y_X9_later [.ref 73, .int r] σ (PM σ (sLater (σ.1 20) n r)) := by
  refine am_intro (by decide +kernel) (Nat.le_of_ble_eq_true rfl) (fun K C => ?_)
  refine aw_aload_n (pc := 0) C 0 dX9_later_0 rfl ?_
  refine aw_iload_n (pc := 1) C 1 dX9_later_1 rfl ?_
  refine aw_cVI (pc := 2) C (c_X9_isRunner _ n hn hz r ) lk_X9_91 sh73 rfl dX9_later_2 (by decide) (Nat.le_of_ble_eq_true rfl) rfl rfl ?_
  refine aw_if_neB (pc := 5) C 15 dX9_later_5 (by decide) (fun h5 => ?_) (fun h5 => ?_)
  · obtain ⟨rr, rfl, hrr⟩ := rgR h5 hz
    refine aw_iconst (pc := 15) (v := 0) C dX9_later_15 rfl ?_
    refine aw_istore_n (pc := 16) C [(2, .int 0), (0, .ref 73), (1, .int (nI rr))] dX9_later_16 (Nat.le_of_ble_eq_true rfl) rfl ?_
    refine aw_iconst (pc := 17) (v := 0) C dX9_later_17 rfl ?_
    refine aw_istore_n (pc := 18) C [(3, .int 0), (2, .int 0), (0, .ref 73), (1, .int (nI rr))] dX9_later_18 (Nat.le_of_ble_eq_true rfl) rfl ?_
    refine aw_lvs C [0, 1, 2, 3] [(3, .int 0), (2, .int 0), (0, .ref 73), (1, .int (nI rr))] rfl ?_
    refine aw_conv (σ' := setR (setR σ 25 (σ.1 25)) 26 (σ.1 26)) (lv' := [(3, .int (nI 0)), (2, .int (latS (σ.1 20) 0)), (0, .ref 73), (1, .int (nI rr))]) (by rw [setR_same, setR_same]) rfl rfl ?_
    refine loop_up (P := fun k => ∀ (f g : Fl), AW _ K _ (setR (setR σ 25 (f)) 26 (g)) 19 [(3, .int (nI k)), (2, .int (latS (σ.1 20) k)), (0, .ref 73), (1, .int (nI rr))] []) n ?_ ?_ 0 (by omega) (σ.1 25) (σ.1 26)
    · intro f g
      refine aw_iload_n (pc := 19) C 0 dX9_later_19 rfl ?_
      refine aw_aload_n (pc := 20) C 2 dX9_later_20 rfl ?_
      refine aw_getR (pc := 21) C fl_X9_9 sh73 rfl dX9_later_21 ?_
      refine aw_iconst (pc := 24) (v := 2) C dX9_later_24 rfl ?_
      refine aw_ild (pc := 25) (k := 2) C (2) (σ.1 20 2) sh74 dX9_later_25 rfl (by omega) rfl (by first | rfl | (simp (disch := omega) only [setR_at, setR_twice, setL_at, setL_twice, setR_2, setL_1, setR_ne, setL_ne, ne_eq, Nat.reduceEqDiff, not_false_eq_true, pk_us, pk_un]; done) | ((try simp (disch := omega) only [setR_at, setR_twice, setL_at, setL_twice, setR_2, setL_1, setR_ne, setL_ne, ne_eq, Nat.reduceEqDiff, not_false_eq_true, pk_us, pk_un]); refine Prod.ext (funext fun z => ?_) rfl; simp only [setR]; (repeat' split) <;> first | rfl | (exfalso; omega))) ?_
      refine aw_top C (nI (n)) hn ?_
      refine aw_icmp_geN (pc := 26) C n n 55 rfl rfl (by omega) (by omega) dX9_later_26 (by decide) (fun h26 => ?_) (fun h26 => absurd h26 (by omega))
      refine aw_iload_n (pc := 55) C 1 dX9_later_55 rfl ?_
      refine aw_aload_n (pc := 56) C 2 dX9_later_56 rfl ?_
      refine aw_iload_n (pc := 57) C 3 dX9_later_57 rfl ?_
      refine aw_callV (pc := 58) C (c_X9_meanOf _ rr (by omega)) lk_X9_203 sh73 rfl (by decide) rfl (Nat.le_of_ble_eq_true rfl) dX9_later_58 rfl (fun w s hq => ?_)
      obtain ⟨f58, g58, rfl, rfl⟩ := hq
      refine aw_conv (σ' := setR (setR σ 25 (f58)) 26 (g58)) (st' := [.int (meanS (σ.1 20) rr), .int (latS (σ.1 20) n)]) (by first | rfl | (simp (disch := omega) only [setR_at, setR_twice, setL_at, setL_twice, setR_2, setL_1, setR_ne, setL_ne, ne_eq, Nat.reduceEqDiff, not_false_eq_true, pk_us, pk_un]; done) | ((try simp (disch := omega) only [setR_at, setR_twice, setL_at, setL_twice, setR_2, setL_1, setR_ne, setL_ne, ne_eq, Nat.reduceEqDiff, not_false_eq_true, pk_us, pk_un]); refine Prod.ext (funext fun z => ?_) rfl; simp only [setR]; (repeat' split) <;> first | rfl | (exfalso; omega))) rfl (by first | rfl | (simp (disch := omega) only [setR_at, setR_twice, setL_at, setL_twice, setR_2, setL_1, setR_ne, setL_ne, ne_eq, Nat.reduceEqDiff, not_false_eq_true, pk_us, pk_un]; done) | ((try simp (disch := omega) only [setR_at, setR_twice, setL_at, setL_twice, setR_2, setL_1, setR_ne, setL_ne, ne_eq, Nat.reduceEqDiff, not_false_eq_true, pk_us, pk_un]); refine Prod.ext (funext fun z => ?_) rfl; simp only [setR]; (repeat' split) <;> first | rfl | (exfalso; omega))) ?_
      refine aw_isub (pc := 61) C dX9_later_61 ?_
      refine aw_sipush (pc := 62) (v := 1000) C dX9_later_62 rfl ?_
      refine aw_idiv (pc := 65) C dX9_later_65 (by decide) ?_
      exact aw_iretP (pc := 66) C rfl dX9_later_66 (pm_scr (an' := .inr (((latS (σ.1 20) n) - (meanS (σ.1 20) rr)) / 1000, σ.1 20)) (by rw [sLater, if_pos h5, cl_nI (show rr < 2147483648 by omega)]) rfl (fun r hr => by simp only [anS, setR]; (repeat' split) <;> first | rfl | (subst_vars; first | rfl | exact absurd (by decide) hr)) rfl)
    · intro k hk19 ih19 f g
      refine aw_iload_n (pc := 19) C 0 dX9_later_19 rfl ?_
      refine aw_aload_n (pc := 20) C 2 dX9_later_20 rfl ?_
      refine aw_getR (pc := 21) C fl_X9_9 sh73 rfl dX9_later_21 ?_
      refine aw_iconst (pc := 24) (v := 2) C dX9_later_24 rfl ?_
      refine aw_ild (pc := 25) (k := 2) C (2) (σ.1 20 2) sh74 dX9_later_25 rfl (by omega) rfl (by first | rfl | (simp (disch := omega) only [setR_at, setR_twice, setL_at, setL_twice, setR_2, setL_1, setR_ne, setL_ne, ne_eq, Nat.reduceEqDiff, not_false_eq_true, pk_us, pk_un]; done) | ((try simp (disch := omega) only [setR_at, setR_twice, setL_at, setL_twice, setR_2, setL_1, setR_ne, setL_ne, ne_eq, Nat.reduceEqDiff, not_false_eq_true, pk_us, pk_un]); refine Prod.ext (funext fun z => ?_) rfl; simp only [setR]; (repeat' split) <;> first | rfl | (exfalso; omega))) ?_
      refine aw_top C (nI (n)) hn ?_
      refine aw_icmp_geN (pc := 26) C k n 55 rfl rfl (by omega) (by omega) dX9_later_26 (by decide) (fun h26 => absurd h26 (by omega)) (fun h26 => ?_)
      refine aw_aload_n (pc := 29) C 2 dX9_later_29 rfl ?_
      refine aw_iload_n (pc := 30) C 0 dX9_later_30 rfl ?_
      refine aw_callV (pc := 31) C (c_X9_meanOf _ k (by omega)) lk_X9_203 sh73 rfl (by decide) rfl (Nat.le_of_ble_eq_true rfl) dX9_later_31 rfl (fun w s hq => ?_)
      obtain ⟨f31, g31, rfl, rfl⟩ := hq
      refine aw_conv (σ' := setR (setR σ 25 (f31)) 26 (g31)) (st' := [.int (meanS (σ.1 20) k)]) (by first | rfl | (simp (disch := omega) only [setR_at, setR_twice, setL_at, setL_twice, setR_2, setL_1, setR_ne, setL_ne, ne_eq, Nat.reduceEqDiff, not_false_eq_true, pk_us, pk_un]; done) | ((try simp (disch := omega) only [setR_at, setR_twice, setL_at, setL_twice, setR_2, setL_1, setR_ne, setL_ne, ne_eq, Nat.reduceEqDiff, not_false_eq_true, pk_us, pk_un]); refine Prod.ext (funext fun z => ?_) rfl; simp only [setR]; (repeat' split) <;> first | rfl | (exfalso; omega))) rfl (by first | rfl | (simp (disch := omega) only [setR_at, setR_twice, setL_at, setL_twice, setR_2, setL_1, setR_ne, setL_ne, ne_eq, Nat.reduceEqDiff, not_false_eq_true, pk_us, pk_un]; done) | ((try simp (disch := omega) only [setR_at, setR_twice, setL_at, setL_twice, setR_2, setL_1, setR_ne, setL_ne, ne_eq, Nat.reduceEqDiff, not_false_eq_true, pk_us, pk_un]); refine Prod.ext (funext fun z => ?_) rfl; simp only [setR]; (repeat' split) <;> first | rfl | (exfalso; omega))) ?_
      refine aw_istore (pc := 34) C [(4, .int (meanS (σ.1 20) k)), (3, .int (nI k)), (2, .int (latS (σ.1 20) k)), (0, .ref 73), (1, .int (nI rr))] dX9_later_34 (Nat.le_of_ble_eq_true rfl) rfl ?_
      refine aw_iload (pc := 36) C 0 dX9_later_36 rfl ?_
      refine aw_iload_n (pc := 38) C 2 dX9_later_38 rfl ?_
      refine aw_icmp_le (pc := 39) C 47 dX9_later_39 (by decide) (fun h39 => ?_) (fun h39 => ?_)
      · refine aw_iload_n (pc := 47) C 2 dX9_later_47 rfl ?_
        refine aw_istore_n (pc := 48) C [(2, .int (latS (σ.1 20) k)), (4, .int (meanS (σ.1 20) k)), (3, .int (nI k)), (0, .ref 73), (1, .int (nI rr))] dX9_later_48 (Nat.le_of_ble_eq_true rfl) rfl ?_
        refine aw_iincN (pc := 49) C 2 k [(3, .int (nI (k + 1))), (2, .int (latS (σ.1 20) k)), (4, .int (meanS (σ.1 20) k)), (0, .ref 73), (1, .int (nI rr))] dX9_later_49 rfl rfl rfl (Nat.le_of_ble_eq_true rfl) rfl ?_
        refine aw_goto (pc := 52) C 19 dX9_later_52 (by decide) ?_
        refine aw_lvs C [0, 1, 3, 4] [(3, .int (nI (k + 1))), (2, .int (latS (σ.1 20) k)), (0, .ref 73), (1, .int (nI rr))] rfl ?_
        exact aw_conv (σ' := setR (setR σ 25 (f31)) 26 (g31)) (lv' := [(3, .int (nI (k + 1))), (2, .int (latS (σ.1 20) (k + 1))), (0, .ref 73), (1, .int (nI rr))]) rfl (by rw [latS, if_neg (Int32.not_lt.mpr h39)]) rfl (ih19 _ _)
      · refine aw_iload (pc := 42) C 0 dX9_later_42 rfl ?_
        refine aw_goto (pc := 44) C 48 dX9_later_44 (by decide) ?_
        refine aw_istore_n (pc := 48) C [(2, .int (meanS (σ.1 20) k)), (4, .int (meanS (σ.1 20) k)), (3, .int (nI k)), (0, .ref 73), (1, .int (nI rr))] dX9_later_48 (Nat.le_of_ble_eq_true rfl) rfl ?_
        refine aw_iincN (pc := 49) C 2 k [(3, .int (nI (k + 1))), (2, .int (meanS (σ.1 20) k)), (4, .int (meanS (σ.1 20) k)), (0, .ref 73), (1, .int (nI rr))] dX9_later_49 rfl rfl rfl (Nat.le_of_ble_eq_true rfl) rfl ?_
        refine aw_goto (pc := 52) C 19 dX9_later_52 (by decide) ?_
        refine aw_lvs C [0, 1, 3, 4] [(3, .int (nI (k + 1))), (2, .int (meanS (σ.1 20) k)), (0, .ref 73), (1, .int (nI rr))] rfl ?_
        exact aw_conv (σ' := setR (setR σ 25 (f31)) 26 (g31)) (lv' := [(3, .int (nI (k + 1))), (2, .int (latS (σ.1 20) (k + 1))), (0, .ref 73), (1, .int (nI rr))]) rfl (by rw [latS, if_pos (Int32.not_le.mp h39)]) rfl (ih19 _ _)
  · refine aw_aload_n (pc := 8) C 0 dX9_later_8 rfl ?_
    refine aw_ldc (pc := 9) C dX9_later_9 kc_X9_46 ?_
    refine aw_cVI (pc := 11) C (c_X9_finds _ (-100000001) 0 (by decide) (by decide)) lk_X9_48 sh73 rfl dX9_later_11 (by decide) (Nat.le_of_ble_eq_true rfl) rfl rfl ?_
    exact aw_iretP (pc := 14) C rfl dX9_later_14 (pm_of (an' := .inl 0) (by rw [sLater, if_neg (fun z => h5 (z))]) rfl rfl)
theorem c_X9_worst (σ : St) (n : Nat) (hn : σ.1 20 2 = nI n) (hz : n ≤ 6) (r : Int32) : AMet Y_X9_worst [.ref 73, .int r] σ (PM σ (sWorst (σ.1 20) n r)) := by
  refine am_intro (by decide +kernel) (Nat.le_of_ble_eq_true rfl) (fun K C => ?_)
  refine aw_aload_n (pc := 0) C 0 dX9_worst_0 rfl ?_
  refine aw_iload_n (pc := 1) C 1 dX9_worst_1 rfl ?_
  refine aw_cVI (pc := 2) C (c_X9_isRunner _ n hn hz r ) lk_X9_91 sh73 rfl dX9_worst_2 (by decide) (Nat.le_of_ble_eq_true rfl) rfl rfl ?_
  refine aw_if_neB (pc := 5) C 15 dX9_worst_5 (by decide) (fun h5 => ?_) (fun h5 => ?_)
  · obtain ⟨rr, rfl, hrr⟩ := rgR h5 hz
    refine aw_iconst (pc := 15) (v := (-1)) C dX9_worst_15 rfl ?_
    refine aw_istore_n (pc := 16) C [(2, .int ((-1))), (0, .ref 73), (1, .int (nI rr))] dX9_worst_16 (Nat.le_of_ble_eq_true rfl) rfl ?_
    refine aw_iconst (pc := 17) (v := 0) C dX9_worst_17 rfl ?_
    refine aw_istore_n (pc := 18) C [(3, .int 0), (2, .int ((-1))), (0, .ref 73), (1, .int (nI rr))] dX9_worst_18 (Nat.le_of_ble_eq_true rfl) rfl ?_
    refine aw_iconst (pc := 19) (v := 0) C dX9_worst_19 rfl ?_
    refine aw_istore (pc := 20) C [(4, .int 0), (3, .int 0), (2, .int ((-1))), (0, .ref 73), (1, .int (nI rr))] dX9_worst_20 (Nat.le_of_ble_eq_true rfl) rfl ?_
    refine aw_lvs C [0, 1, 2, 3, 4] [(4, .int 0), (3, .int 0), (2, .int ((-1))), (0, .ref 73), (1, .int (nI rr))] rfl ?_
    refine aw_conv (σ' := setR (setR σ 25 (σ.1 25)) 26 (σ.1 26)) (lv' := [(4, .int (nI 0)), (3, .int (lsv (wrV (σ.1 20) rr) (amin (wrV (σ.1 20) rr) 0))), (2, .int (oI (amin (wrV (σ.1 20) rr) 0))), (0, .ref 73), (1, .int (nI rr))]) (by rw [setR_same, setR_same]) rfl rfl ?_
    refine loop_up (P := fun k => ∀ (f g : Fl), AW _ K _ (setR (setR σ 25 (f)) 26 (g)) 22 [(4, .int (nI k)), (3, .int (lsv (wrV (σ.1 20) rr) (amin (wrV (σ.1 20) rr) k))), (2, .int (oI (amin (wrV (σ.1 20) rr) k))), (0, .ref 73), (1, .int (nI rr))] []) 30 ?_ ?_ 0 (by omega) (σ.1 25) (σ.1 26)
    · intro f g
      refine aw_iload (pc := 22) C 0 dX9_worst_22 rfl ?_
      refine aw_bipush (pc := 24) (v := 30) C dX9_worst_24 rfl ?_
      refine aw_icmp_geN (pc := 26) C 30 30 83 rfl rfl (by omega) (by omega) dX9_worst_26 (by decide) (fun h26 => ?_) (fun h26 => absurd h26 (by omega))
      refine aw_iload_n (pc := 83) C 2 dX9_worst_83 rfl ?_
      exact aw_iretP (pc := 84) C rfl dX9_worst_84 (pm_scr (an' := .inr (oI (amin (wrV (σ.1 20) rr) 30), σ.1 20)) (by rw [sWorst, if_pos h5, cl_nI (show rr < 2147483648 by omega)]) rfl (fun r hr => by simp only [anS, setR]; (repeat' split) <;> first | rfl | (subst_vars; first | rfl | exact absurd (by decide) hr)) rfl)
    · intro k hk22 ih22 f g
      refine aw_iload (pc := 22) C 0 dX9_worst_22 rfl ?_
      refine aw_bipush (pc := 24) (v := 30) C dX9_worst_24 rfl ?_
      refine aw_icmp_geN (pc := 26) C k 30 83 rfl rfl (by omega) (by omega) dX9_worst_26 (by decide) (fun h26 => absurd h26 (by omega)) (fun h26 => ?_)
      refine aw_aload_n (pc := 29) C 3 dX9_worst_29 rfl ?_
      refine aw_iconst (pc := 30) (v := 3) C dX9_worst_30 rfl ?_
      refine aw_iload (pc := 31) C 0 dX9_worst_31 rfl ?_
      refine aw_iaddN (pc := 33) C 3 k rfl rfl dX9_worst_33 ?_
      refine aw_iconst (pc := 34) (v := 0) C dX9_worst_34 rfl ?_
      refine aw_cVI (pc := 35) C (c_X9_becomes _ (3 + k) 0 (by omega)) lk_X9_72 sh73 rfl dX9_worst_35 (by decide) (Nat.le_of_ble_eq_true rfl) rfl rfl ?_
      refine aw_conv (σ' := setR (setR (setR σ 25 (f)) 26 (g)) 20 (upd (σ.1 20) (3 + k) (0))) (st' := [.int (σ.1 20 (3 + k))]) (by first | rfl | (simp (disch := omega) only [setR_at, setR_twice, setL_at, setL_twice, setR_2, setL_1, setR_ne, setL_ne, ne_eq, Nat.reduceEqDiff, not_false_eq_true, pk_us, pk_un]; done) | ((try simp (disch := omega) only [setR_at, setR_twice, setL_at, setL_twice, setR_2, setL_1, setR_ne, setL_ne, ne_eq, Nat.reduceEqDiff, not_false_eq_true, pk_us, pk_un]); refine Prod.ext (funext fun z => ?_) rfl; simp only [setR]; (repeat' split) <;> first | rfl | (exfalso; omega))) rfl (by first | rfl | (simp (disch := omega) only [setR_at, setR_twice, setL_at, setL_twice, setR_2, setL_1, setR_ne, setL_ne, ne_eq, Nat.reduceEqDiff, not_false_eq_true, pk_us, pk_un]; done) | ((try simp (disch := omega) only [setR_at, setR_twice, setL_at, setL_twice, setR_2, setL_1, setR_ne, setL_ne, ne_eq, Nat.reduceEqDiff, not_false_eq_true, pk_us, pk_un]); refine Prod.ext (funext fun z => ?_) rfl; simp only [setR]; (repeat' split) <;> first | rfl | (exfalso; omega))) ?_
      refine aw_istore (pc := 38) C [(5, .int (σ.1 20 (3 + k))), (4, .int (nI k)), (3, .int (lsv (wrV (σ.1 20) rr) (amin (wrV (σ.1 20) rr) k))), (2, .int (oI (amin (wrV (σ.1 20) rr) k))), (0, .ref 73), (1, .int (nI rr))] dX9_worst_38 (Nat.le_of_ble_eq_true rfl) rfl ?_
      refine aw_aload_n (pc := 40) C 4 dX9_worst_40 rfl ?_
      refine aw_iload_n (pc := 41) C 5 dX9_worst_41 rfl ?_
      refine aw_callV (pc := 42) C (c_X9_meanOf _ rr (by omega)) lk_X9_203 sh73 rfl (by decide) rfl (Nat.le_of_ble_eq_true rfl) dX9_worst_42 rfl (fun w s hq => ?_)
      obtain ⟨f42, g42, rfl, rfl⟩ := hq
      refine aw_conv (σ' := setR (setR (setR σ 25 (f42)) 26 (g42)) 20 (upd (σ.1 20) (3 + k) (0))) (st' := [.int (meanS (upd (σ.1 20) (3 + k) (0)) rr)]) (by first | rfl | (simp (disch := omega) only [setR_at, setR_twice, setL_at, setL_twice, setR_2, setL_1, setR_ne, setL_ne, ne_eq, Nat.reduceEqDiff, not_false_eq_true, pk_us, pk_un]; done) | ((try simp (disch := omega) only [setR_at, setR_twice, setL_at, setL_twice, setR_2, setL_1, setR_ne, setL_ne, ne_eq, Nat.reduceEqDiff, not_false_eq_true, pk_us, pk_un]); refine Prod.ext (funext fun z => ?_) rfl; simp only [setR]; (repeat' split) <;> first | rfl | (exfalso; omega))) rfl (by first | rfl | (simp (disch := omega) only [setR_at, setR_twice, setL_at, setL_twice, setR_2, setL_1, setR_ne, setL_ne, ne_eq, Nat.reduceEqDiff, not_false_eq_true, pk_us, pk_un]; done) | ((try simp (disch := omega) only [setR_at, setR_twice, setL_at, setL_twice, setR_2, setL_1, setR_ne, setL_ne, ne_eq, Nat.reduceEqDiff, not_false_eq_true, pk_us, pk_un]); refine Prod.ext (funext fun z => ?_) rfl; simp only [setR]; (repeat' split) <;> first | rfl | (exfalso; omega))) ?_
      refine aw_istore (pc := 45) C [(6, .int (meanS (upd (σ.1 20) (3 + k) (0)) rr)), (5, .int (σ.1 20 (3 + k))), (4, .int (nI k)), (3, .int (lsv (wrV (σ.1 20) rr) (amin (wrV (σ.1 20) rr) k))), (2, .int (oI (amin (wrV (σ.1 20) rr) k))), (0, .ref 73), (1, .int (nI rr))] dX9_worst_45 (Nat.le_of_ble_eq_true rfl) rfl ?_
      refine aw_aload_n (pc := 47) C 5 dX9_worst_47 rfl ?_
      refine aw_getR (pc := 48) C fl_X9_9 sh73 rfl dX9_worst_48 ?_
      refine aw_iconst (pc := 51) (v := 3) C dX9_worst_51 rfl ?_
      refine aw_iload (pc := 52) C 2 dX9_worst_52 rfl ?_
      refine aw_iaddN (pc := 54) C 3 k rfl rfl dX9_worst_54 ?_
      refine aw_iload (pc := 55) C 1 dX9_worst_55 rfl ?_
      refine aw_ist (pc := 57) (k := 3 + k) C (3 + k) (setR (setR (setR σ 25 (f42)) 26 (g42)) 20 (upd (upd (σ.1 20) (3 + k) (0)) (3 + k) (σ.1 20 (3 + k)))) sh74 dX9_worst_57 rfl (by omega) rfl (by first | rfl | (simp (disch := omega) only [setR_at, setR_twice, setL_at, setL_twice, setR_2, setL_1, setR_ne, setL_ne, ne_eq, Nat.reduceEqDiff, not_false_eq_true, pk_us, pk_un]; done) | ((try simp (disch := omega) only [setR_at, setR_twice, setL_at, setL_twice, setR_2, setL_1, setR_ne, setL_ne, ne_eq, Nat.reduceEqDiff, not_false_eq_true, pk_us, pk_un]); refine Prod.ext (funext fun z => ?_) rfl; simp only [setR]; (repeat' split) <;> first | rfl | (exfalso; omega))) ?_
      refine aw_conv (σ' := setR (setR σ 25 (f42)) 26 (g42)) (by rw [upd_back]; exact setR_same (setR (setR σ 25 (f42)) 26 (g42)) 20) rfl rfl ?_
      rcases hb : amin (wrV (σ.1 20) rr) k with _ | b
      · refine aw_lvs C [0, 1, 2, 3, 4, 5, 6] [(6, .int (meanS (upd (σ.1 20) (3 + k) (0)) rr)), (5, .int (σ.1 20 (3 + k))), (4, .int (nI k)), (3, .int 0), (2, .int ((-1))), (0, .ref 73), (1, .int (nI rr))] rfl ?_
        refine aw_iload_n (pc := 58) C 4 dX9_worst_58 rfl ?_
        refine aw_if_lt (pc := 59) C 71 dX9_worst_59 (by decide) (fun h59 => ?_) (fun h59 => absurd h59 (by decide))
        refine aw_iload (pc := 71) C 2 dX9_worst_71 rfl ?_
        refine aw_istore_n (pc := 73) C [(2, .int (nI k)), (6, .int (meanS (upd (σ.1 20) (3 + k) (0)) rr)), (5, .int (σ.1 20 (3 + k))), (4, .int (nI k)), (3, .int 0), (0, .ref 73), (1, .int (nI rr))] dX9_worst_73 (Nat.le_of_ble_eq_true rfl) rfl ?_
        refine aw_iload (pc := 74) C 1 dX9_worst_74 rfl ?_
        refine aw_istore_n (pc := 76) C [(3, .int (meanS (upd (σ.1 20) (3 + k) (0)) rr)), (2, .int (nI k)), (6, .int (meanS (upd (σ.1 20) (3 + k) (0)) rr)), (5, .int (σ.1 20 (3 + k))), (4, .int (nI k)), (0, .ref 73), (1, .int (nI rr))] dX9_worst_76 (Nat.le_of_ble_eq_true rfl) rfl ?_
        refine aw_iincN (pc := 77) C 4 k [(4, .int (nI (k + 1))), (3, .int (meanS (upd (σ.1 20) (3 + k) (0)) rr)), (2, .int (nI k)), (6, .int (meanS (upd (σ.1 20) (3 + k) (0)) rr)), (5, .int (σ.1 20 (3 + k))), (0, .ref 73), (1, .int (nI rr))] dX9_worst_77 rfl rfl rfl (Nat.le_of_ble_eq_true rfl) rfl ?_
        refine aw_goto (pc := 80) C 22 dX9_worst_80 (by decide) ?_
        refine aw_lvs C [0, 1, 2, 5, 6] [(4, .int (nI (k + 1))), (3, .int (meanS (upd (σ.1 20) (3 + k) (0)) rr)), (2, .int (nI k)), (0, .ref 73), (1, .int (nI rr))] rfl ?_
        exact aw_conv (σ' := setR (setR σ 25 (f42)) 26 (g42)) (lv' := [(4, .int (nI (k + 1))), (3, .int (lsv (wrV (σ.1 20) rr) (amin (wrV (σ.1 20) rr) (k + 1)))), (2, .int (oI (amin (wrV (σ.1 20) rr) (k + 1)))), (0, .ref 73), (1, .int (nI rr))]) rfl (by rw [amin_none hb]; rfl) rfl (ih22 _ _)
      · have hbk := amin_lt hb
        refine aw_lvs C [0, 1, 2, 3, 4, 5, 6] [(6, .int (meanS (upd (σ.1 20) (3 + k) (0)) rr)), (5, .int (σ.1 20 (3 + k))), (4, .int (nI k)), (3, .int (wrV (σ.1 20) rr b)), (2, .int (nI b)), (0, .ref 73), (1, .int (nI rr))] rfl ?_
        refine aw_iload_n (pc := 58) C 4 dX9_worst_58 rfl ?_
        refine aw_if_lt (pc := 59) C 71 dX9_worst_59 (by decide) (fun h59 => absurd h59 (nI_pos (by omega))) (fun h59 => ?_)
        refine aw_iload (pc := 62) C 0 dX9_worst_62 rfl ?_
        refine aw_iload_n (pc := 64) C 3 dX9_worst_64 rfl ?_
        refine aw_icmp_lt (pc := 65) C 71 dX9_worst_65 (by decide) (fun h65 => ?_) (fun h65 => ?_)
        · refine aw_iload (pc := 71) C 2 dX9_worst_71 rfl ?_
          refine aw_istore_n (pc := 73) C [(2, .int (nI k)), (6, .int (meanS (upd (σ.1 20) (3 + k) (0)) rr)), (5, .int (σ.1 20 (3 + k))), (4, .int (nI k)), (3, .int (wrV (σ.1 20) rr b)), (0, .ref 73), (1, .int (nI rr))] dX9_worst_73 (Nat.le_of_ble_eq_true rfl) rfl ?_
          refine aw_iload (pc := 74) C 1 dX9_worst_74 rfl ?_
          refine aw_istore_n (pc := 76) C [(3, .int (meanS (upd (σ.1 20) (3 + k) (0)) rr)), (2, .int (nI k)), (6, .int (meanS (upd (σ.1 20) (3 + k) (0)) rr)), (5, .int (σ.1 20 (3 + k))), (4, .int (nI k)), (0, .ref 73), (1, .int (nI rr))] dX9_worst_76 (Nat.le_of_ble_eq_true rfl) rfl ?_
          refine aw_iincN (pc := 77) C 4 k [(4, .int (nI (k + 1))), (3, .int (meanS (upd (σ.1 20) (3 + k) (0)) rr)), (2, .int (nI k)), (6, .int (meanS (upd (σ.1 20) (3 + k) (0)) rr)), (5, .int (σ.1 20 (3 + k))), (0, .ref 73), (1, .int (nI rr))] dX9_worst_77 rfl rfl rfl (Nat.le_of_ble_eq_true rfl) rfl ?_
          refine aw_goto (pc := 80) C 22 dX9_worst_80 (by decide) ?_
          refine aw_lvs C [0, 1, 2, 5, 6] [(4, .int (nI (k + 1))), (3, .int (meanS (upd (σ.1 20) (3 + k) (0)) rr)), (2, .int (nI k)), (0, .ref 73), (1, .int (nI rr))] rfl ?_
          exact aw_conv (σ' := setR (setR σ 25 (f42)) 26 (g42)) (lv' := [(4, .int (nI (k + 1))), (3, .int (lsv (wrV (σ.1 20) rr) (amin (wrV (σ.1 20) rr) (k + 1)))), (2, .int (oI (amin (wrV (σ.1 20) rr) (k + 1)))), (0, .ref 73), (1, .int (nI rr))]) rfl (by rw [amin_less hb h65]; rfl) rfl (ih22 _ _)
        · refine aw_goto (pc := 68) C 77 dX9_worst_68 (by decide) ?_
          refine aw_iincN (pc := 77) C 2 k [(4, .int (nI (k + 1))), (6, .int (meanS (upd (σ.1 20) (3 + k) (0)) rr)), (5, .int (σ.1 20 (3 + k))), (3, .int (wrV (σ.1 20) rr b)), (2, .int (nI b)), (0, .ref 73), (1, .int (nI rr))] dX9_worst_77 rfl rfl rfl (Nat.le_of_ble_eq_true rfl) rfl ?_
          refine aw_goto (pc := 80) C 22 dX9_worst_80 (by decide) ?_
          refine aw_lvs C [0, 3, 4, 5, 6] [(4, .int (nI (k + 1))), (3, .int (wrV (σ.1 20) rr b)), (2, .int (nI b)), (0, .ref 73), (1, .int (nI rr))] rfl ?_
          exact aw_conv (σ' := setR (setR σ 25 (f42)) 26 (g42)) (lv' := [(4, .int (nI (k + 1))), (3, .int (lsv (wrV (σ.1 20) rr) (amin (wrV (σ.1 20) rr) (k + 1)))), (2, .int (oI (amin (wrV (σ.1 20) rr) (k + 1)))), (0, .ref 73), (1, .int (nI rr))]) rfl (by rw [amin_more hb h65]; rfl) rfl (ih22 _ _)
  · refine aw_aload_n (pc := 8) C 0 dX9_worst_8 rfl ?_
    refine aw_ldc (pc := 9) C dX9_worst_9 kc_X9_46 ?_
    refine aw_cVI (pc := 11) C (c_X9_finds _ (-100000001) 0 (by decide) (by decide)) lk_X9_48 sh73 rfl dX9_worst_11 (by decide) (Nat.le_of_ble_eq_true rfl) rfl rfl ?_
    exact aw_iretP (pc := 14) C rfl dX9_worst_14 (pm_of (an' := .inl 0) (by rw [sWorst, if_neg (fun z => h5 (z))]) rfl rfl)
theorem c_X9_spoon (σ : St) (n : Nat) (hn : σ.1 20 2 = nI n) (hz : n ≤ 6) (r : Int32) : AMet Y_X9_spoon [.ref 73, .int r] σ (PM σ (sSpoon (σ.1 20) n r)) := by
  refine am_intro (by decide +kernel) (Nat.le_of_ble_eq_true rfl) (fun K C => ?_)
  refine aw_aload_n (pc := 0) C 0 dX9_spoon_0 rfl ?_
  refine aw_iload_n (pc := 1) C 1 dX9_spoon_1 rfl ?_
  refine aw_cVI (pc := 2) C (c_X9_isRunner _ n hn hz r ) lk_X9_91 sh73 rfl dX9_spoon_2 (by decide) (Nat.le_of_ble_eq_true rfl) rfl rfl ?_
  refine aw_if_neB (pc := 5) C 15 dX9_spoon_5 (by decide) (fun h5 => ?_) (fun h5 => ?_)
  · obtain ⟨rr, rfl, hrr⟩ := rgR h5 hz
    refine aw_aload_n (pc := 15) C 0 dX9_spoon_15 rfl ?_
    refine aw_iload_n (pc := 16) C 1 dX9_spoon_16 rfl ?_
    refine aw_iconst (pc := 17) (v := 2) C dX9_spoon_17 rfl ?_
    refine aw_cVI (pc := 18) C (c_X9_is _ rr 2 (by omega)) lk_X9_62 sh73 rfl dX9_spoon_18 (by decide) (Nat.le_of_ble_eq_true rfl) rfl rfl ?_
    refine aw_istore_n (pc := 21) C [(2, .int (σ.1 20 (33 + 37 * rr + 2))), (0, .ref 73), (1, .int (nI rr))] dX9_spoon_21 (Nat.le_of_ble_eq_true rfl) rfl ?_
    refine aw_iconst (pc := 22) (v := (-1)) C dX9_spoon_22 rfl ?_
    refine aw_istore_n (pc := 23) C [(3, .int ((-1))), (2, .int (σ.1 20 (33 + 37 * rr + 2))), (0, .ref 73), (1, .int (nI rr))] dX9_spoon_23 (Nat.le_of_ble_eq_true rfl) rfl ?_
    refine aw_iconst (pc := 24) (v := 0) C dX9_spoon_24 rfl ?_
    refine aw_istore (pc := 25) C [(4, .int 0), (3, .int ((-1))), (2, .int (σ.1 20 (33 + 37 * rr + 2))), (0, .ref 73), (1, .int (nI rr))] dX9_spoon_25 (Nat.le_of_ble_eq_true rfl) rfl ?_
    refine aw_iconst (pc := 27) (v := 0) C dX9_spoon_27 rfl ?_
    refine aw_istore (pc := 28) C [(5, .int 0), (4, .int 0), (3, .int ((-1))), (2, .int (σ.1 20 (33 + 37 * rr + 2))), (0, .ref 73), (1, .int (nI rr))] dX9_spoon_28 (Nat.le_of_ble_eq_true rfl) rfl ?_
    refine aw_lvs C [0, 1, 2, 3, 4, 5] [(5, .int 0), (4, .int 0), (3, .int ((-1))), (2, .int (σ.1 20 (33 + 37 * rr + 2))), (0, .ref 73), (1, .int (nI rr))] rfl ?_
    refine aw_conv (σ' := setR (setR (setR σ 25 (σ.1 25)) 26 (σ.1 26)) 20 (spN (σ.1 20) (33 + 37 * rr + 2) 0)) (lv' := [(5, .int (nI 0)), (4, .int (lsv (spV (σ.1 20) rr) (amin (spV (σ.1 20) rr) 0))), (3, .int (oI (amin (spV (σ.1 20) rr) 0))), (2, .int (σ.1 20 (33 + 37 * rr + 2))), (0, .ref 73), (1, .int (nI rr))]) (by show σ = setR (setR (setR σ 25 (σ.1 25)) 26 (σ.1 26)) 20 (σ.1 20); rw [setR_same, setR_same, setR_same]) rfl rfl ?_
    refine loop_up (P := fun k => ∀ (f g : Fl), AW _ K _ (setR (setR (setR σ 25 (f)) 26 (g)) 20 (spN (σ.1 20) (33 + 37 * rr + 2) k)) 30 [(5, .int (nI k)), (4, .int (lsv (spV (σ.1 20) rr) (amin (spV (σ.1 20) rr) k))), (3, .int (oI (amin (spV (σ.1 20) rr) k))), (2, .int (σ.1 20 (33 + 37 * rr + 2))), (0, .ref 73), (1, .int (nI rr))] []) 6 ?_ ?_ 0 (by omega) (σ.1 25) (σ.1 26)
    · intro f g
      refine aw_iload (pc := 30) C 0 dX9_spoon_30 rfl ?_
      refine aw_iconst (pc := 32) (v := 5) C dX9_spoon_32 rfl ?_
      refine aw_icmp_gtN (pc := 33) C 6 5 85 rfl rfl (by omega) (by omega) dX9_spoon_33 (by decide) (fun h33 => ?_) (fun h33 => absurd h33 (by omega))
      refine aw_aload_n (pc := 85) C 4 dX9_spoon_85 rfl ?_
      refine aw_iload_n (pc := 86) C 5 dX9_spoon_86 rfl ?_
      refine aw_iconst (pc := 87) (v := 2) C dX9_spoon_87 rfl ?_
      refine aw_iload_n (pc := 88) C 3 dX9_spoon_88 rfl ?_
      refine aw_cV0 (pc := 89) C (c_X9_makes _ rr 2 (σ.1 20 (33 + 37 * rr + 2)) (by omega)) lk_X9_77 sh73 rfl dX9_spoon_89 (by decide) (Nat.le_of_ble_eq_true rfl) rfl rfl ?_
      refine aw_conv (σ' := setR (setR (setR σ 25 (f)) 26 (g)) 20 (upd (spN (σ.1 20) (33 + 37 * rr + 2) 6) (33 + 37 * rr + 2) (σ.1 20 (33 + 37 * rr + 2)))) (st' := []) (by first | rfl | (simp (disch := omega) only [setR_at, setR_twice, setL_at, setL_twice, setR_2, setL_1, setR_ne, setL_ne, ne_eq, Nat.reduceEqDiff, not_false_eq_true, pk_us, pk_un]; done) | ((try simp (disch := omega) only [setR_at, setR_twice, setL_at, setL_twice, setR_2, setL_1, setR_ne, setL_ne, ne_eq, Nat.reduceEqDiff, not_false_eq_true, pk_us, pk_un]); refine Prod.ext (funext fun z => ?_) rfl; simp only [setR]; (repeat' split) <;> first | rfl | (exfalso; omega))) rfl (by first | rfl | (simp (disch := omega) only [setR_at, setR_twice, setL_at, setL_twice, setR_2, setL_1, setR_ne, setL_ne, ne_eq, Nat.reduceEqDiff, not_false_eq_true, pk_us, pk_un]; done) | ((try simp (disch := omega) only [setR_at, setR_twice, setL_at, setL_twice, setR_2, setL_1, setR_ne, setL_ne, ne_eq, Nat.reduceEqDiff, not_false_eq_true, pk_us, pk_un]); refine Prod.ext (funext fun z => ?_) rfl; simp only [setR]; (repeat' split) <;> first | rfl | (exfalso; omega))) ?_
      refine aw_conv (σ' := setR (setR (setR σ 25 (f)) 26 (g)) 20 (σ.1 20)) (congrArg (setR _ 20) (spN_upd.trans (upd_same _ _))) rfl rfl ?_
      refine aw_iload_n (pc := 92) C 2 dX9_spoon_92 rfl ?_
      exact aw_iretP (pc := 93) C rfl dX9_spoon_93 (pm_scr (an' := .inr (oI (amin (spV (σ.1 20) rr) 6), σ.1 20)) (by rw [sSpoon, if_pos h5, cl_nI (show rr < 2147483648 by omega)]) rfl (fun r hr => by simp only [anS, setR]; (repeat' split) <;> first | rfl | (subst_vars; first | rfl | exact absurd (by decide) hr)) rfl)
    · intro k hk30 ih30 f g
      refine aw_iload (pc := 30) C 0 dX9_spoon_30 rfl ?_
      refine aw_iconst (pc := 32) (v := 5) C dX9_spoon_32 rfl ?_
      refine aw_icmp_gtN (pc := 33) C k 5 85 rfl rfl (by omega) (by omega) dX9_spoon_33 (by decide) (fun h33 => absurd h33 (by omega)) (fun h33 => ?_)
      refine aw_aload_n (pc := 36) C 4 dX9_spoon_36 rfl ?_
      refine aw_iload_n (pc := 37) C 5 dX9_spoon_37 rfl ?_
      refine aw_iconst (pc := 38) (v := 2) C dX9_spoon_38 rfl ?_
      refine aw_iload (pc := 39) C 0 dX9_spoon_39 rfl ?_
      refine aw_cV0 (pc := 41) C (c_X9_makes _ rr 2 (nI (k)) (by omega)) lk_X9_77 sh73 rfl dX9_spoon_41 (by decide) (Nat.le_of_ble_eq_true rfl) rfl rfl ?_
      refine aw_conv (σ' := setR (setR (setR σ 25 (f)) 26 (g)) 20 (upd (spN (σ.1 20) (33 + 37 * rr + 2) k) (33 + 37 * rr + 2) (nI (k)))) (st' := []) (by first | rfl | (simp (disch := omega) only [setR_at, setR_twice, setL_at, setL_twice, setR_2, setL_1, setR_ne, setL_ne, ne_eq, Nat.reduceEqDiff, not_false_eq_true, pk_us, pk_un]; done) | ((try simp (disch := omega) only [setR_at, setR_twice, setL_at, setL_twice, setR_2, setL_1, setR_ne, setL_ne, ne_eq, Nat.reduceEqDiff, not_false_eq_true, pk_us, pk_un]); refine Prod.ext (funext fun z => ?_) rfl; simp only [setR]; (repeat' split) <;> first | rfl | (exfalso; omega))) rfl (by first | rfl | (simp (disch := omega) only [setR_at, setR_twice, setL_at, setL_twice, setR_2, setL_1, setR_ne, setL_ne, ne_eq, Nat.reduceEqDiff, not_false_eq_true, pk_us, pk_un]; done) | ((try simp (disch := omega) only [setR_at, setR_twice, setL_at, setL_twice, setR_2, setL_1, setR_ne, setL_ne, ne_eq, Nat.reduceEqDiff, not_false_eq_true, pk_us, pk_un]); refine Prod.ext (funext fun z => ?_) rfl; simp only [setR]; (repeat' split) <;> first | rfl | (exfalso; omega))) ?_
      refine aw_conv (σ' := setR (setR (setR σ 25 (f)) 26 (g)) 20 (spN (σ.1 20) (33 + 37 * rr + 2) (k + 1))) (congrArg (setR _ 20) spN_upd) rfl rfl ?_
      refine aw_aload_n (pc := 44) C 4 dX9_spoon_44 rfl ?_
      refine aw_iload_n (pc := 45) C 5 dX9_spoon_45 rfl ?_
      refine aw_callV (pc := 46) C (c_X9_meanOf _ rr (by omega)) lk_X9_203 sh73 rfl (by decide) rfl (Nat.le_of_ble_eq_true rfl) dX9_spoon_46 rfl (fun w s hq => ?_)
      obtain ⟨f46, g46, rfl, rfl⟩ := hq
      refine aw_conv (σ' := setR (setR (setR σ 25 (f46)) 26 (g46)) 20 (spN (σ.1 20) (33 + 37 * rr + 2) (k + 1))) (st' := [.int (meanS (spN (σ.1 20) (33 + 37 * rr + 2) (k + 1)) rr)]) (by first | rfl | (simp (disch := omega) only [setR_at, setR_twice, setL_at, setL_twice, setR_2, setL_1, setR_ne, setL_ne, ne_eq, Nat.reduceEqDiff, not_false_eq_true, pk_us, pk_un]; done) | ((try simp (disch := omega) only [setR_at, setR_twice, setL_at, setL_twice, setR_2, setL_1, setR_ne, setL_ne, ne_eq, Nat.reduceEqDiff, not_false_eq_true, pk_us, pk_un]); refine Prod.ext (funext fun z => ?_) rfl; simp only [setR]; (repeat' split) <;> first | rfl | (exfalso; omega))) rfl (by first | rfl | (simp (disch := omega) only [setR_at, setR_twice, setL_at, setL_twice, setR_2, setL_1, setR_ne, setL_ne, ne_eq, Nat.reduceEqDiff, not_false_eq_true, pk_us, pk_un]; done) | ((try simp (disch := omega) only [setR_at, setR_twice, setL_at, setL_twice, setR_2, setL_1, setR_ne, setL_ne, ne_eq, Nat.reduceEqDiff, not_false_eq_true, pk_us, pk_un]); refine Prod.ext (funext fun z => ?_) rfl; simp only [setR]; (repeat' split) <;> first | rfl | (exfalso; omega))) ?_
      refine aw_sipush (pc := 49) (v := 15000) C dX9_spoon_49 rfl ?_
      refine aw_iload (pc := 52) C 0 dX9_spoon_52 rfl ?_
      refine aw_imulN (pc := 54) C 15000 k rfl rfl dX9_spoon_54 ?_
      refine aw_iadd (pc := 55) C dX9_spoon_55 ?_
      refine aw_istore (pc := 56) C [(6, .int ((meanS (spN (σ.1 20) (33 + 37 * rr + 2) (k + 1)) rr) + (nI (15000 * k)))), (5, .int (nI k)), (4, .int (lsv (spV (σ.1 20) rr) (amin (spV (σ.1 20) rr) k))), (3, .int (oI (amin (spV (σ.1 20) rr) k))), (2, .int (σ.1 20 (33 + 37 * rr + 2))), (0, .ref 73), (1, .int (nI rr))] dX9_spoon_56 (Nat.le_of_ble_eq_true rfl) rfl ?_
      rcases hb : amin (spV (σ.1 20) rr) k with _ | b
      · refine aw_lvs C [0, 1, 2, 3, 4, 5, 6] [(6, .int ((meanS (spN (σ.1 20) (33 + 37 * rr + 2) (k + 1)) rr) + (nI (15000 * k)))), (5, .int (nI k)), (4, .int 0), (3, .int ((-1))), (2, .int (σ.1 20 (33 + 37 * rr + 2))), (0, .ref 73), (1, .int (nI rr))] rfl ?_
        refine aw_iload_n (pc := 58) C 3 dX9_spoon_58 rfl ?_
        refine aw_if_lt (pc := 59) C 72 dX9_spoon_59 (by decide) (fun h59 => ?_) (fun h59 => absurd h59 (by decide))
        refine aw_iload (pc := 72) C 1 dX9_spoon_72 rfl ?_
        refine aw_istore_n (pc := 74) C [(3, .int (nI k)), (6, .int ((meanS (spN (σ.1 20) (33 + 37 * rr + 2) (k + 1)) rr) + (nI (15000 * k)))), (5, .int (nI k)), (4, .int 0), (2, .int (σ.1 20 (33 + 37 * rr + 2))), (0, .ref 73), (1, .int (nI rr))] dX9_spoon_74 (Nat.le_of_ble_eq_true rfl) rfl ?_
        refine aw_iload (pc := 75) C 1 dX9_spoon_75 rfl ?_
        refine aw_istore (pc := 77) C [(4, .int ((meanS (spN (σ.1 20) (33 + 37 * rr + 2) (k + 1)) rr) + (nI (15000 * k)))), (3, .int (nI k)), (6, .int ((meanS (spN (σ.1 20) (33 + 37 * rr + 2) (k + 1)) rr) + (nI (15000 * k)))), (5, .int (nI k)), (2, .int (σ.1 20 (33 + 37 * rr + 2))), (0, .ref 73), (1, .int (nI rr))] dX9_spoon_77 (Nat.le_of_ble_eq_true rfl) rfl ?_
        refine aw_iincN (pc := 79) C 3 k [(5, .int (nI (k + 1))), (4, .int ((meanS (spN (σ.1 20) (33 + 37 * rr + 2) (k + 1)) rr) + (nI (15000 * k)))), (3, .int (nI k)), (6, .int ((meanS (spN (σ.1 20) (33 + 37 * rr + 2) (k + 1)) rr) + (nI (15000 * k)))), (2, .int (σ.1 20 (33 + 37 * rr + 2))), (0, .ref 73), (1, .int (nI rr))] dX9_spoon_79 rfl rfl rfl (Nat.le_of_ble_eq_true rfl) rfl ?_
        refine aw_goto (pc := 82) C 30 dX9_spoon_82 (by decide) ?_
        refine aw_lvs C [0, 1, 2, 4, 5, 6] [(5, .int (nI (k + 1))), (4, .int ((meanS (spN (σ.1 20) (33 + 37 * rr + 2) (k + 1)) rr) + (nI (15000 * k)))), (3, .int (nI k)), (2, .int (σ.1 20 (33 + 37 * rr + 2))), (0, .ref 73), (1, .int (nI rr))] rfl ?_
        exact aw_conv (σ' := setR (setR (setR σ 25 (f46)) 26 (g46)) 20 (spN (σ.1 20) (33 + 37 * rr + 2) (k + 1))) (lv' := [(5, .int (nI (k + 1))), (4, .int (lsv (spV (σ.1 20) rr) (amin (spV (σ.1 20) rr) (k + 1)))), (3, .int (oI (amin (spV (σ.1 20) rr) (k + 1)))), (2, .int (σ.1 20 (33 + 37 * rr + 2))), (0, .ref 73), (1, .int (nI rr))]) rfl (by rw [amin_none hb]; rfl) rfl (ih30 _ _)
      · have hbk := amin_lt hb
        refine aw_lvs C [0, 1, 2, 3, 4, 5, 6] [(6, .int ((meanS (spN (σ.1 20) (33 + 37 * rr + 2) (k + 1)) rr) + (nI (15000 * k)))), (5, .int (nI k)), (4, .int (spV (σ.1 20) rr b)), (3, .int (nI b)), (2, .int (σ.1 20 (33 + 37 * rr + 2))), (0, .ref 73), (1, .int (nI rr))] rfl ?_
        refine aw_iload_n (pc := 58) C 3 dX9_spoon_58 rfl ?_
        refine aw_if_lt (pc := 59) C 72 dX9_spoon_59 (by decide) (fun h59 => absurd h59 (nI_pos (by omega))) (fun h59 => ?_)
        refine aw_iload (pc := 62) C 0 dX9_spoon_62 rfl ?_
        refine aw_iload (pc := 64) C 2 dX9_spoon_64 rfl ?_
        refine aw_icmp_lt (pc := 66) C 72 dX9_spoon_66 (by decide) (fun h66 => ?_) (fun h66 => ?_)
        · refine aw_iload (pc := 72) C 1 dX9_spoon_72 rfl ?_
          refine aw_istore_n (pc := 74) C [(3, .int (nI k)), (6, .int ((meanS (spN (σ.1 20) (33 + 37 * rr + 2) (k + 1)) rr) + (nI (15000 * k)))), (5, .int (nI k)), (4, .int (spV (σ.1 20) rr b)), (2, .int (σ.1 20 (33 + 37 * rr + 2))), (0, .ref 73), (1, .int (nI rr))] dX9_spoon_74 (Nat.le_of_ble_eq_true rfl) rfl ?_
          refine aw_iload (pc := 75) C 1 dX9_spoon_75 rfl ?_
          refine aw_istore (pc := 77) C [(4, .int ((meanS (spN (σ.1 20) (33 + 37 * rr + 2) (k + 1)) rr) + (nI (15000 * k)))), (3, .int (nI k)), (6, .int ((meanS (spN (σ.1 20) (33 + 37 * rr + 2) (k + 1)) rr) + (nI (15000 * k)))), (5, .int (nI k)), (2, .int (σ.1 20 (33 + 37 * rr + 2))), (0, .ref 73), (1, .int (nI rr))] dX9_spoon_77 (Nat.le_of_ble_eq_true rfl) rfl ?_
          refine aw_iincN (pc := 79) C 3 k [(5, .int (nI (k + 1))), (4, .int ((meanS (spN (σ.1 20) (33 + 37 * rr + 2) (k + 1)) rr) + (nI (15000 * k)))), (3, .int (nI k)), (6, .int ((meanS (spN (σ.1 20) (33 + 37 * rr + 2) (k + 1)) rr) + (nI (15000 * k)))), (2, .int (σ.1 20 (33 + 37 * rr + 2))), (0, .ref 73), (1, .int (nI rr))] dX9_spoon_79 rfl rfl rfl (Nat.le_of_ble_eq_true rfl) rfl ?_
          refine aw_goto (pc := 82) C 30 dX9_spoon_82 (by decide) ?_
          refine aw_lvs C [0, 1, 2, 4, 5, 6] [(5, .int (nI (k + 1))), (4, .int ((meanS (spN (σ.1 20) (33 + 37 * rr + 2) (k + 1)) rr) + (nI (15000 * k)))), (3, .int (nI k)), (2, .int (σ.1 20 (33 + 37 * rr + 2))), (0, .ref 73), (1, .int (nI rr))] rfl ?_
          exact aw_conv (σ' := setR (setR (setR σ 25 (f46)) 26 (g46)) 20 (spN (σ.1 20) (33 + 37 * rr + 2) (k + 1))) (lv' := [(5, .int (nI (k + 1))), (4, .int (lsv (spV (σ.1 20) rr) (amin (spV (σ.1 20) rr) (k + 1)))), (3, .int (oI (amin (spV (σ.1 20) rr) (k + 1)))), (2, .int (σ.1 20 (33 + 37 * rr + 2))), (0, .ref 73), (1, .int (nI rr))]) rfl (by rw [amin_less hb h66]; rfl) rfl (ih30 _ _)
        · refine aw_goto (pc := 69) C 79 dX9_spoon_69 (by decide) ?_
          refine aw_iincN (pc := 79) C 1 k [(5, .int (nI (k + 1))), (6, .int ((meanS (spN (σ.1 20) (33 + 37 * rr + 2) (k + 1)) rr) + (nI (15000 * k)))), (4, .int (spV (σ.1 20) rr b)), (3, .int (nI b)), (2, .int (σ.1 20 (33 + 37 * rr + 2))), (0, .ref 73), (1, .int (nI rr))] dX9_spoon_79 rfl rfl rfl (Nat.le_of_ble_eq_true rfl) rfl ?_
          refine aw_goto (pc := 82) C 30 dX9_spoon_82 (by decide) ?_
          refine aw_lvs C [0, 2, 3, 4, 5, 6] [(5, .int (nI (k + 1))), (4, .int (spV (σ.1 20) rr b)), (3, .int (nI b)), (2, .int (σ.1 20 (33 + 37 * rr + 2))), (0, .ref 73), (1, .int (nI rr))] rfl ?_
          exact aw_conv (σ' := setR (setR (setR σ 25 (f46)) 26 (g46)) 20 (spN (σ.1 20) (33 + 37 * rr + 2) (k + 1))) (lv' := [(5, .int (nI (k + 1))), (4, .int (lsv (spV (σ.1 20) rr) (amin (spV (σ.1 20) rr) (k + 1)))), (3, .int (oI (amin (spV (σ.1 20) rr) (k + 1)))), (2, .int (σ.1 20 (33 + 37 * rr + 2))), (0, .ref 73), (1, .int (nI rr))]) rfl (by rw [amin_more hb h66]; rfl) rfl (ih30 _ _)
  · refine aw_aload_n (pc := 8) C 0 dX9_spoon_8 rfl ?_
    refine aw_ldc (pc := 9) C dX9_spoon_9 kc_X9_46 ?_
    refine aw_cVI (pc := 11) C (c_X9_finds _ (-100000001) 0 (by decide) (by decide)) lk_X9_48 sh73 rfl dX9_spoon_11 (by decide) (Nat.le_of_ble_eq_true rfl) rfl rfl ?_
    exact aw_iretP (pc := 14) C rfl dX9_spoon_14 (pm_of (an' := .inl 0) (by rw [sSpoon, if_neg (fun z => h5 (z))]) rfl rfl)
theorem c_X9_even (σ : St) (n : Nat) (hn : σ.1 20 2 = nI n) (hz : n ≤ 6) (r : Int32) : AMet Y_X9_even [.ref 73, .int r] σ (PM σ (sEven (σ.1 20) n r)) := by
  refine am_intro (by decide +kernel) (Nat.le_of_ble_eq_true rfl) (fun K C => ?_)
  refine aw_aload_n (pc := 0) C 0 dX9_even_0 rfl ?_
  refine aw_iload_n (pc := 1) C 1 dX9_even_1 rfl ?_
  refine aw_cVI (pc := 2) C (c_X9_isRunner _ n hn hz r ) lk_X9_91 sh73 rfl dX9_even_2 (by decide) (Nat.le_of_ble_eq_true rfl) rfl rfl ?_
  refine aw_if_neB (pc := 5) C 15 dX9_even_5 (by decide) (fun h5 => ?_) (fun h5 => ?_)
  · obtain ⟨rr, rfl, hrr⟩ := rgR h5 hz
    refine aw_aload_n (pc := 15) C 0 dX9_even_15 rfl ?_
    refine aw_getR (pc := 16) C fl_X9_9 sh73 rfl dX9_even_16 ?_
    refine aw_aload_n (pc := 19) C 0 dX9_even_19 rfl ?_
    refine aw_getR (pc := 20) C fl_X9_16 sh73 rfl dX9_even_20 ?_
    refine aw_cS0 (pc := 23) C (c_X9_row_74_76 _  ) lk_X9_166 dX9_even_23 (by decide) (Nat.le_of_ble_eq_true rfl) rfl rfl ?_
    refine aw_iconst (pc := 26) (v := 0) C dX9_even_26 rfl ?_
    refine aw_istore_n (pc := 27) C [(2, .int 0), (0, .ref 73), (1, .int (nI rr))] dX9_even_27 (Nat.le_of_ble_eq_true rfl) rfl ?_
    refine aw_iconst (pc := 28) (v := 0) C dX9_even_28 rfl ?_
    refine aw_istore_n (pc := 29) C [(3, .int 0), (2, .int 0), (0, .ref 73), (1, .int (nI rr))] dX9_even_29 (Nat.le_of_ble_eq_true rfl) rfl ?_
    refine aw_iconst (pc := 30) (v := 1) C dX9_even_30 rfl ?_
    refine aw_istore (pc := 31) C [(4, .int 1), (3, .int 0), (2, .int 0), (0, .ref 73), (1, .int (nI rr))] dX9_even_31 (Nat.le_of_ble_eq_true rfl) rfl ?_
    refine aw_lvs C [0, 1, 2, 3, 4] [(4, .int 1), (3, .int 0), (2, .int 0), (0, .ref 73), (1, .int (nI rr))] rfl ?_
    refine aw_conv (σ' := setR (setR (setR (setR σ 22 (σ.1 20)) 25 (σ.1 25)) 26 (σ.1 26)) 20 (evN (σ.1 20) rr 0)) (lv' := [(4, .int (nI (0 + 1))), (3, .int (lsv (evV (σ.1 20) rr) (amin (evV (σ.1 20) rr) 0))), (2, .int (eP (amin (evV (σ.1 20) rr) 0))), (0, .ref 73), (1, .int (nI rr))]) (by show setR σ 22 (σ.1 20) = setR (setR (setR (setR σ 22 (σ.1 20)) 25 (σ.1 25)) 26 (σ.1 26)) 20 (σ.1 20); exact ((setR_same (setR (setR (setR σ 22 (σ.1 20)) 25 (σ.1 25)) 26 (σ.1 26)) 20).trans ((setR_same (setR (setR σ 22 (σ.1 20)) 25 (σ.1 25)) 26).trans (setR_same (setR σ 22 (σ.1 20)) 25))).symm) rfl rfl ?_
    refine loop_up (P := fun k => ∀ (f g : Fl), AW _ K _ (setR (setR (setR (setR σ 22 (σ.1 20)) 25 (f)) 26 (g)) 20 (evN (σ.1 20) rr k)) 33 [(4, .int (nI (k + 1))), (3, .int (lsv (evV (σ.1 20) rr) (amin (evV (σ.1 20) rr) k))), (2, .int (eP (amin (evV (σ.1 20) rr) k))), (0, .ref 73), (1, .int (nI rr))] []) 9 ?_ ?_ 0 (by omega) (σ.1 25) (σ.1 26)
    · intro f g
      refine aw_iload (pc := 33) C 0 dX9_even_33 rfl ?_
      refine aw_bipush (pc := 35) (v := 9) C dX9_even_35 rfl ?_
      refine aw_icmp_gtN (pc := 37) C (9 + 1) 9 100 rfl rfl (by omega) (by omega) dX9_even_37 (by decide) (fun h37 => ?_) (fun h37 => absurd h37 (by omega))
      refine aw_aload_n (pc := 100) C 3 dX9_even_100 rfl ?_
      refine aw_getR (pc := 101) C fl_X9_16 sh73 rfl dX9_even_101 ?_
      refine aw_aload_n (pc := 104) C 3 dX9_even_104 rfl ?_
      refine aw_getR (pc := 105) C fl_X9_9 sh73 rfl dX9_even_105 ?_
      refine aw_cS0 (pc := 108) C (c_X9_row_76_74 _  ) lk_X9_166 dX9_even_108 (by decide) (Nat.le_of_ble_eq_true rfl) rfl rfl ?_
      refine aw_conv (σ' := setR (setR (setR (setR σ 22 (σ.1 20)) 25 (f)) 26 (g)) 20 (σ.1 20)) (st' := []) (by first | rfl | (simp (disch := omega) only [setR_at, setR_twice, setL_at, setL_twice, setR_2, setL_1, setR_ne, setL_ne, ne_eq, Nat.reduceEqDiff, not_false_eq_true, pk_us, pk_un]; done) | ((try simp (disch := omega) only [setR_at, setR_twice, setL_at, setL_twice, setR_2, setL_1, setR_ne, setL_ne, ne_eq, Nat.reduceEqDiff, not_false_eq_true, pk_us, pk_un]); refine Prod.ext (funext fun z => ?_) rfl; simp only [setR]; (repeat' split) <;> first | rfl | (exfalso; omega))) rfl (by first | rfl | (simp (disch := omega) only [setR_at, setR_twice, setL_at, setL_twice, setR_2, setL_1, setR_ne, setL_ne, ne_eq, Nat.reduceEqDiff, not_false_eq_true, pk_us, pk_un]; done) | ((try simp (disch := omega) only [setR_at, setR_twice, setL_at, setL_twice, setR_2, setL_1, setR_ne, setL_ne, ne_eq, Nat.reduceEqDiff, not_false_eq_true, pk_us, pk_un]); refine Prod.ext (funext fun z => ?_) rfl; simp only [setR]; (repeat' split) <;> first | rfl | (exfalso; omega))) ?_
      refine aw_iload_n (pc := 111) C 2 dX9_even_111 rfl ?_
      exact aw_iretP (pc := 112) C rfl dX9_even_112 (pm_scr (an' := .inr (eP (amin (evV (σ.1 20) rr) 9), σ.1 20)) (by rw [sEven, if_pos h5, cl_nI (show rr < 2147483648 by omega)]) rfl (fun r hr => by simp only [anS, setR]; (repeat' split) <;> first | rfl | (subst_vars; first | rfl | exact absurd (by decide) hr)) rfl)
    · intro k hk33 ih33 f g
      refine aw_iload (pc := 33) C 0 dX9_even_33 rfl ?_
      refine aw_bipush (pc := 35) (v := 9) C dX9_even_35 rfl ?_
      refine aw_icmp_gtN (pc := 37) C (k + 1) 9 100 rfl rfl (by omega) (by omega) dX9_even_37 (by decide) (fun h37 => absurd h37 (by omega)) (fun h37 => ?_)
      refine aw_iconst (pc := 40) (v := 0) C dX9_even_40 rfl ?_
      refine aw_istore (pc := 41) C [(5, .int 0), (4, .int (nI (k + 1))), (3, .int (lsv (evV (σ.1 20) rr) (amin (evV (σ.1 20) rr) k))), (2, .int (eP (amin (evV (σ.1 20) rr) k))), (0, .ref 73), (1, .int (nI rr))] dX9_even_41 (Nat.le_of_ble_eq_true rfl) rfl ?_
      refine aw_lvs C [0, 1, 2, 3, 4, 5] [(5, .int 0), (4, .int (nI (k + 1))), (3, .int (lsv (evV (σ.1 20) rr) (amin (evV (σ.1 20) rr) k))), (2, .int (eP (amin (evV (σ.1 20) rr) k))), (0, .ref 73), (1, .int (nI rr))] rfl ?_
      refine aw_conv (σ' := setR (setR (setR (setR σ 22 (σ.1 20)) 25 (f)) 26 (g)) 20 (evK (evN (σ.1 20) rr k) rr (nI (k + 1)) 0)) (lv' := [(5, .int (nI 0)), (4, .int (nI (k + 1))), (3, .int (lsv (evV (σ.1 20) rr) (amin (evV (σ.1 20) rr) k))), (2, .int (eP (amin (evV (σ.1 20) rr) k))), (0, .ref 73), (1, .int (nI rr))]) (by rw [evK_0]) rfl rfl ?_
      refine loop_up (P := fun y => AW _ K _ (setR (setR (setR (setR σ 22 (σ.1 20)) 25 (f)) 26 (g)) 20 (evK (evN (σ.1 20) rr k) rr (nI (k + 1)) y)) 43 [(5, .int (nI y)), (4, .int (nI (k + 1))), (3, .int (lsv (evV (σ.1 20) rr) (amin (evV (σ.1 20) rr) k))), (2, .int (eP (amin (evV (σ.1 20) rr) k))), (0, .ref 73), (1, .int (nI rr))] []) 30 ?_ ?_ 0 (by omega) 
      · refine aw_iload (pc := 43) C 0 dX9_even_43 rfl ?_
        refine aw_bipush (pc := 45) (v := 30) C dX9_even_45 rfl ?_
        refine aw_icmp_geN (pc := 47) C 30 30 68 rfl rfl (by omega) (by omega) dX9_even_47 (by decide) (fun h47 => ?_) (fun h47 => absurd h47 (by omega))
        refine aw_conv (σ' := setR (setR (setR (setR σ 22 (σ.1 20)) 25 (f)) 26 (g)) 20 (evN (σ.1 20) rr (k + 1))) (congrArg (setR _ 20) evK_evN) rfl rfl ?_
        refine aw_aload_n (pc := 68) C 4 dX9_even_68 rfl ?_
        refine aw_iload_n (pc := 69) C 5 dX9_even_69 rfl ?_
        refine aw_callV (pc := 70) C (c_X9_meanOf _ rr (by omega)) lk_X9_203 sh73 rfl (by decide) rfl (Nat.le_of_ble_eq_true rfl) dX9_even_70 rfl (fun w s hq => ?_)
        obtain ⟨f70, g70, rfl, rfl⟩ := hq
        refine aw_conv (σ' := setR (setR (setR (setR σ 22 (σ.1 20)) 25 (f70)) 26 (g70)) 20 (evN (σ.1 20) rr (k + 1))) (st' := [.int (meanS (evN (σ.1 20) rr (k + 1)) rr)]) (by first | rfl | (simp (disch := omega) only [setR_at, setR_twice, setL_at, setL_twice, setR_2, setL_1, setR_ne, setL_ne, ne_eq, Nat.reduceEqDiff, not_false_eq_true, pk_us, pk_un]; done) | ((try simp (disch := omega) only [setR_at, setR_twice, setL_at, setL_twice, setR_2, setL_1, setR_ne, setL_ne, ne_eq, Nat.reduceEqDiff, not_false_eq_true, pk_us, pk_un]); refine Prod.ext (funext fun z => ?_) rfl; simp only [setR]; (repeat' split) <;> first | rfl | (exfalso; omega))) rfl (by first | rfl | (simp (disch := omega) only [setR_at, setR_twice, setL_at, setL_twice, setR_2, setL_1, setR_ne, setL_ne, ne_eq, Nat.reduceEqDiff, not_false_eq_true, pk_us, pk_un]; done) | ((try simp (disch := omega) only [setR_at, setR_twice, setL_at, setL_twice, setR_2, setL_1, setR_ne, setL_ne, ne_eq, Nat.reduceEqDiff, not_false_eq_true, pk_us, pk_un]); refine Prod.ext (funext fun z => ?_) rfl; simp only [setR]; (repeat' split) <;> first | rfl | (exfalso; omega))) ?_
        refine aw_istore (pc := 73) C [(5, .int (meanS (evN (σ.1 20) rr (k + 1)) rr)), (4, .int (nI (k + 1))), (3, .int (lsv (evV (σ.1 20) rr) (amin (evV (σ.1 20) rr) k))), (2, .int (eP (amin (evV (σ.1 20) rr) k))), (0, .ref 73), (1, .int (nI rr))] dX9_even_73 (Nat.le_of_ble_eq_true rfl) rfl ?_
        rcases hb : amin (evV (σ.1 20) rr) k with _ | b
        · refine aw_lvs C [0, 1, 2, 3, 4, 5] [(5, .int (meanS (evN (σ.1 20) rr (k + 1)) rr)), (4, .int (nI (k + 1))), (3, .int 0), (2, .int 0), (0, .ref 73), (1, .int (nI rr))] rfl ?_
          refine aw_iload_n (pc := 75) C 3 dX9_even_75 rfl ?_
          refine aw_if_le (pc := 76) C 88 dX9_even_76 (by decide) (fun h76 => ?_) (fun h76 => absurd h76 (by decide))
          refine aw_iload (pc := 88) C 1 dX9_even_88 rfl ?_
          refine aw_istore_n (pc := 90) C [(2, .int (nI (k + 1))), (5, .int (meanS (evN (σ.1 20) rr (k + 1)) rr)), (4, .int (nI (k + 1))), (3, .int 0), (0, .ref 73), (1, .int (nI rr))] dX9_even_90 (Nat.le_of_ble_eq_true rfl) rfl ?_
          refine aw_iload (pc := 91) C 1 dX9_even_91 rfl ?_
          refine aw_istore_n (pc := 93) C [(3, .int (meanS (evN (σ.1 20) rr (k + 1)) rr)), (2, .int (nI (k + 1))), (5, .int (meanS (evN (σ.1 20) rr (k + 1)) rr)), (4, .int (nI (k + 1))), (0, .ref 73), (1, .int (nI rr))] dX9_even_93 (Nat.le_of_ble_eq_true rfl) rfl ?_
          refine aw_iincN (pc := 94) C 3 (k + 1) [(4, .int (nI (k + 1 + 1))), (3, .int (meanS (evN (σ.1 20) rr (k + 1)) rr)), (2, .int (nI (k + 1))), (5, .int (meanS (evN (σ.1 20) rr (k + 1)) rr)), (0, .ref 73), (1, .int (nI rr))] dX9_even_94 rfl rfl rfl (Nat.le_of_ble_eq_true rfl) rfl ?_
          refine aw_goto (pc := 97) C 33 dX9_even_97 (by decide) ?_
          refine aw_lvs C [0, 1, 2, 4, 5] [(4, .int (nI (k + 1 + 1))), (3, .int (meanS (evN (σ.1 20) rr (k + 1)) rr)), (2, .int (nI (k + 1))), (0, .ref 73), (1, .int (nI rr))] rfl ?_
          exact aw_conv (σ' := setR (setR (setR (setR σ 22 (σ.1 20)) 25 (f70)) 26 (g70)) 20 (evN (σ.1 20) rr (k + 1))) (lv' := [(4, .int (nI (k + 1 + 1))), (3, .int (lsv (evV (σ.1 20) rr) (amin (evV (σ.1 20) rr) (k + 1)))), (2, .int (eP (amin (evV (σ.1 20) rr) (k + 1)))), (0, .ref 73), (1, .int (nI rr))]) rfl (by rw [amin_none hb]; rfl) rfl (ih33 _ _)
        · have hbk := amin_lt hb
          refine aw_lvs C [0, 1, 2, 3, 4, 5] [(5, .int (meanS (evN (σ.1 20) rr (k + 1)) rr)), (4, .int (nI (k + 1))), (3, .int (evV (σ.1 20) rr b)), (2, .int (nI (b + 1))), (0, .ref 73), (1, .int (nI rr))] rfl ?_
          refine aw_iload_n (pc := 75) C 3 dX9_even_75 rfl ?_
          refine aw_if_leN (pc := 76) C (b + 1) 88 rfl (by omega) dX9_even_76 (by decide) (fun h76 => absurd h76 (by omega)) (fun h76 => ?_)
          refine aw_iload (pc := 79) C 0 dX9_even_79 rfl ?_
          refine aw_iload_n (pc := 81) C 2 dX9_even_81 rfl ?_
          refine aw_icmp_lt (pc := 82) C 88 dX9_even_82 (by decide) (fun h82 => ?_) (fun h82 => ?_)
          · refine aw_iload (pc := 88) C 1 dX9_even_88 rfl ?_
            refine aw_istore_n (pc := 90) C [(2, .int (nI (k + 1))), (5, .int (meanS (evN (σ.1 20) rr (k + 1)) rr)), (4, .int (nI (k + 1))), (3, .int (evV (σ.1 20) rr b)), (0, .ref 73), (1, .int (nI rr))] dX9_even_90 (Nat.le_of_ble_eq_true rfl) rfl ?_
            refine aw_iload (pc := 91) C 1 dX9_even_91 rfl ?_
            refine aw_istore_n (pc := 93) C [(3, .int (meanS (evN (σ.1 20) rr (k + 1)) rr)), (2, .int (nI (k + 1))), (5, .int (meanS (evN (σ.1 20) rr (k + 1)) rr)), (4, .int (nI (k + 1))), (0, .ref 73), (1, .int (nI rr))] dX9_even_93 (Nat.le_of_ble_eq_true rfl) rfl ?_
            refine aw_iincN (pc := 94) C 3 (k + 1) [(4, .int (nI (k + 1 + 1))), (3, .int (meanS (evN (σ.1 20) rr (k + 1)) rr)), (2, .int (nI (k + 1))), (5, .int (meanS (evN (σ.1 20) rr (k + 1)) rr)), (0, .ref 73), (1, .int (nI rr))] dX9_even_94 rfl rfl rfl (Nat.le_of_ble_eq_true rfl) rfl ?_
            refine aw_goto (pc := 97) C 33 dX9_even_97 (by decide) ?_
            refine aw_lvs C [0, 1, 2, 4, 5] [(4, .int (nI (k + 1 + 1))), (3, .int (meanS (evN (σ.1 20) rr (k + 1)) rr)), (2, .int (nI (k + 1))), (0, .ref 73), (1, .int (nI rr))] rfl ?_
            exact aw_conv (σ' := setR (setR (setR (setR σ 22 (σ.1 20)) 25 (f70)) 26 (g70)) 20 (evN (σ.1 20) rr (k + 1))) (lv' := [(4, .int (nI (k + 1 + 1))), (3, .int (lsv (evV (σ.1 20) rr) (amin (evV (σ.1 20) rr) (k + 1)))), (2, .int (eP (amin (evV (σ.1 20) rr) (k + 1)))), (0, .ref 73), (1, .int (nI rr))]) rfl (by rw [amin_less hb h82]; rfl) rfl (ih33 _ _)
          · refine aw_goto (pc := 85) C 94 dX9_even_85 (by decide) ?_
            refine aw_iincN (pc := 94) C 1 (k + 1) [(4, .int (nI (k + 1 + 1))), (5, .int (meanS (evN (σ.1 20) rr (k + 1)) rr)), (3, .int (evV (σ.1 20) rr b)), (2, .int (nI (b + 1))), (0, .ref 73), (1, .int (nI rr))] dX9_even_94 rfl rfl rfl (Nat.le_of_ble_eq_true rfl) rfl ?_
            refine aw_goto (pc := 97) C 33 dX9_even_97 (by decide) ?_
            refine aw_lvs C [0, 2, 3, 4, 5] [(4, .int (nI (k + 1 + 1))), (3, .int (evV (σ.1 20) rr b)), (2, .int (nI (b + 1))), (0, .ref 73), (1, .int (nI rr))] rfl ?_
            exact aw_conv (σ' := setR (setR (setR (setR σ 22 (σ.1 20)) 25 (f70)) 26 (g70)) 20 (evN (σ.1 20) rr (k + 1))) (lv' := [(4, .int (nI (k + 1 + 1))), (3, .int (lsv (evV (σ.1 20) rr) (amin (evV (σ.1 20) rr) (k + 1)))), (2, .int (eP (amin (evV (σ.1 20) rr) (k + 1)))), (0, .ref 73), (1, .int (nI rr))]) rfl (by rw [amin_more hb h82]; rfl) rfl (ih33 _ _)
      · intro y hk43 ih43 
        refine aw_iload (pc := 43) C 0 dX9_even_43 rfl ?_
        refine aw_bipush (pc := 45) (v := 30) C dX9_even_45 rfl ?_
        refine aw_icmp_geN (pc := 47) C y 30 68 rfl rfl (by omega) (by omega) dX9_even_47 (by decide) (fun h47 => absurd h47 (by omega)) (fun h47 => ?_)
        refine aw_aload_n (pc := 50) C 4 dX9_even_50 rfl ?_
        refine aw_iload_n (pc := 51) C 5 dX9_even_51 rfl ?_
        refine aw_bipush (pc := 52) (v := 7) C dX9_even_52 rfl ?_
        refine aw_iload (pc := 54) C 0 dX9_even_54 rfl ?_
        refine aw_iaddN (pc := 56) C 7 y rfl rfl dX9_even_56 ?_
        refine aw_iload (pc := 57) C 1 dX9_even_57 rfl ?_
        refine aw_cV0 (pc := 59) C (c_X9_makes _ rr (7 + y) (nI (k + 1)) (by omega)) lk_X9_77 sh73 rfl dX9_even_59 (by decide) (Nat.le_of_ble_eq_true rfl) rfl rfl ?_
        refine aw_conv (σ' := setR (setR (setR (setR σ 22 (σ.1 20)) 25 (f)) 26 (g)) 20 (upd (evK (evN (σ.1 20) rr k) rr (nI (k + 1)) y) (33 + 37 * rr + (7 + y)) (nI (k + 1)))) (st' := []) (by first | rfl | (simp (disch := omega) only [setR_at, setR_twice, setL_at, setL_twice, setR_2, setL_1, setR_ne, setL_ne, ne_eq, Nat.reduceEqDiff, not_false_eq_true, pk_us, pk_un]; done) | ((try simp (disch := omega) only [setR_at, setR_twice, setL_at, setL_twice, setR_2, setL_1, setR_ne, setL_ne, ne_eq, Nat.reduceEqDiff, not_false_eq_true, pk_us, pk_un]); refine Prod.ext (funext fun z => ?_) rfl; simp only [setR]; (repeat' split) <;> first | rfl | (exfalso; omega))) rfl (by first | rfl | (simp (disch := omega) only [setR_at, setR_twice, setL_at, setL_twice, setR_2, setL_1, setR_ne, setL_ne, ne_eq, Nat.reduceEqDiff, not_false_eq_true, pk_us, pk_un]; done) | ((try simp (disch := omega) only [setR_at, setR_twice, setL_at, setL_twice, setR_2, setL_1, setR_ne, setL_ne, ne_eq, Nat.reduceEqDiff, not_false_eq_true, pk_us, pk_un]); refine Prod.ext (funext fun z => ?_) rfl; simp only [setR]; (repeat' split) <;> first | rfl | (exfalso; omega))) ?_
        refine aw_iincN (pc := 62) C 0 y [(5, .int (nI (y + 1))), (4, .int (nI (k + 1))), (3, .int (lsv (evV (σ.1 20) rr) (amin (evV (σ.1 20) rr) k))), (2, .int (eP (amin (evV (σ.1 20) rr) k))), (0, .ref 73), (1, .int (nI rr))] dX9_even_62 rfl rfl rfl (Nat.le_of_ble_eq_true rfl) rfl ?_
        refine aw_goto (pc := 65) C 43 dX9_even_65 (by decide) ?_
        refine aw_lvs C [0, 1, 2, 3, 4, 5] [(5, .int (nI (y + 1))), (4, .int (nI (k + 1))), (3, .int (lsv (evV (σ.1 20) rr) (amin (evV (σ.1 20) rr) k))), (2, .int (eP (amin (evV (σ.1 20) rr) k))), (0, .ref 73), (1, .int (nI rr))] rfl ?_
        exact aw_conv (σ' := setR (setR (setR (setR σ 22 (σ.1 20)) 25 (f)) 26 (g)) 20 (evK (evN (σ.1 20) rr k) rr (nI (k + 1)) (y + 1))) (lv' := [(5, .int (nI (y + 1))), (4, .int (nI (k + 1))), (3, .int (lsv (evV (σ.1 20) rr) (amin (evV (σ.1 20) rr) k))), (2, .int (eP (amin (evV (σ.1 20) rr) k))), (0, .ref 73), (1, .int (nI rr))]) (by rw [evK_s]) rfl rfl ih43
  · refine aw_aload_n (pc := 8) C 0 dX9_even_8 rfl ?_
    refine aw_ldc (pc := 9) C dX9_even_9 kc_X9_46 ?_
    refine aw_cVI (pc := 11) C (c_X9_finds _ (-100000001) 0 (by decide) (by decide)) lk_X9_48 sh73 rfl dX9_even_11 (by decide) (Nat.le_of_ble_eq_true rfl) rfl rfl ?_
    exact aw_iretP (pc := 14) C rfl dX9_even_14 (pm_of (an' := .inl 0) (by rw [sEven, if_neg (fun z => h5 (z))]) rfl rfl)
theorem c_X9_armFor (σ : St) (n : Nat) (hn : σ.1 20 2 = nI n) (hz : n ≤ 6) (r v : Int32) : AMet Y_X9_armFor [.ref 73, .int r, .int v] σ (PM σ (sArmFor (σ.1 20) n r v)) := by
  refine am_intro (by decide +kernel) (Nat.le_of_ble_eq_true rfl) (fun K C => ?_)
  refine aw_aload_n (pc := 0) C 0 dX9_armFor_0 rfl ?_
  refine aw_iload_n (pc := 1) C 1 dX9_armFor_1 rfl ?_
  refine aw_cVI (pc := 2) C (c_X9_isRunner _ n hn hz r ) lk_X9_91 sh73 rfl dX9_armFor_2 (by decide) (Nat.le_of_ble_eq_true rfl) rfl rfl ?_
  refine aw_if_eqB (pc := 5) C 20 dX9_armFor_5 (by decide) (fun h5 => ?_) (fun h5 => ?_)
  · refine aw_aload_n (pc := 20) C 0 dX9_armFor_20 rfl ?_
    refine aw_ldc (pc := 21) C dX9_armFor_21 kc_X9_46 ?_
    refine aw_cVI (pc := 23) C (c_X9_finds _ (-100000001) 0 (by decide) (by decide)) lk_X9_48 sh73 rfl dX9_armFor_23 (by decide) (Nat.le_of_ble_eq_true rfl) rfl rfl ?_
    exact aw_iretP (pc := 26) C rfl dX9_armFor_26 (pm_of (an' := .inl 0) (by rw [sArmFor, if_neg (fun z => h5 z.1)]) rfl rfl)
  · refine aw_iload_n (pc := 8) C 2 dX9_armFor_8 rfl ?_
    refine aw_i2l (pc := 9) C dX9_armFor_9 ?_
    refine aw_lconst (pc := 10) (v := 0) C dX9_armFor_10 rfl ?_
    refine aw_ldc2 (pc := 11) C dX9_armFor_11 kc_X9_206 ?_
    refine aw_cSI (pc := 14) C (c_X9_in _ v 0 9999999 _ _ _ rfl (by decide) (by decide)) lk_X9_54 dX9_armFor_14 (by decide) (Nat.le_of_ble_eq_true rfl) rfl rfl ?_
    refine aw_if_neB (pc := 17) C 27 dX9_armFor_17 (by decide) (fun h17 => ?_) (fun h17 => ?_)
    · obtain ⟨rr, rfl, hrr⟩ := rgR h5 hz
      refine aw_aload_n (pc := 27) C 0 dX9_armFor_27 rfl ?_
      refine aw_iload_n (pc := 28) C 1 dX9_armFor_28 rfl ?_
      refine aw_iconst (pc := 29) (v := 1) C dX9_armFor_29 rfl ?_
      refine aw_cVI (pc := 30) C (c_X9_is _ rr 1 (by omega)) lk_X9_62 sh73 rfl dX9_armFor_30 (by decide) (Nat.le_of_ble_eq_true rfl) rfl rfl ?_
      refine aw_istore_n (pc := 33) C [(3, .int (σ.1 20 (33 + 37 * rr + 1))), (0, .ref 73), (1, .int (nI rr)), (2, .int v)] dX9_armFor_33 (Nat.le_of_ble_eq_true rfl) rfl ?_
      refine aw_iconst (pc := 34) (v := (-1)) C dX9_armFor_34 rfl ?_
      refine aw_istore (pc := 35) C [(4, .int ((-1))), (3, .int (σ.1 20 (33 + 37 * rr + 1))), (0, .ref 73), (1, .int (nI rr)), (2, .int v)] dX9_armFor_35 (Nat.le_of_ble_eq_true rfl) rfl ?_
      refine aw_bipush (pc := 37) (v := 9) C dX9_armFor_37 rfl ?_
      refine aw_istore (pc := 39) C [(5, .int 9), (4, .int ((-1))), (3, .int (σ.1 20 (33 + 37 * rr + 1))), (0, .ref 73), (1, .int (nI rr)), (2, .int v)] dX9_armFor_39 (Nat.le_of_ble_eq_true rfl) rfl ?_
      refine aw_lvs C [0, 1, 2, 3, 4, 5] [(5, .int 9), (4, .int ((-1))), (3, .int (σ.1 20 (33 + 37 * rr + 1))), (0, .ref 73), (1, .int (nI rr)), (2, .int v)] rfl ?_
      refine aw_conv (σ' := setR (setR (setR σ 25 (σ.1 25)) 26 (σ.1 26)) 20 (σ.1 20)) (lv' := [(5, .int 9), (4, .int (oI (arD (σ.1 20) rr v (10 - 10)))), (3, .int (σ.1 20 (33 + 37 * rr + 1))), (0, .ref 73), (1, .int (nI rr)), (2, .int v)]) (by rw [setR_same, setR_same, setR_same]) rfl rfl ?_
      refine loop_dn (P := fun m => m ≤ 10 → ∀ (f g h : Fl) (hI : ∀ x, upd h (33 + 37 * rr + 1) x = upd (σ.1 20) (33 + 37 * rr + 1) x), AW _ K _ (setR (setR (setR σ 25 (f)) 26 (g)) 20 (h)) 41 [(5, .int (dI m)), (4, .int (oI (arD (σ.1 20) rr v (10 - m)))), (3, .int (σ.1 20 (33 + 37 * rr + 1))), (0, .ref 73), (1, .int (nI rr)), (2, .int v)] []) ?_ ?_ 10 (by omega) (σ.1 25) (σ.1 26) (σ.1 20) (fun _ => rfl)
      · intro hk41 f g h hI
        refine aw_iload (pc := 41) C 0 dX9_armFor_41 rfl ?_
        refine aw_if_lt (pc := 43) C 78 dX9_armFor_43 (by decide) (fun h43 => ?_) (fun h43 => absurd h43 (by decide))
        refine aw_aload_n (pc := 78) C 3 dX9_armFor_78 rfl ?_
        refine aw_iload_n (pc := 79) C 4 dX9_armFor_79 rfl ?_
        refine aw_iconst (pc := 80) (v := 1) C dX9_armFor_80 rfl ?_
        refine aw_iload_n (pc := 81) C 2 dX9_armFor_81 rfl ?_
        refine aw_cV0 (pc := 82) C (c_X9_makes _ rr 1 (σ.1 20 (33 + 37 * rr + 1)) (by omega)) lk_X9_77 sh73 rfl dX9_armFor_82 (by decide) (Nat.le_of_ble_eq_true rfl) rfl rfl ?_
        refine aw_conv (σ' := setR (setR (setR σ 25 (f)) 26 (g)) 20 (upd h (33 + 37 * rr + 1) (σ.1 20 (33 + 37 * rr + 1)))) (st' := []) (by first | rfl | (simp (disch := omega) only [setR_at, setR_twice, setL_at, setL_twice, setR_2, setL_1, setR_ne, setL_ne, ne_eq, Nat.reduceEqDiff, not_false_eq_true, pk_us, pk_un]; done) | ((try simp (disch := omega) only [setR_at, setR_twice, setL_at, setL_twice, setR_2, setL_1, setR_ne, setL_ne, ne_eq, Nat.reduceEqDiff, not_false_eq_true, pk_us, pk_un]); refine Prod.ext (funext fun z => ?_) rfl; simp only [setR]; (repeat' split) <;> first | rfl | (exfalso; omega))) rfl (by first | rfl | (simp (disch := omega) only [setR_at, setR_twice, setL_at, setL_twice, setR_2, setL_1, setR_ne, setL_ne, ne_eq, Nat.reduceEqDiff, not_false_eq_true, pk_us, pk_un]; done) | ((try simp (disch := omega) only [setR_at, setR_twice, setL_at, setL_twice, setR_2, setL_1, setR_ne, setL_ne, ne_eq, Nat.reduceEqDiff, not_false_eq_true, pk_us, pk_un]); refine Prod.ext (funext fun z => ?_) rfl; simp only [setR]; (repeat' split) <;> first | rfl | (exfalso; omega))) ?_
        refine aw_conv (σ' := setR (setR (setR σ 25 (f)) 26 (g)) 20 (σ.1 20)) (by rw [hI, upd_same]) rfl rfl ?_
        refine aw_aload_n (pc := 85) C 3 dX9_armFor_85 rfl ?_
        refine aw_iload (pc := 86) C 1 dX9_armFor_86 rfl ?_
        rcases hb : arD (σ.1 20) rr v (10 - 0) with _ | b
        · refine aw_top C ((-1)) rfl ?_
          refine aw_cVI (pc := 88) C (c_X9_orNone_m _  ) lk_X9_143 sh73 rfl dX9_armFor_88 (by decide) (Nat.le_of_ble_eq_true rfl) rfl rfl ?_
          refine aw_conv (σ' := setR (setR (setR (setR σ 25 (f)) 26 (g)) 20 (σ.1 20)) 24 (upd (σ.1 24) 3 (σ.1 24 3 + 1))) (st' := [.int ((-100000004))]) (by first | rfl | (simp (disch := omega) only [setR_at, setR_twice, setL_at, setL_twice, setR_2, setL_1, setR_ne, setL_ne, ne_eq, Nat.reduceEqDiff, not_false_eq_true, pk_us, pk_un]; done) | ((try simp (disch := omega) only [setR_at, setR_twice, setL_at, setL_twice, setR_2, setL_1, setR_ne, setL_ne, ne_eq, Nat.reduceEqDiff, not_false_eq_true, pk_us, pk_un]); refine Prod.ext (funext fun z => ?_) rfl; simp only [setR]; (repeat' split) <;> first | rfl | (exfalso; omega))) rfl (by first | rfl | (simp (disch := omega) only [setR_at, setR_twice, setL_at, setL_twice, setR_2, setL_1, setR_ne, setL_ne, ne_eq, Nat.reduceEqDiff, not_false_eq_true, pk_us, pk_un]; done) | ((try simp (disch := omega) only [setR_at, setR_twice, setL_at, setL_twice, setR_2, setL_1, setR_ne, setL_ne, ne_eq, Nat.reduceEqDiff, not_false_eq_true, pk_us, pk_un]); refine Prod.ext (funext fun z => ?_) rfl; simp only [setR]; (repeat' split) <;> first | rfl | (exfalso; omega))) ?_
          exact aw_iretP (pc := 91) C rfl dX9_armFor_91 (pm_scr (an' := .inl 3) (by simp only [sArmFor, if_pos (show isR n (nI rr) ∧ (0 ≤ v ∧ v ≤ 9999999) from ⟨h5, h17⟩), cl_nI (show rr < 2147483648 by omega), show arD (σ.1 20) rr v 10 = _ from hb]) rfl (fun r hr => by simp only [anS, setR]; (repeat' split) <;> first | rfl | (subst_vars; first | rfl | exact absurd (by decide) hr)) rfl)
        · have hbk := arD_lt hb
          refine aw_top C (nI (b)) rfl ?_
          refine aw_cVI (pc := 88) C (c_X9_orNone_n _  b (by omega)) lk_X9_143 sh73 rfl dX9_armFor_88 (by decide) (Nat.le_of_ble_eq_true rfl) rfl rfl ?_
          refine aw_conv (σ' := setR (setR (setR σ 25 (f)) 26 (g)) 20 (σ.1 20)) (st' := [.int (nI b)]) (by first | rfl | (simp (disch := omega) only [setR_at, setR_twice, setL_at, setL_twice, setR_2, setL_1, setR_ne, setL_ne, ne_eq, Nat.reduceEqDiff, not_false_eq_true, pk_us, pk_un]; done) | ((try simp (disch := omega) only [setR_at, setR_twice, setL_at, setL_twice, setR_2, setL_1, setR_ne, setL_ne, ne_eq, Nat.reduceEqDiff, not_false_eq_true, pk_us, pk_un]); refine Prod.ext (funext fun z => ?_) rfl; simp only [setR]; (repeat' split) <;> first | rfl | (exfalso; omega))) rfl (by first | rfl | (simp (disch := omega) only [setR_at, setR_twice, setL_at, setL_twice, setR_2, setL_1, setR_ne, setL_ne, ne_eq, Nat.reduceEqDiff, not_false_eq_true, pk_us, pk_un]; done) | ((try simp (disch := omega) only [setR_at, setR_twice, setL_at, setL_twice, setR_2, setL_1, setR_ne, setL_ne, ne_eq, Nat.reduceEqDiff, not_false_eq_true, pk_us, pk_un]); refine Prod.ext (funext fun z => ?_) rfl; simp only [setR]; (repeat' split) <;> first | rfl | (exfalso; omega))) ?_
          exact aw_iretP (pc := 91) C rfl dX9_armFor_91 (pm_scr (an' := .inr (nI (b), σ.1 20)) (by simp only [sArmFor, if_pos (show isR n (nI rr) ∧ (0 ≤ v ∧ v ≤ 9999999) from ⟨h5, h17⟩), cl_nI (show rr < 2147483648 by omega), show arD (σ.1 20) rr v 10 = _ from hb]) rfl (fun r hr => by simp only [anS, setR]; (repeat' split) <;> first | rfl | (subst_vars; first | rfl | exact absurd (by decide) hr)) rfl)
      · intro m ih41 hk41 f g h hI
        refine aw_iload (pc := 41) C 0 dX9_armFor_41 rfl ?_
        refine aw_if_lt (pc := 43) C 78 dX9_armFor_43 (by decide) (fun h43 => absurd h43 (nI_pos (by omega))) (fun h43 => ?_)
        refine aw_aload_n (pc := 46) C 3 dX9_armFor_46 rfl ?_
        refine aw_iload_n (pc := 47) C 4 dX9_armFor_47 rfl ?_
        refine aw_iconst (pc := 48) (v := 1) C dX9_armFor_48 rfl ?_
        refine aw_iload (pc := 49) C 0 dX9_armFor_49 rfl ?_
        refine aw_cV0 (pc := 51) C (c_X9_makes _ rr 1 (nI (m)) (by omega)) lk_X9_77 sh73 rfl dX9_armFor_51 (by decide) (Nat.le_of_ble_eq_true rfl) rfl rfl ?_
        refine aw_conv (σ' := setR (setR (setR σ 25 (f)) 26 (g)) 20 (upd h (33 + 37 * rr + 1) (nI (m)))) (st' := []) (by first | rfl | (simp (disch := omega) only [setR_at, setR_twice, setL_at, setL_twice, setR_2, setL_1, setR_ne, setL_ne, ne_eq, Nat.reduceEqDiff, not_false_eq_true, pk_us, pk_un]; done) | ((try simp (disch := omega) only [setR_at, setR_twice, setL_at, setL_twice, setR_2, setL_1, setR_ne, setL_ne, ne_eq, Nat.reduceEqDiff, not_false_eq_true, pk_us, pk_un]); refine Prod.ext (funext fun z => ?_) rfl; simp only [setR]; (repeat' split) <;> first | rfl | (exfalso; omega))) rfl (by first | rfl | (simp (disch := omega) only [setR_at, setR_twice, setL_at, setL_twice, setR_2, setL_1, setR_ne, setL_ne, ne_eq, Nat.reduceEqDiff, not_false_eq_true, pk_us, pk_un]; done) | ((try simp (disch := omega) only [setR_at, setR_twice, setL_at, setL_twice, setR_2, setL_1, setR_ne, setL_ne, ne_eq, Nat.reduceEqDiff, not_false_eq_true, pk_us, pk_un]); refine Prod.ext (funext fun z => ?_) rfl; simp only [setR]; (repeat' split) <;> first | rfl | (exfalso; omega))) ?_
        refine aw_aload_n (pc := 54) C 3 dX9_armFor_54 rfl ?_
        refine aw_iload_n (pc := 55) C 4 dX9_armFor_55 rfl ?_
        refine aw_callV (pc := 56) C (c_X9_meanOf _ rr (by omega)) lk_X9_203 sh73 rfl (by decide) rfl (Nat.le_of_ble_eq_true rfl) dX9_armFor_56 rfl (fun w s hq => ?_)
        obtain ⟨f56, g56, rfl, rfl⟩ := hq
        refine aw_conv (σ' := setR (setR (setR σ 25 (f56)) 26 (g56)) 20 (upd h (33 + 37 * rr + 1) (nI (m)))) (st' := [.int (meanS (upd h (33 + 37 * rr + 1) (nI (m))) rr)]) (by first | rfl | (simp (disch := omega) only [setR_at, setR_twice, setL_at, setL_twice, setR_2, setL_1, setR_ne, setL_ne, ne_eq, Nat.reduceEqDiff, not_false_eq_true, pk_us, pk_un]; done) | ((try simp (disch := omega) only [setR_at, setR_twice, setL_at, setL_twice, setR_2, setL_1, setR_ne, setL_ne, ne_eq, Nat.reduceEqDiff, not_false_eq_true, pk_us, pk_un]); refine Prod.ext (funext fun z => ?_) rfl; simp only [setR]; (repeat' split) <;> first | rfl | (exfalso; omega))) rfl (by first | rfl | (simp (disch := omega) only [setR_at, setR_twice, setL_at, setL_twice, setR_2, setL_1, setR_ne, setL_ne, ne_eq, Nat.reduceEqDiff, not_false_eq_true, pk_us, pk_un]; done) | ((try simp (disch := omega) only [setR_at, setR_twice, setL_at, setL_twice, setR_2, setL_1, setR_ne, setL_ne, ne_eq, Nat.reduceEqDiff, not_false_eq_true, pk_us, pk_un]); refine Prod.ext (funext fun z => ?_) rfl; simp only [setR]; (repeat' split) <;> first | rfl | (exfalso; omega))) ?_
        refine aw_top C (meanS (upd (σ.1 20) (33 + 37 * rr + 1) (nI m)) rr) (by rw [hI]) ?_
        refine aw_iload_n (pc := 59) C 5 dX9_armFor_59 rfl ?_
        refine aw_icmp_gt (pc := 60) C 68 dX9_armFor_60 (by decide) (fun h60 => ?_) (fun h60 => ?_)
        · refine aw_iload (pc := 68) C 1 dX9_armFor_68 rfl ?_
          refine aw_istore (pc := 70) C [(4, .int (oI (arD (σ.1 20) rr v (10 - (m + 1))))), (5, .int (nI m)), (3, .int (σ.1 20 (33 + 37 * rr + 1))), (0, .ref 73), (1, .int (nI rr)), (2, .int v)] dX9_armFor_70 (Nat.le_of_ble_eq_true rfl) rfl ?_
          refine aw_iinc (pc := 72) C 1 ((nI (m)) + (-1)) [(5, .int ((nI (m)) + (-1))), (4, .int (oI (arD (σ.1 20) rr v (10 - (m + 1))))), (3, .int (σ.1 20 (33 + 37 * rr + 1))), (0, .ref 73), (1, .int (nI rr)), (2, .int v)] dX9_armFor_72 rfl rfl (Nat.le_of_ble_eq_true rfl) rfl ?_
          refine aw_goto (pc := 75) C 41 dX9_armFor_75 (by decide) ?_
          refine aw_lvs C [0, 1, 2, 3, 4, 5] [(5, .int ((nI (m)) + (-1))), (4, .int (oI (arD (σ.1 20) rr v (10 - (m + 1))))), (3, .int (σ.1 20 (33 + 37 * rr + 1))), (0, .ref 73), (1, .int (nI rr)), (2, .int v)] rfl ?_
          exact aw_conv (σ' := setR (setR (setR σ 25 (f56)) 26 (g56)) 20 (upd h (33 + 37 * rr + 1) (nI (m)))) (lv' := [(5, .int (dI m)), (4, .int (oI (arD (σ.1 20) rr v (10 - m)))), (3, .int (σ.1 20 (33 + 37 * rr + 1))), (0, .ref 73), (1, .int (nI rr)), (2, .int v)]) rfl (by rw [dI_dec, arD_step (m := m) (by omega), if_pos h60]) rfl (ih41 (by omega) _ _ _ (fun x => by rw [upd_twice, hI]))
        · refine aw_iload (pc := 63) C 0 dX9_armFor_63 rfl ?_
          refine aw_goto (pc := 65) C 70 dX9_armFor_65 (by decide) ?_
          refine aw_istore (pc := 70) C [(4, .int (nI m)), (5, .int (nI m)), (3, .int (σ.1 20 (33 + 37 * rr + 1))), (0, .ref 73), (1, .int (nI rr)), (2, .int v)] dX9_armFor_70 (Nat.le_of_ble_eq_true rfl) rfl ?_
          refine aw_iinc (pc := 72) C 1 ((nI (m)) + (-1)) [(5, .int ((nI (m)) + (-1))), (4, .int (nI m)), (3, .int (σ.1 20 (33 + 37 * rr + 1))), (0, .ref 73), (1, .int (nI rr)), (2, .int v)] dX9_armFor_72 rfl rfl (Nat.le_of_ble_eq_true rfl) rfl ?_
          refine aw_goto (pc := 75) C 41 dX9_armFor_75 (by decide) ?_
          refine aw_lvs C [0, 1, 2, 3, 4, 5] [(5, .int ((nI (m)) + (-1))), (4, .int (nI m)), (3, .int (σ.1 20 (33 + 37 * rr + 1))), (0, .ref 73), (1, .int (nI rr)), (2, .int v)] rfl ?_
          exact aw_conv (σ' := setR (setR (setR σ 25 (f56)) 26 (g56)) 20 (upd h (33 + 37 * rr + 1) (nI (m)))) (lv' := [(5, .int (dI m)), (4, .int (oI (arD (σ.1 20) rr v (10 - m)))), (3, .int (σ.1 20 (33 + 37 * rr + 1))), (0, .ref 73), (1, .int (nI rr)), (2, .int v)]) rfl (by rw [dI_dec, arD_step (m := m) (by omega), if_neg h60]; rfl) rfl (ih41 (by omega) _ _ _ (fun x => by rw [upd_twice, hI]))
    · refine aw_aload_n (pc := 20) C 0 dX9_armFor_20 rfl ?_
      refine aw_ldc (pc := 21) C dX9_armFor_21 kc_X9_46 ?_
      refine aw_cVI (pc := 23) C (c_X9_finds _ (-100000001) 0 (by decide) (by decide)) lk_X9_48 sh73 rfl dX9_armFor_23 (by decide) (Nat.le_of_ble_eq_true rfl) rfl rfl ?_
      exact aw_iretP (pc := 26) C rfl dX9_armFor_26 (pm_of (an' := .inl 0) (by rw [sArmFor, if_neg (fun z => h17 z.2)]) rfl rfl)
