/-! the class: who runs, STEPS -/
theorem c_X2_whoRuns (σ : St) (j : Nat) (hj : j < 3) (n : Nat) (hok : Ok n (σ.1 j)) : AMet Y_X2_whoRuns [.ref (25 + 16 * j)] σ (fz (some (.int (oI (nxt (σ.1 j) n)))) (σ)) := by
  refine am_intro (by decide +kernel) (Nat.le_of_ble_eq_true rfl) (fun K C => ?_)
  have hz := hok.1
  have hn := hok.2.1
  refine aw_iconst (pc := 0) (v := (-1)) C dX2_whoRuns_0 rfl ?_
  refine aw_istore_n (pc := 1) C [(1, .int ((-1))), (0, .ref (25 + 16 * j))] dX2_whoRuns_1 (Nat.le_of_ble_eq_true rfl) rfl ?_
  refine aw_iconst (pc := 2) (v := 0) C dX2_whoRuns_2 rfl ?_
  refine aw_istore_n (pc := 3) C [(2, .int 0), (1, .int ((-1))), (0, .ref (25 + 16 * j))] dX2_whoRuns_3 (Nat.le_of_ble_eq_true rfl) rfl ?_
  refine aw_lvs C [0, 1, 2] [(2, .int 0), (1, .int ((-1))), (0, .ref (25 + 16 * j))] rfl ?_
  refine aw_conv (σ' := σ) (lv' := [(2, .int (nI 0)), (1, .int (oI (nxt (σ.1 j) 0))), (0, .ref (25 + 16 * j))]) rfl rfl rfl ?_
  refine loop_up (P := fun k => AW _ K _ (σ) 4 [(2, .int (nI k)), (1, .int (oI (nxt (σ.1 j) k))), (0, .ref (25 + 16 * j))] []) n ?_ ?_ 0 (by omega) 
  · refine aw_iload_n (pc := 4) C 0 dX2_whoRuns_4 rfl ?_
    refine aw_aload_n (pc := 5) C 2 dX2_whoRuns_5 rfl ?_
    refine aw_gld (pc := 6) C (σ.1 j 2) fl_X2_24 (shM hj) rfl dX2_whoRuns_6 rfl ?_
    refine aw_top C (nI (n)) hn ?_
    refine aw_icmp_geN (pc := 9) C n n 57 rfl rfl (by omega) (by omega) dX2_whoRuns_9 (by decide) (fun h9 => ?_) (fun h9 => absurd h9 (by omega))
    refine aw_iload_n (pc := 57) C 1 dX2_whoRuns_57 rfl ?_
    exact aw_iret (pc := 58) C rfl dX2_whoRuns_58 rfl rfl
  · intro k hk4 ih4 
    refine aw_iload_n (pc := 4) C 0 dX2_whoRuns_4 rfl ?_
    refine aw_aload_n (pc := 5) C 2 dX2_whoRuns_5 rfl ?_
    refine aw_gld (pc := 6) C (σ.1 j 2) fl_X2_24 (shM hj) rfl dX2_whoRuns_6 rfl ?_
    refine aw_top C (nI (n)) hn ?_
    refine aw_icmp_geN (pc := 9) C k n 57 rfl rfl (by omega) (by omega) dX2_whoRuns_9 (by decide) (fun h9 => absurd h9 (by omega)) (fun h9 => ?_)
    obtain ⟨yk, hyk30, hyk⟩ := (hok.2.2.2.2.1 k (by omega)).2.2.2.1
    refine aw_aload_n (pc := 12) C 2 dX2_whoRuns_12 rfl ?_
    refine aw_getR (pc := 13) C fl_X2_17 (shM hj) rfl dX2_whoRuns_13 ?_
    refine aw_iload_n (pc := 16) C 0 dX2_whoRuns_16 rfl ?_
    refine aw_aald (pc := 17) (k := k) C (shRs hj) dX2_whoRuns_17 rfl (by omega) ?_
    refine aw_cVI (pc := 18) C (c_X4_isHome _ j hj k (by omega) yk hyk hyk30) lk_X2_59 (shR hj (by omega)) rfl dX2_whoRuns_18 (by decide) (Nat.le_of_ble_eq_true rfl) rfl rfl ?_
    refine aw_if_neB (pc := 21) C 51 dX2_whoRuns_21 (by decide) (fun h21 => ?_) (fun h21 => ?_)
    · refine aw_iincN (pc := 51) C 0 k [(2, .int (nI (k + 1))), (1, .int (oI (nxt (σ.1 j) k))), (0, .ref (25 + 16 * j))] dX2_whoRuns_51 rfl rfl rfl (Nat.le_of_ble_eq_true rfl) rfl ?_
      refine aw_goto (pc := 54) C 4 dX2_whoRuns_54 (by decide) ?_
      refine aw_lvs C [0, 1, 2] [(2, .int (nI (k + 1))), (1, .int (oI (nxt (σ.1 j) k))), (0, .ref (25 + 16 * j))] rfl ?_
      exact aw_conv (σ' := σ) (lv' := [(2, .int (nI (k + 1))), (1, .int (oI (nxt (σ.1 j) (k + 1)))), (0, .ref (25 + 16 * j))]) rfl (by rw [nxt_home h21]) rfl ih4
    · rcases hb : nxt (σ.1 j) k with _ | b
      · refine aw_lvs C [0, 1, 2] [(2, .int (nI k)), (1, .int ((-1))), (0, .ref (25 + 16 * j))] rfl ?_
        refine aw_iload_n (pc := 24) C 1 dX2_whoRuns_24 rfl ?_
        refine aw_if_lt (pc := 25) C 49 dX2_whoRuns_25 (by decide) (fun h25 => ?_) (fun h25 => absurd h25 (by decide))
        refine aw_iload_n (pc := 49) C 0 dX2_whoRuns_49 rfl ?_
        refine aw_istore_n (pc := 50) C [(1, .int (nI k)), (2, .int (nI k)), (0, .ref (25 + 16 * j))] dX2_whoRuns_50 (Nat.le_of_ble_eq_true rfl) rfl ?_
        refine aw_iincN (pc := 51) C 1 k [(2, .int (nI (k + 1))), (1, .int (nI k)), (0, .ref (25 + 16 * j))] dX2_whoRuns_51 rfl rfl rfl (Nat.le_of_ble_eq_true rfl) rfl ?_
        refine aw_goto (pc := 54) C 4 dX2_whoRuns_54 (by decide) ?_
        refine aw_lvs C [0, 1, 2] [(2, .int (nI (k + 1))), (1, .int (nI k)), (0, .ref (25 + 16 * j))] rfl ?_
        exact aw_conv (σ' := σ) (lv' := [(2, .int (nI (k + 1))), (1, .int (oI (nxt (σ.1 j) (k + 1)))), (0, .ref (25 + 16 * j))]) rfl (by rw [nxt_none h21 hb]; rfl) rfl ih4
      · have hbk := (nxt_lt hb).1
        refine aw_lvs C [0, 1, 2] [(2, .int (nI k)), (1, .int (nI b)), (0, .ref (25 + 16 * j))] rfl ?_
        refine aw_iload_n (pc := 24) C 1 dX2_whoRuns_24 rfl ?_
        refine aw_if_lt (pc := 25) C 49 dX2_whoRuns_25 (by decide) (fun h25 => absurd h25 (nI_pos (by omega))) (fun h25 => ?_)
        refine aw_aload_n (pc := 28) C 2 dX2_whoRuns_28 rfl ?_
        refine aw_getR (pc := 29) C fl_X2_17 (shM hj) rfl dX2_whoRuns_29 ?_
        refine aw_iload_n (pc := 32) C 0 dX2_whoRuns_32 rfl ?_
        refine aw_aald (pc := 33) (k := k) C (shRs hj) dX2_whoRuns_33 rfl (by omega) ?_
        refine aw_gld (pc := 34) C (σ.1 j (33 + 37 * k + 4)) fl_X2_99 (shR hj (by omega)) rfl dX2_whoRuns_34 rfl ?_
        refine aw_aload_n (pc := 37) C 2 dX2_whoRuns_37 rfl ?_
        refine aw_getR (pc := 38) C fl_X2_17 (shM hj) rfl dX2_whoRuns_38 ?_
        refine aw_iload_n (pc := 41) C 1 dX2_whoRuns_41 rfl ?_
        refine aw_aald (pc := 42) (k := b) C (shRs hj) dX2_whoRuns_42 rfl (by omega) ?_
        refine aw_gld (pc := 43) C (σ.1 j (33 + 37 * b + 4)) fl_X2_99 (shR hj (by omega)) rfl dX2_whoRuns_43 rfl ?_
        refine aw_icmp_ge (pc := 46) C 51 dX2_whoRuns_46 (by decide) (fun h46 => ?_) (fun h46 => ?_)
        · refine aw_iincN (pc := 51) C 0 k [(2, .int (nI (k + 1))), (1, .int (nI b)), (0, .ref (25 + 16 * j))] dX2_whoRuns_51 rfl rfl rfl (Nat.le_of_ble_eq_true rfl) rfl ?_
          refine aw_goto (pc := 54) C 4 dX2_whoRuns_54 (by decide) ?_
          refine aw_lvs C [0, 1, 2] [(2, .int (nI (k + 1))), (1, .int (nI b)), (0, .ref (25 + 16 * j))] rfl ?_
          exact aw_conv (σ' := σ) (lv' := [(2, .int (nI (k + 1))), (1, .int (oI (nxt (σ.1 j) (k + 1)))), (0, .ref (25 + 16 * j))]) rfl (by rw [nxt_more h21 hb (Int32.not_lt.mpr h46)]; rfl) rfl ih4
        · refine aw_iload_n (pc := 49) C 0 dX2_whoRuns_49 rfl ?_
          refine aw_istore_n (pc := 50) C [(1, .int (nI k)), (2, .int (nI k)), (0, .ref (25 + 16 * j))] dX2_whoRuns_50 (Nat.le_of_ble_eq_true rfl) rfl ?_
          refine aw_iincN (pc := 51) C 1 k [(2, .int (nI (k + 1))), (1, .int (nI k)), (0, .ref (25 + 16 * j))] dX2_whoRuns_51 rfl rfl rfl (Nat.le_of_ble_eq_true rfl) rfl ?_
          refine aw_goto (pc := 54) C 4 dX2_whoRuns_54 (by decide) ?_
          refine aw_lvs C [0, 1, 2] [(2, .int (nI (k + 1))), (1, .int (nI k)), (0, .ref (25 + 16 * j))] rfl ?_
          exact aw_conv (σ' := σ) (lv' := [(2, .int (nI (k + 1))), (1, .int (oI (nxt (σ.1 j) (k + 1)))), (0, .ref (25 + 16 * j))]) rfl (by rw [nxt_less h21 hb (Int32.not_le.mp h46)]; rfl) rfl ih4
theorem c_X2_step (σ : St) (j : Nat) (hj : j < 3) (n : Nat) (hok : Ok n (σ.1 j)) (r : Nat) (hr : r < n) (y : Nat) (hy : fl (σ.1 j) r 3 = nI y) (hy3 : y < 30) : AMet Y_X2_step [.ref (25 + 16 * j), .int (nI r)] σ (fz (some (.int (stepD (σ.1 j) n r))) (setR σ j (stepM (σ.1 j) n r))) := by
  refine am_intro (by decide +kernel) (Nat.le_of_ble_eq_true rfl) (fun K C => ?_)
  have hz := hok.1
  have hn := hok.2.1
  obtain ⟨k, hk7, hk⟩ := (hok.2.2.2.2.1 r hr).1
  obtain ⟨g, hg5, hg⟩ := hok.2.2.2.1 y hy3
  obtain ⟨p, hp1, hp9, hp⟩ := (hok.2.2.2.2.1 r hr).2.2.2.2.2 y hy3
  obtain ⟨sh, hsh3, hsh⟩ := (hok.2.2.2.2.1 r hr).2.2.2.2.1
  refine aw_aload_n (pc := 0) C 0 dX2_step_0 rfl ?_
  refine aw_getR (pc := 1) C fl_X2_17 (shM hj) rfl dX2_step_1 ?_
  refine aw_iload_n (pc := 4) C 1 dX2_step_4 rfl ?_
  refine aw_aald (pc := 5) (k := r) C (shRs hj) dX2_step_5 rfl (by omega) ?_
  refine aw_astore_n (pc := 6) C [(2, .ref (29 + 16 * j + 2 * r)), (0, .ref (25 + 16 * j)), (1, .int (nI r))] dX2_step_6 (Nat.le_of_ble_eq_true rfl) rfl ?_
  refine aw_aload_n (pc := 7) C 1 dX2_step_7 rfl ?_
  refine aw_iload_n (pc := 8) C 2 dX2_step_8 rfl ?_
  refine aw_cVI (pc := 9) C (c_X2_oddsInStep _ j hj n hok r (by omega) y hy hy3) lk_X2_102 (shM hj) rfl dX2_step_9 (by decide) (Nat.le_of_ble_eq_true rfl) rfl rfl ?_
  refine aw_istore_n (pc := 12) C [(3, .int (oddsN (σ.1 j) n r)), (2, .ref (29 + 16 * j + 2 * r)), (0, .ref (25 + 16 * j)), (1, .int (nI r))] dX2_step_12 (Nat.le_of_ble_eq_true rfl) rfl ?_
  refine aw_iload_n (pc := 13) C 0 dX2_step_13 rfl ?_
  refine aw_if_le (pc := 14) C 32 dX2_step_14 (by decide) (fun h14 => ?_) (fun h14 => ?_)
  · refine aw_iconst (pc := 32) (v := 0) C dX2_step_32 rfl ?_
    refine aw_istore (pc := 33) C [(4, .int 0), (3, .int (oddsN (σ.1 j) n r)), (2, .ref (29 + 16 * j + 2 * r)), (0, .ref (25 + 16 * j)), (1, .int (nI r))] dX2_step_33 (Nat.le_of_ble_eq_true rfl) rfl ?_
    refine aw_aload_n (pc := 35) C 2 dX2_step_35 rfl ?_
    refine aw_dup (pc := 36) C dX2_step_36 rfl ?_
    refine aw_gld (pc := 37) C (σ.1 j (33 + 37 * r + 4)) fl_X2_99 (shR hj (by omega)) rfl dX2_step_37 rfl ?_
    refine aw_aload_n (pc := 40) C 2 dX2_step_40 rfl ?_
    refine aw_aload_n (pc := 41) C 2 dX2_step_41 rfl ?_
    refine aw_getR (pc := 42) C fl_X2_86 (shR hj (by omega)) rfl dX2_step_42 ?_
    refine aw_aload_n (pc := 45) C 2 dX2_step_45 rfl ?_
    refine aw_gld (pc := 46) C (σ.1 j (33 + 37 * r + 3)) fl_X2_56 (shR hj (by omega)) rfl dX2_step_46 rfl ?_
    refine aw_top C (nI (y)) hy ?_
    refine aw_ild (pc := 49) (k := y) C (33 + 37 * r + (7 + y)) (σ.1 j (33 + 37 * r + (7 + y))) (shP hj (by omega)) dX2_step_49 rfl (by omega) (by omega) rfl ?_
    refine aw_cVI (pc := 50) C (c_X4_takes _ j hj r (by omega) k hk hk7 (σ.1 j (33 + 37 * r + (7 + y)))) lk_X2_108 (shR hj (by omega)) rfl dX2_step_50 (by decide) (Nat.le_of_ble_eq_true rfl) rfl rfl ?_
    refine aw_iadd (pc := 53) C dX2_step_53 ?_
    refine aw_pst (pc := 54) C (setR σ j (upd (σ.1 j) (33 + 37 * r + 4) ((σ.1 j (33 + 37 * r + 4)) + (sTakes (σ.1 j (33 + 37 * r + 0)) (σ.1 j (33 + 37 * r + (7 + y))))))) fp_X2_99 (shR hj (by omega)) rfl dX2_step_54 rfl ?_
    refine aw_aload_n (pc := 57) C 2 dX2_step_57 rfl ?_
    refine aw_dup (pc := 58) C dX2_step_58 rfl ?_
    refine aw_gld (pc := 59) C (σ.1 j (33 + 37 * r + 3)) fl_X2_56 (shR hj (by omega)) rfl dX2_step_59 (by first | with_reducible rfl | (simp (disch := omega) only [setR_at, setR_twice, setL_at, setL_twice, setR_2, setL_1, setR_ne, setL_ne, ne_eq, Nat.reduceEqDiff, not_false_eq_true, pk_us, pk_un]; done) | ((try simp (disch := omega) only [setR_at, setR_twice, setL_at, setL_twice, setR_2, setL_1, setR_ne, setL_ne, ne_eq, Nat.reduceEqDiff, not_false_eq_true, pk_us, pk_un]); refine Prod.ext (funext fun z => ?_) rfl; simp only [setR]; (repeat' split) <;> first | with_reducible rfl | (exfalso; omega)) | rfl) ?_
    refine aw_top C (nI (y)) hy ?_
    refine aw_iconst (pc := 62) (v := 1) C dX2_step_62 rfl ?_
    refine aw_iaddN (pc := 63) C y 1 rfl rfl dX2_step_63 ?_
    refine aw_pst (pc := 64) C (setR σ j (upd (upd (σ.1 j) (33 + 37 * r + 4) ((σ.1 j (33 + 37 * r + 4)) + (sTakes (σ.1 j (33 + 37 * r + 0)) (σ.1 j (33 + 37 * r + (7 + y)))))) (33 + 37 * r + 3) (nI (y + 1)))) fp_X2_56 (shR hj (by omega)) rfl dX2_step_64 (by first | with_reducible rfl | (simp (disch := omega) only [setR_at, setR_twice, setL_at, setL_twice, setR_2, setL_1, setR_ne, setL_ne, ne_eq, Nat.reduceEqDiff, not_false_eq_true, pk_us, pk_un]; done) | ((try simp (disch := omega) only [setR_at, setR_twice, setL_at, setL_twice, setR_2, setL_1, setR_ne, setL_ne, ne_eq, Nat.reduceEqDiff, not_false_eq_true, pk_us, pk_un]); refine Prod.ext (funext fun z => ?_) rfl; simp only [setR]; (repeat' split) <;> first | with_reducible rfl | (exfalso; omega)) | rfl) ?_
    refine aw_iload (pc := 67) C 0 dX2_step_67 rfl ?_
    refine aw_if_eq (pc := 69) C 102 dX2_step_69 (by decide) (fun h69 => ?_) (fun h69 => absurd h69 (by decide))
    refine aw_aload_n (pc := 102) C 2 dX2_step_102 rfl ?_
    refine aw_iconst (pc := 103) (v := 0) C dX2_step_103 rfl ?_
    refine aw_aload_n (pc := 104) C 2 dX2_step_104 rfl ?_
    refine aw_gld (pc := 105) C (σ.1 j (33 + 37 * r + 5)) fl_X2_89 (shR hj (by omega)) rfl dX2_step_105 (by first | with_reducible rfl | (simp (disch := omega) only [setR_at, setR_twice, setL_at, setL_twice, setR_2, setL_1, setR_ne, setL_ne, ne_eq, Nat.reduceEqDiff, not_false_eq_true, pk_us, pk_un]; done) | ((try simp (disch := omega) only [setR_at, setR_twice, setL_at, setL_twice, setR_2, setL_1, setR_ne, setL_ne, ne_eq, Nat.reduceEqDiff, not_false_eq_true, pk_us, pk_un]); refine Prod.ext (funext fun z => ?_) rfl; simp only [setR]; (repeat' split) <;> first | with_reducible rfl | (exfalso; omega)) | rfl) ?_
    refine aw_iconst (pc := 108) (v := 1) C dX2_step_108 rfl ?_
    refine aw_isub (pc := 109) C dX2_step_109 ?_
    refine aw_mmax (pc := 110) C lk_X2_83 (by decide) (Nat.le_of_ble_eq_true rfl) dX2_step_110 ?_
    refine aw_top C (if 0 < σ.1 j (33 + 37 * r + 5) then σ.1 j (33 + 37 * r + 5) - 1 else 0) (by rw [show σ.1 j (33 + 37 * r + 5) = nI sh from hsh]; exact shakC hsh3) ?_
    refine aw_pst (pc := 113) C (setR σ j (upd (upd (upd (σ.1 j) (33 + 37 * r + 4) ((σ.1 j (33 + 37 * r + 4)) + (sTakes (σ.1 j (33 + 37 * r + 0)) (σ.1 j (33 + 37 * r + (7 + y)))))) (33 + 37 * r + 3) (nI (y + 1))) (33 + 37 * r + 5) (if 0 < σ.1 j (33 + 37 * r + 5) then σ.1 j (33 + 37 * r + 5) - 1 else 0))) fp_X2_89 (shR hj (by omega)) rfl dX2_step_113 (by first | with_reducible rfl | (simp (disch := omega) only [setR_at, setR_twice, setL_at, setL_twice, setR_2, setL_1, setR_ne, setL_ne, ne_eq, Nat.reduceEqDiff, not_false_eq_true, pk_us, pk_un]; done) | ((try simp (disch := omega) only [setR_at, setR_twice, setL_at, setL_twice, setR_2, setL_1, setR_ne, setL_ne, ne_eq, Nat.reduceEqDiff, not_false_eq_true, pk_us, pk_un]); refine Prod.ext (funext fun z => ?_) rfl; simp only [setR]; (repeat' split) <;> first | with_reducible rfl | (exfalso; omega)) | rfl) ?_
    refine aw_iconst (pc := 116) (v := 0) C dX2_step_116 rfl ?_
    exact aw_iret (pc := 117) C rfl dX2_step_117 (by have hd : ¬ dropP (σ.1 j) n r := (fun z => Int32.not_lt.mpr h14 z.1); rw [stepD, if_neg hd]) (by have hd : ¬ dropP (σ.1 j) n r := (fun z => Int32.not_lt.mpr h14 z.1); refine congrArg (setR σ j) ?_; simp only [stepM, drawn, if_neg hd, if_neg (Int32.not_lt.mpr h14), hy, nI_1, cl_nI (show y < 2147483648 by omega), add0]; funext z; simp only [upd]; (repeat' split) <;> first | with_reducible rfl | (exfalso; omega) | (subst_vars; with_reducible rfl))
  · refine aw_aload_n (pc := 17) C 2 dX2_step_17 rfl ?_
    refine aw_cVI (pc := 18) C (c_X2_draw _ j hj ) lk_X2_105 (shM hj) rfl dX2_step_18 (by decide) (Nat.le_of_ble_eq_true rfl) rfl rfl ?_
    refine aw_bipush (pc := 21) (v := 24) C dX2_step_21 rfl ?_
    refine aw_irem (pc := 23) C dX2_step_23 (by decide) ?_
    refine aw_iload_n (pc := 24) C 0 dX2_step_24 rfl ?_
    refine aw_icmp_ge (pc := 25) C 32 dX2_step_25 (by decide) (fun h25 => ?_) (fun h25 => ?_)
    · refine aw_iconst (pc := 32) (v := 0) C dX2_step_32 rfl ?_
      refine aw_istore (pc := 33) C [(4, .int 0), (3, .int (oddsN (σ.1 j) n r)), (2, .ref (29 + 16 * j + 2 * r)), (0, .ref (25 + 16 * j)), (1, .int (nI r))] dX2_step_33 (Nat.le_of_ble_eq_true rfl) rfl ?_
      refine aw_aload_n (pc := 35) C 2 dX2_step_35 rfl ?_
      refine aw_dup (pc := 36) C dX2_step_36 rfl ?_
      refine aw_gld (pc := 37) C (σ.1 j (33 + 37 * r + 4)) fl_X2_99 (shR hj (by omega)) rfl dX2_step_37 (by first | with_reducible rfl | (simp (disch := omega) only [setR_at, setR_twice, setL_at, setL_twice, setR_2, setL_1, setR_ne, setL_ne, ne_eq, Nat.reduceEqDiff, not_false_eq_true, pk_us, pk_un]; done) | ((try simp (disch := omega) only [setR_at, setR_twice, setL_at, setL_twice, setR_2, setL_1, setR_ne, setL_ne, ne_eq, Nat.reduceEqDiff, not_false_eq_true, pk_us, pk_un]); refine Prod.ext (funext fun z => ?_) rfl; simp only [setR]; (repeat' split) <;> first | with_reducible rfl | (exfalso; omega)) | rfl) ?_
      refine aw_aload_n (pc := 40) C 2 dX2_step_40 rfl ?_
      refine aw_aload_n (pc := 41) C 2 dX2_step_41 rfl ?_
      refine aw_getR (pc := 42) C fl_X2_86 (shR hj (by omega)) rfl dX2_step_42 ?_
      refine aw_aload_n (pc := 45) C 2 dX2_step_45 rfl ?_
      refine aw_gld (pc := 46) C (σ.1 j (33 + 37 * r + 3)) fl_X2_56 (shR hj (by omega)) rfl dX2_step_46 (by first | with_reducible rfl | (simp (disch := omega) only [setR_at, setR_twice, setL_at, setL_twice, setR_2, setL_1, setR_ne, setL_ne, ne_eq, Nat.reduceEqDiff, not_false_eq_true, pk_us, pk_un]; done) | ((try simp (disch := omega) only [setR_at, setR_twice, setL_at, setL_twice, setR_2, setL_1, setR_ne, setL_ne, ne_eq, Nat.reduceEqDiff, not_false_eq_true, pk_us, pk_un]); refine Prod.ext (funext fun z => ?_) rfl; simp only [setR]; (repeat' split) <;> first | with_reducible rfl | (exfalso; omega)) | rfl) ?_
      refine aw_top C (nI (y)) hy ?_
      refine aw_ild (pc := 49) (k := y) C (33 + 37 * r + (7 + y)) (σ.1 j (33 + 37 * r + (7 + y))) (shP hj (by omega)) dX2_step_49 rfl (by omega) (by omega) (by first | with_reducible rfl | (simp (disch := omega) only [setR_at, setR_twice, setL_at, setL_twice, setR_2, setL_1, setR_ne, setL_ne, ne_eq, Nat.reduceEqDiff, not_false_eq_true, pk_us, pk_un]; done) | ((try simp (disch := omega) only [setR_at, setR_twice, setL_at, setL_twice, setR_2, setL_1, setR_ne, setL_ne, ne_eq, Nat.reduceEqDiff, not_false_eq_true, pk_us, pk_un]); refine Prod.ext (funext fun z => ?_) rfl; simp only [setR]; (repeat' split) <;> first | with_reducible rfl | (exfalso; omega)) | rfl) ?_
      refine aw_cVI (pc := 50) C (c_X4_takes _ j hj r (by omega) k (by simp (disch := omega) only [setR_at, setR_twice, setL_at, setL_twice, setR_2, setL_1, setR_ne, setL_ne, ne_eq, Nat.reduceEqDiff, not_false_eq_true, pk_us, pk_un]; exact hk) hk7 (σ.1 j (33 + 37 * r + (7 + y)))) lk_X2_108 (shR hj (by omega)) rfl dX2_step_50 (by decide) (Nat.le_of_ble_eq_true rfl) rfl rfl ?_
      refine aw_conv (σ' := setR σ j (upd (σ.1 j) 1 (drawZ (σ.1 j)))) (st' := [.int (sTakes (σ.1 j (33 + 37 * r + 0)) (σ.1 j (33 + 37 * r + (7 + y)))), .int (σ.1 j (33 + 37 * r + 4)), .ref (29 + 16 * j + 2 * r)]) (by first | with_reducible rfl | (simp (disch := omega) only [setR_at, setR_twice, setL_at, setL_twice, setR_2, setL_1, setR_ne, setL_ne, ne_eq, Nat.reduceEqDiff, not_false_eq_true, pk_us, pk_un]; done) | ((try simp (disch := omega) only [setR_at, setR_twice, setL_at, setL_twice, setR_2, setL_1, setR_ne, setL_ne, ne_eq, Nat.reduceEqDiff, not_false_eq_true, pk_us, pk_un]); refine Prod.ext (funext fun z => ?_) rfl; simp only [setR]; (repeat' split) <;> first | with_reducible rfl | (exfalso; omega)) | rfl) rfl (by first | with_reducible rfl | (simp (disch := omega) only [setR_at, setR_twice, setL_at, setL_twice, setR_2, setL_1, setR_ne, setL_ne, ne_eq, Nat.reduceEqDiff, not_false_eq_true, pk_us, pk_un]; done) | ((try simp (disch := omega) only [setR_at, setR_twice, setL_at, setL_twice, setR_2, setL_1, setR_ne, setL_ne, ne_eq, Nat.reduceEqDiff, not_false_eq_true, pk_us, pk_un]); refine Prod.ext (funext fun z => ?_) rfl; simp only [setR]; (repeat' split) <;> first | with_reducible rfl | (exfalso; omega)) | rfl) ?_
      refine aw_iadd (pc := 53) C dX2_step_53 ?_
      refine aw_pst (pc := 54) C (setR σ j (upd (upd (σ.1 j) 1 (drawZ (σ.1 j))) (33 + 37 * r + 4) ((σ.1 j (33 + 37 * r + 4)) + (sTakes (σ.1 j (33 + 37 * r + 0)) (σ.1 j (33 + 37 * r + (7 + y))))))) fp_X2_99 (shR hj (by omega)) rfl dX2_step_54 (by first | with_reducible rfl | (simp (disch := omega) only [setR_at, setR_twice, setL_at, setL_twice, setR_2, setL_1, setR_ne, setL_ne, ne_eq, Nat.reduceEqDiff, not_false_eq_true, pk_us, pk_un]; done) | ((try simp (disch := omega) only [setR_at, setR_twice, setL_at, setL_twice, setR_2, setL_1, setR_ne, setL_ne, ne_eq, Nat.reduceEqDiff, not_false_eq_true, pk_us, pk_un]); refine Prod.ext (funext fun z => ?_) rfl; simp only [setR]; (repeat' split) <;> first | with_reducible rfl | (exfalso; omega)) | rfl) ?_
      refine aw_aload_n (pc := 57) C 2 dX2_step_57 rfl ?_
      refine aw_dup (pc := 58) C dX2_step_58 rfl ?_
      refine aw_gld (pc := 59) C (σ.1 j (33 + 37 * r + 3)) fl_X2_56 (shR hj (by omega)) rfl dX2_step_59 (by first | with_reducible rfl | (simp (disch := omega) only [setR_at, setR_twice, setL_at, setL_twice, setR_2, setL_1, setR_ne, setL_ne, ne_eq, Nat.reduceEqDiff, not_false_eq_true, pk_us, pk_un]; done) | ((try simp (disch := omega) only [setR_at, setR_twice, setL_at, setL_twice, setR_2, setL_1, setR_ne, setL_ne, ne_eq, Nat.reduceEqDiff, not_false_eq_true, pk_us, pk_un]); refine Prod.ext (funext fun z => ?_) rfl; simp only [setR]; (repeat' split) <;> first | with_reducible rfl | (exfalso; omega)) | rfl) ?_
      refine aw_top C (nI (y)) hy ?_
      refine aw_iconst (pc := 62) (v := 1) C dX2_step_62 rfl ?_
      refine aw_iaddN (pc := 63) C y 1 rfl rfl dX2_step_63 ?_
      refine aw_pst (pc := 64) C (setR σ j (upd (upd (upd (σ.1 j) 1 (drawZ (σ.1 j))) (33 + 37 * r + 4) ((σ.1 j (33 + 37 * r + 4)) + (sTakes (σ.1 j (33 + 37 * r + 0)) (σ.1 j (33 + 37 * r + (7 + y)))))) (33 + 37 * r + 3) (nI (y + 1)))) fp_X2_56 (shR hj (by omega)) rfl dX2_step_64 (by first | with_reducible rfl | (simp (disch := omega) only [setR_at, setR_twice, setL_at, setL_twice, setR_2, setL_1, setR_ne, setL_ne, ne_eq, Nat.reduceEqDiff, not_false_eq_true, pk_us, pk_un]; done) | ((try simp (disch := omega) only [setR_at, setR_twice, setL_at, setL_twice, setR_2, setL_1, setR_ne, setL_ne, ne_eq, Nat.reduceEqDiff, not_false_eq_true, pk_us, pk_un]); refine Prod.ext (funext fun z => ?_) rfl; simp only [setR]; (repeat' split) <;> first | with_reducible rfl | (exfalso; omega)) | rfl) ?_
      refine aw_iload (pc := 67) C 0 dX2_step_67 rfl ?_
      refine aw_if_eq (pc := 69) C 102 dX2_step_69 (by decide) (fun h69 => ?_) (fun h69 => absurd h69 (by decide))
      refine aw_aload_n (pc := 102) C 2 dX2_step_102 rfl ?_
      refine aw_iconst (pc := 103) (v := 0) C dX2_step_103 rfl ?_
      refine aw_aload_n (pc := 104) C 2 dX2_step_104 rfl ?_
      refine aw_gld (pc := 105) C (σ.1 j (33 + 37 * r + 5)) fl_X2_89 (shR hj (by omega)) rfl dX2_step_105 (by first | with_reducible rfl | (simp (disch := omega) only [setR_at, setR_twice, setL_at, setL_twice, setR_2, setL_1, setR_ne, setL_ne, ne_eq, Nat.reduceEqDiff, not_false_eq_true, pk_us, pk_un]; done) | ((try simp (disch := omega) only [setR_at, setR_twice, setL_at, setL_twice, setR_2, setL_1, setR_ne, setL_ne, ne_eq, Nat.reduceEqDiff, not_false_eq_true, pk_us, pk_un]); refine Prod.ext (funext fun z => ?_) rfl; simp only [setR]; (repeat' split) <;> first | with_reducible rfl | (exfalso; omega)) | rfl) ?_
      refine aw_iconst (pc := 108) (v := 1) C dX2_step_108 rfl ?_
      refine aw_isub (pc := 109) C dX2_step_109 ?_
      refine aw_mmax (pc := 110) C lk_X2_83 (by decide) (Nat.le_of_ble_eq_true rfl) dX2_step_110 ?_
      refine aw_top C (if 0 < σ.1 j (33 + 37 * r + 5) then σ.1 j (33 + 37 * r + 5) - 1 else 0) (by rw [show σ.1 j (33 + 37 * r + 5) = nI sh from hsh]; exact shakC hsh3) ?_
      refine aw_pst (pc := 113) C (setR σ j (upd (upd (upd (upd (σ.1 j) 1 (drawZ (σ.1 j))) (33 + 37 * r + 4) ((σ.1 j (33 + 37 * r + 4)) + (sTakes (σ.1 j (33 + 37 * r + 0)) (σ.1 j (33 + 37 * r + (7 + y)))))) (33 + 37 * r + 3) (nI (y + 1))) (33 + 37 * r + 5) (if 0 < σ.1 j (33 + 37 * r + 5) then σ.1 j (33 + 37 * r + 5) - 1 else 0))) fp_X2_89 (shR hj (by omega)) rfl dX2_step_113 (by first | with_reducible rfl | (simp (disch := omega) only [setR_at, setR_twice, setL_at, setL_twice, setR_2, setL_1, setR_ne, setL_ne, ne_eq, Nat.reduceEqDiff, not_false_eq_true, pk_us, pk_un]; done) | ((try simp (disch := omega) only [setR_at, setR_twice, setL_at, setL_twice, setR_2, setL_1, setR_ne, setL_ne, ne_eq, Nat.reduceEqDiff, not_false_eq_true, pk_us, pk_un]); refine Prod.ext (funext fun z => ?_) rfl; simp only [setR]; (repeat' split) <;> first | with_reducible rfl | (exfalso; omega)) | rfl) ?_
      refine aw_iconst (pc := 116) (v := 0) C dX2_step_116 rfl ?_
      exact aw_iret (pc := 117) C rfl dX2_step_117 (by have hd : ¬ dropP (σ.1 j) n r := (fun z => Int32.not_lt.mpr h25 z.2); rw [stepD, if_neg hd]) (by have hd : ¬ dropP (σ.1 j) n r := (fun z => Int32.not_lt.mpr h25 z.2); refine congrArg (setR σ j) ?_; simp only [stepM, drawn, if_neg hd, if_pos (Int32.not_le.mp h14), hy, nI_1, cl_nI (show y < 2147483648 by omega), add0]; funext z; simp only [upd]; (repeat' split) <;> first | with_reducible rfl | (exfalso; omega) | (subst_vars; with_reducible rfl))
    · refine aw_iconst (pc := 28) (v := 1) C dX2_step_28 rfl ?_
      refine aw_goto (pc := 29) C 33 dX2_step_29 (by decide) ?_
      refine aw_istore (pc := 33) C [(4, .int 1), (3, .int (oddsN (σ.1 j) n r)), (2, .ref (29 + 16 * j + 2 * r)), (0, .ref (25 + 16 * j)), (1, .int (nI r))] dX2_step_33 (Nat.le_of_ble_eq_true rfl) rfl ?_
      refine aw_aload_n (pc := 35) C 2 dX2_step_35 rfl ?_
      refine aw_dup (pc := 36) C dX2_step_36 rfl ?_
      refine aw_gld (pc := 37) C (σ.1 j (33 + 37 * r + 4)) fl_X2_99 (shR hj (by omega)) rfl dX2_step_37 (by first | with_reducible rfl | (simp (disch := omega) only [setR_at, setR_twice, setL_at, setL_twice, setR_2, setL_1, setR_ne, setL_ne, ne_eq, Nat.reduceEqDiff, not_false_eq_true, pk_us, pk_un]; done) | ((try simp (disch := omega) only [setR_at, setR_twice, setL_at, setL_twice, setR_2, setL_1, setR_ne, setL_ne, ne_eq, Nat.reduceEqDiff, not_false_eq_true, pk_us, pk_un]); refine Prod.ext (funext fun z => ?_) rfl; simp only [setR]; (repeat' split) <;> first | with_reducible rfl | (exfalso; omega)) | rfl) ?_
      refine aw_aload_n (pc := 40) C 2 dX2_step_40 rfl ?_
      refine aw_aload_n (pc := 41) C 2 dX2_step_41 rfl ?_
      refine aw_getR (pc := 42) C fl_X2_86 (shR hj (by omega)) rfl dX2_step_42 ?_
      refine aw_aload_n (pc := 45) C 2 dX2_step_45 rfl ?_
      refine aw_gld (pc := 46) C (σ.1 j (33 + 37 * r + 3)) fl_X2_56 (shR hj (by omega)) rfl dX2_step_46 (by first | with_reducible rfl | (simp (disch := omega) only [setR_at, setR_twice, setL_at, setL_twice, setR_2, setL_1, setR_ne, setL_ne, ne_eq, Nat.reduceEqDiff, not_false_eq_true, pk_us, pk_un]; done) | ((try simp (disch := omega) only [setR_at, setR_twice, setL_at, setL_twice, setR_2, setL_1, setR_ne, setL_ne, ne_eq, Nat.reduceEqDiff, not_false_eq_true, pk_us, pk_un]); refine Prod.ext (funext fun z => ?_) rfl; simp only [setR]; (repeat' split) <;> first | with_reducible rfl | (exfalso; omega)) | rfl) ?_
      refine aw_top C (nI (y)) hy ?_
      refine aw_ild (pc := 49) (k := y) C (33 + 37 * r + (7 + y)) (σ.1 j (33 + 37 * r + (7 + y))) (shP hj (by omega)) dX2_step_49 rfl (by omega) (by omega) (by first | with_reducible rfl | (simp (disch := omega) only [setR_at, setR_twice, setL_at, setL_twice, setR_2, setL_1, setR_ne, setL_ne, ne_eq, Nat.reduceEqDiff, not_false_eq_true, pk_us, pk_un]; done) | ((try simp (disch := omega) only [setR_at, setR_twice, setL_at, setL_twice, setR_2, setL_1, setR_ne, setL_ne, ne_eq, Nat.reduceEqDiff, not_false_eq_true, pk_us, pk_un]); refine Prod.ext (funext fun z => ?_) rfl; simp only [setR]; (repeat' split) <;> first | with_reducible rfl | (exfalso; omega)) | rfl) ?_
      refine aw_cVI (pc := 50) C (c_X4_takes _ j hj r (by omega) k (by simp (disch := omega) only [setR_at, setR_twice, setL_at, setL_twice, setR_2, setL_1, setR_ne, setL_ne, ne_eq, Nat.reduceEqDiff, not_false_eq_true, pk_us, pk_un]; exact hk) hk7 (σ.1 j (33 + 37 * r + (7 + y)))) lk_X2_108 (shR hj (by omega)) rfl dX2_step_50 (by decide) (Nat.le_of_ble_eq_true rfl) rfl rfl ?_
      refine aw_conv (σ' := setR σ j (upd (σ.1 j) 1 (drawZ (σ.1 j)))) (st' := [.int (sTakes (σ.1 j (33 + 37 * r + 0)) (σ.1 j (33 + 37 * r + (7 + y)))), .int (σ.1 j (33 + 37 * r + 4)), .ref (29 + 16 * j + 2 * r)]) (by first | with_reducible rfl | (simp (disch := omega) only [setR_at, setR_twice, setL_at, setL_twice, setR_2, setL_1, setR_ne, setL_ne, ne_eq, Nat.reduceEqDiff, not_false_eq_true, pk_us, pk_un]; done) | ((try simp (disch := omega) only [setR_at, setR_twice, setL_at, setL_twice, setR_2, setL_1, setR_ne, setL_ne, ne_eq, Nat.reduceEqDiff, not_false_eq_true, pk_us, pk_un]); refine Prod.ext (funext fun z => ?_) rfl; simp only [setR]; (repeat' split) <;> first | with_reducible rfl | (exfalso; omega)) | rfl) rfl (by first | with_reducible rfl | (simp (disch := omega) only [setR_at, setR_twice, setL_at, setL_twice, setR_2, setL_1, setR_ne, setL_ne, ne_eq, Nat.reduceEqDiff, not_false_eq_true, pk_us, pk_un]; done) | ((try simp (disch := omega) only [setR_at, setR_twice, setL_at, setL_twice, setR_2, setL_1, setR_ne, setL_ne, ne_eq, Nat.reduceEqDiff, not_false_eq_true, pk_us, pk_un]); refine Prod.ext (funext fun z => ?_) rfl; simp only [setR]; (repeat' split) <;> first | with_reducible rfl | (exfalso; omega)) | rfl) ?_
      refine aw_iadd (pc := 53) C dX2_step_53 ?_
      refine aw_pst (pc := 54) C (setR σ j (upd (upd (σ.1 j) 1 (drawZ (σ.1 j))) (33 + 37 * r + 4) ((σ.1 j (33 + 37 * r + 4)) + (sTakes (σ.1 j (33 + 37 * r + 0)) (σ.1 j (33 + 37 * r + (7 + y))))))) fp_X2_99 (shR hj (by omega)) rfl dX2_step_54 (by first | with_reducible rfl | (simp (disch := omega) only [setR_at, setR_twice, setL_at, setL_twice, setR_2, setL_1, setR_ne, setL_ne, ne_eq, Nat.reduceEqDiff, not_false_eq_true, pk_us, pk_un]; done) | ((try simp (disch := omega) only [setR_at, setR_twice, setL_at, setL_twice, setR_2, setL_1, setR_ne, setL_ne, ne_eq, Nat.reduceEqDiff, not_false_eq_true, pk_us, pk_un]); refine Prod.ext (funext fun z => ?_) rfl; simp only [setR]; (repeat' split) <;> first | with_reducible rfl | (exfalso; omega)) | rfl) ?_
      refine aw_aload_n (pc := 57) C 2 dX2_step_57 rfl ?_
      refine aw_dup (pc := 58) C dX2_step_58 rfl ?_
      refine aw_gld (pc := 59) C (σ.1 j (33 + 37 * r + 3)) fl_X2_56 (shR hj (by omega)) rfl dX2_step_59 (by first | with_reducible rfl | (simp (disch := omega) only [setR_at, setR_twice, setL_at, setL_twice, setR_2, setL_1, setR_ne, setL_ne, ne_eq, Nat.reduceEqDiff, not_false_eq_true, pk_us, pk_un]; done) | ((try simp (disch := omega) only [setR_at, setR_twice, setL_at, setL_twice, setR_2, setL_1, setR_ne, setL_ne, ne_eq, Nat.reduceEqDiff, not_false_eq_true, pk_us, pk_un]); refine Prod.ext (funext fun z => ?_) rfl; simp only [setR]; (repeat' split) <;> first | with_reducible rfl | (exfalso; omega)) | rfl) ?_
      refine aw_top C (nI (y)) hy ?_
      refine aw_iconst (pc := 62) (v := 1) C dX2_step_62 rfl ?_
      refine aw_iaddN (pc := 63) C y 1 rfl rfl dX2_step_63 ?_
      refine aw_pst (pc := 64) C (setR σ j (upd (upd (upd (σ.1 j) 1 (drawZ (σ.1 j))) (33 + 37 * r + 4) ((σ.1 j (33 + 37 * r + 4)) + (sTakes (σ.1 j (33 + 37 * r + 0)) (σ.1 j (33 + 37 * r + (7 + y)))))) (33 + 37 * r + 3) (nI (y + 1)))) fp_X2_56 (shR hj (by omega)) rfl dX2_step_64 (by first | with_reducible rfl | (simp (disch := omega) only [setR_at, setR_twice, setL_at, setL_twice, setR_2, setL_1, setR_ne, setL_ne, ne_eq, Nat.reduceEqDiff, not_false_eq_true, pk_us, pk_un]; done) | ((try simp (disch := omega) only [setR_at, setR_twice, setL_at, setL_twice, setR_2, setL_1, setR_ne, setL_ne, ne_eq, Nat.reduceEqDiff, not_false_eq_true, pk_us, pk_un]); refine Prod.ext (funext fun z => ?_) rfl; simp only [setR]; (repeat' split) <;> first | with_reducible rfl | (exfalso; omega)) | rfl) ?_
      refine aw_iload (pc := 67) C 0 dX2_step_67 rfl ?_
      refine aw_if_eq (pc := 69) C 102 dX2_step_69 (by decide) (fun h69 => absurd h69 (by decide)) (fun h69 => ?_)
      refine aw_aload_n (pc := 72) C 2 dX2_step_72 rfl ?_
      refine aw_dup (pc := 73) C dX2_step_73 rfl ?_
      refine aw_gld (pc := 74) C (σ.1 j (33 + 37 * r + 6)) fl_X2_111 (shR hj (by omega)) rfl dX2_step_74 (by first | with_reducible rfl | (simp (disch := omega) only [setR_at, setR_twice, setL_at, setL_twice, setR_2, setL_1, setR_ne, setL_ne, ne_eq, Nat.reduceEqDiff, not_false_eq_true, pk_us, pk_un]; done) | ((try simp (disch := omega) only [setR_at, setR_twice, setL_at, setL_twice, setR_2, setL_1, setR_ne, setL_ne, ne_eq, Nat.reduceEqDiff, not_false_eq_true, pk_us, pk_un]); refine Prod.ext (funext fun z => ?_) rfl; simp only [setR]; (repeat' split) <;> first | with_reducible rfl | (exfalso; omega)) | rfl) ?_
      refine aw_iconst (pc := 77) (v := 1) C dX2_step_77 rfl ?_
      refine aw_iadd (pc := 78) C dX2_step_78 ?_
      refine aw_pst (pc := 79) C (setR σ j (upd (upd (upd (upd (σ.1 j) 1 (drawZ (σ.1 j))) (33 + 37 * r + 4) ((σ.1 j (33 + 37 * r + 4)) + (sTakes (σ.1 j (33 + 37 * r + 0)) (σ.1 j (33 + 37 * r + (7 + y)))))) (33 + 37 * r + 3) (nI (y + 1))) (33 + 37 * r + 6) ((σ.1 j (33 + 37 * r + 6)) + 1))) fp_X2_111 (shR hj (by omega)) rfl dX2_step_79 (by first | with_reducible rfl | (simp (disch := omega) only [setR_at, setR_twice, setL_at, setL_twice, setR_2, setL_1, setR_ne, setL_ne, ne_eq, Nat.reduceEqDiff, not_false_eq_true, pk_us, pk_un]; done) | ((try simp (disch := omega) only [setR_at, setR_twice, setL_at, setL_twice, setR_2, setL_1, setR_ne, setL_ne, ne_eq, Nat.reduceEqDiff, not_false_eq_true, pk_us, pk_un]); refine Prod.ext (funext fun z => ?_) rfl; simp only [setR]; (repeat' split) <;> first | with_reducible rfl | (exfalso; omega)) | rfl) ?_
      refine aw_aload_n (pc := 82) C 2 dX2_step_82 rfl ?_
      refine aw_dup (pc := 83) C dX2_step_83 rfl ?_
      refine aw_gld (pc := 84) C ((σ.1 j (33 + 37 * r + 4)) + (sTakes (σ.1 j (33 + 37 * r + 0)) (σ.1 j (33 + 37 * r + (7 + y))))) fl_X2_99 (shR hj (by omega)) rfl dX2_step_84 (by first | with_reducible rfl | (simp (disch := omega) only [setR_at, setR_twice, setL_at, setL_twice, setR_2, setL_1, setR_ne, setL_ne, ne_eq, Nat.reduceEqDiff, not_false_eq_true, pk_us, pk_un]; done) | ((try simp (disch := omega) only [setR_at, setR_twice, setL_at, setL_twice, setR_2, setL_1, setR_ne, setL_ne, ne_eq, Nat.reduceEqDiff, not_false_eq_true, pk_us, pk_un]); refine Prod.ext (funext fun z => ?_) rfl; simp only [setR]; (repeat' split) <;> first | with_reducible rfl | (exfalso; omega)) | rfl) ?_
      refine aw_aload_n (pc := 87) C 3 dX2_step_87 rfl ?_
      refine aw_gld (pc := 88) C (σ.1 j 0) fl_X2_28 (shM hj) rfl dX2_step_88 (by first | with_reducible rfl | (simp (disch := omega) only [setR_at, setR_twice, setL_at, setL_twice, setR_2, setL_1, setR_ne, setL_ne, ne_eq, Nat.reduceEqDiff, not_false_eq_true, pk_us, pk_un]; done) | ((try simp (disch := omega) only [setR_at, setR_twice, setL_at, setL_twice, setR_2, setL_1, setR_ne, setL_ne, ne_eq, Nat.reduceEqDiff, not_false_eq_true, pk_us, pk_un]); refine Prod.ext (funext fun z => ?_) rfl; simp only [setR]; (repeat' split) <;> first | with_reducible rfl | (exfalso; omega)) | rfl) ?_
      refine aw_iadd (pc := 91) C dX2_step_91 ?_
      refine aw_pst (pc := 92) C (setR σ j (upd (upd (upd (upd (upd (σ.1 j) 1 (drawZ (σ.1 j))) (33 + 37 * r + 4) ((σ.1 j (33 + 37 * r + 4)) + (sTakes (σ.1 j (33 + 37 * r + 0)) (σ.1 j (33 + 37 * r + (7 + y)))))) (33 + 37 * r + 3) (nI (y + 1))) (33 + 37 * r + 6) ((σ.1 j (33 + 37 * r + 6)) + 1)) (33 + 37 * r + 4) (((σ.1 j (33 + 37 * r + 4)) + (sTakes (σ.1 j (33 + 37 * r + 0)) (σ.1 j (33 + 37 * r + (7 + y))))) + (σ.1 j 0)))) fp_X2_99 (shR hj (by omega)) rfl dX2_step_92 (by first | with_reducible rfl | (simp (disch := omega) only [setR_at, setR_twice, setL_at, setL_twice, setR_2, setL_1, setR_ne, setL_ne, ne_eq, Nat.reduceEqDiff, not_false_eq_true, pk_us, pk_un]; done) | ((try simp (disch := omega) only [setR_at, setR_twice, setL_at, setL_twice, setR_2, setL_1, setR_ne, setL_ne, ne_eq, Nat.reduceEqDiff, not_false_eq_true, pk_us, pk_un]); refine Prod.ext (funext fun z => ?_) rfl; simp only [setR]; (repeat' split) <;> first | with_reducible rfl | (exfalso; omega)) | rfl) ?_
      refine aw_aload_n (pc := 95) C 2 dX2_step_95 rfl ?_
      refine aw_iconst (pc := 96) (v := 3) C dX2_step_96 rfl ?_
      refine aw_pst (pc := 97) C (setR σ j (upd (upd (upd (upd (upd (upd (σ.1 j) 1 (drawZ (σ.1 j))) (33 + 37 * r + 4) ((σ.1 j (33 + 37 * r + 4)) + (sTakes (σ.1 j (33 + 37 * r + 0)) (σ.1 j (33 + 37 * r + (7 + y)))))) (33 + 37 * r + 3) (nI (y + 1))) (33 + 37 * r + 6) ((σ.1 j (33 + 37 * r + 6)) + 1)) (33 + 37 * r + 4) (((σ.1 j (33 + 37 * r + 4)) + (sTakes (σ.1 j (33 + 37 * r + 0)) (σ.1 j (33 + 37 * r + (7 + y))))) + (σ.1 j 0))) (33 + 37 * r + 5) (3))) fp_X2_89 (shR hj (by omega)) rfl dX2_step_97 (by first | with_reducible rfl | (simp (disch := omega) only [setR_at, setR_twice, setL_at, setL_twice, setR_2, setL_1, setR_ne, setL_ne, ne_eq, Nat.reduceEqDiff, not_false_eq_true, pk_us, pk_un]; done) | ((try simp (disch := omega) only [setR_at, setR_twice, setL_at, setL_twice, setR_2, setL_1, setR_ne, setL_ne, ne_eq, Nat.reduceEqDiff, not_false_eq_true, pk_us, pk_un]); refine Prod.ext (funext fun z => ?_) rfl; simp only [setR]; (repeat' split) <;> first | with_reducible rfl | (exfalso; omega)) | rfl) ?_
      refine aw_iconst (pc := 100) (v := 1) C dX2_step_100 rfl ?_
      exact aw_iret (pc := 101) C rfl dX2_step_101 (by have hd : dropP (σ.1 j) n r := ⟨Int32.not_le.mp h14, Int32.not_le.mp h25⟩; rw [stepD, if_pos hd]) (by have hd : dropP (σ.1 j) n r := ⟨Int32.not_le.mp h14, Int32.not_le.mp h25⟩; refine congrArg (setR σ j) ?_; simp only [stepM, drawn, if_pos hd, if_pos (Int32.not_le.mp h14), hy, nI_1, cl_nI (show y < 2147483648 by omega)]; funext z; simp only [upd]; (repeat' split) <;> first | with_reducible rfl | (exfalso; omega) | (subst_vars; with_reducible rfl))
