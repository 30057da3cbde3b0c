/-! the class: a MEET -/
theorem c_X2_nervesOf (σ : St) (j : Nat) (hj : j < 3) (n : Nat) (hok : Ok n (σ.1 j)) (r : Nat) (hr : r < n) : AMet Y_X2_nervesOf [.ref (25 + 16 * j), .int (nI r)] σ (fz (some (.int (nrv (σ.1 j) r n))) (σ)) := by
  refine am_intro (by decide +kernel) (Nat.le_of_ble_eq_true rfl) (fun K C => ?_)
  have hz := hok.1
  have hn := hok.2.1
  obtain ⟨yr, hyr30, hyr⟩ := (hok.2.2.2.2.1 r (by omega)).2.2.2.1
  refine aw_aload_n (pc := 0) C 0 dX2_nervesOf_0 rfl ?_
  refine aw_getR (pc := 1) C fl_X2_17 (shM hj) rfl dX2_nervesOf_1 ?_
  refine aw_iload_n (pc := 4) C 1 dX2_nervesOf_4 rfl ?_
  refine aw_aald (pc := 5) (k := r) C (shRs hj) dX2_nervesOf_5 rfl (by omega) ?_
  refine aw_gld (pc := 6) C (σ.1 j (33 + 37 * r + 3)) fl_X2_56 (shR hj (by omega)) rfl dX2_nervesOf_6 rfl ?_
  refine aw_istore_n (pc := 9) C [(2, .int (σ.1 j (33 + 37 * r + 3))), (0, .ref (25 + 16 * j)), (1, .int (nI r))] dX2_nervesOf_9 (Nat.le_of_ble_eq_true rfl) rfl ?_
  refine aw_iconst (pc := 10) (v := 0) C dX2_nervesOf_10 rfl ?_
  refine aw_istore_n (pc := 11) C [(3, .int 0), (2, .int (σ.1 j (33 + 37 * r + 3))), (0, .ref (25 + 16 * j)), (1, .int (nI r))] dX2_nervesOf_11 (Nat.le_of_ble_eq_true rfl) rfl ?_
  refine aw_iconst (pc := 12) (v := 0) C dX2_nervesOf_12 rfl ?_
  refine aw_istore (pc := 13) C [(4, .int 0), (3, .int 0), (2, .int (σ.1 j (33 + 37 * r + 3))), (0, .ref (25 + 16 * j)), (1, .int (nI r))] dX2_nervesOf_13 (Nat.le_of_ble_eq_true rfl) rfl ?_
  refine aw_lvs C [0, 1, 2, 3, 4] [(4, .int 0), (3, .int 0), (2, .int (σ.1 j (33 + 37 * r + 3))), (0, .ref (25 + 16 * j)), (1, .int (nI r))] rfl ?_
  refine aw_conv (σ' := σ) (lv' := [(4, .int (nI 0)), (3, .int (nrv (σ.1 j) r 0)), (2, .int (σ.1 j (33 + 37 * r + 3))), (0, .ref (25 + 16 * j)), (1, .int (nI r))]) rfl rfl rfl ?_
  refine loop_up (P := fun k => AW _ K _ (σ) 15 [(4, .int (nI k)), (3, .int (nrv (σ.1 j) r k)), (2, .int (σ.1 j (33 + 37 * r + 3))), (0, .ref (25 + 16 * j)), (1, .int (nI r))] []) n ?_ ?_ 0 (by omega) 
  · refine aw_iload (pc := 15) C 0 dX2_nervesOf_15 rfl ?_
    refine aw_aload_n (pc := 17) C 3 dX2_nervesOf_17 rfl ?_
    refine aw_gld (pc := 18) C (σ.1 j 2) fl_X2_24 (shM hj) rfl dX2_nervesOf_18 rfl ?_
    refine aw_top C (nI (n)) hn ?_
    refine aw_icmp_geN (pc := 21) C n n 71 rfl rfl (by omega) (by omega) dX2_nervesOf_21 (by decide) (fun h21 => ?_) (fun h21 => absurd h21 (by omega))
    refine aw_iload_n (pc := 71) C 1 dX2_nervesOf_71 rfl ?_
    exact aw_iret (pc := 72) C rfl dX2_nervesOf_72 rfl rfl
  · intro k hk15 ih15 
    refine aw_iload (pc := 15) C 0 dX2_nervesOf_15 rfl ?_
    refine aw_aload_n (pc := 17) C 3 dX2_nervesOf_17 rfl ?_
    refine aw_gld (pc := 18) C (σ.1 j 2) fl_X2_24 (shM hj) rfl dX2_nervesOf_18 rfl ?_
    refine aw_top C (nI (n)) hn ?_
    refine aw_icmp_geN (pc := 21) C k n 71 rfl rfl (by omega) (by omega) dX2_nervesOf_21 (by decide) (fun h21 => absurd h21 (by omega)) (fun h21 => ?_)
    refine aw_iload (pc := 24) C 0 dX2_nervesOf_24 rfl ?_
    refine aw_iload_n (pc := 26) C 4 dX2_nervesOf_26 rfl ?_
    refine aw_icmp_eqN (pc := 27) C k r 65 rfl rfl (by omega) (by omega) dX2_nervesOf_27 (by decide) (fun h27 => ?_) (fun h27 => ?_)
    · refine aw_iincN (pc := 65) C 0 k [(4, .int (nI (k + 1))), (3, .int (nrv (σ.1 j) r k)), (2, .int (σ.1 j (33 + 37 * r + 3))), (0, .ref (25 + 16 * j)), (1, .int (nI r))] dX2_nervesOf_65 rfl rfl rfl (Nat.le_of_ble_eq_true rfl) rfl ?_
      refine aw_goto (pc := 68) C 15 dX2_nervesOf_68 (by decide) ?_
      refine aw_lvs C [0, 1, 2, 3, 4] [(4, .int (nI (k + 1))), (3, .int (nrv (σ.1 j) r k)), (2, .int (σ.1 j (33 + 37 * r + 3))), (0, .ref (25 + 16 * j)), (1, .int (nI r))] rfl ?_
      exact aw_conv (σ' := σ) (lv' := [(4, .int (nI (k + 1))), (3, .int (nrv (σ.1 j) r (k + 1))), (2, .int (σ.1 j (33 + 37 * r + 3))), (0, .ref (25 + 16 * j)), (1, .int (nI r))]) rfl (by rw [nrv, if_pos h27, add0]) rfl ih15
    · obtain ⟨yk, hyk30, hyk⟩ := (hok.2.2.2.2.1 k (by omega)).2.2.2.1
      have hab : ¬ 1 < abI (σ.1 j (33 + 37 * k + 3) - σ.1 j (33 + 37 * r + 3)) ↔ (-1 ≤ σ.1 j (33 + 37 * k + 3) - σ.1 j (33 + 37 * r + 3) ∧ σ.1 j (33 + 37 * k + 3) - σ.1 j (33 + 37 * r + 3) ≤ 1) := by rw [show σ.1 j (33 + 37 * k + 3) = nI yk from hyk, show σ.1 j (33 + 37 * r + 3) = nI yr from hyr]; exact absC hyk30 hyr30
      refine aw_aload_n (pc := 30) C 3 dX2_nervesOf_30 rfl ?_
      refine aw_getR (pc := 31) C fl_X2_17 (shM hj) rfl dX2_nervesOf_31 ?_
      refine aw_iload (pc := 34) C 0 dX2_nervesOf_34 rfl ?_
      refine aw_aald (pc := 36) (k := k) C (shRs hj) dX2_nervesOf_36 rfl (by omega) ?_
      refine aw_cVI (pc := 37) C (c_X4_isHome _ j hj k (by omega) yk hyk hyk30) lk_X2_59 (shR hj (by omega)) rfl dX2_nervesOf_37 (by decide) (Nat.le_of_ble_eq_true rfl) rfl rfl ?_
      refine aw_if_neB (pc := 40) C 65 dX2_nervesOf_40 (by decide) (fun h40 => ?_) (fun h40 => ?_)
      · refine aw_iincN (pc := 65) C 0 k [(4, .int (nI (k + 1))), (3, .int (nrv (σ.1 j) r k)), (2, .int (σ.1 j (33 + 37 * r + 3))), (0, .ref (25 + 16 * j)), (1, .int (nI r))] dX2_nervesOf_65 rfl rfl rfl (Nat.le_of_ble_eq_true rfl) rfl ?_
        refine aw_goto (pc := 68) C 15 dX2_nervesOf_68 (by decide) ?_
        refine aw_lvs C [0, 1, 2, 3, 4] [(4, .int (nI (k + 1))), (3, .int (nrv (σ.1 j) r k)), (2, .int (σ.1 j (33 + 37 * r + 3))), (0, .ref (25 + 16 * j)), (1, .int (nI r))] rfl ?_
        exact aw_conv (σ' := σ) (lv' := [(4, .int (nI (k + 1))), (3, .int (nrv (σ.1 j) r (k + 1))), (2, .int (σ.1 j (33 + 37 * r + 3))), (0, .ref (25 + 16 * j)), (1, .int (nI r))]) rfl (by rw [nrv, if_neg h27, if_pos h40, add0]) rfl ih15
      · refine aw_aload_n (pc := 43) C 3 dX2_nervesOf_43 rfl ?_
        refine aw_getR (pc := 44) C fl_X2_17 (shM hj) rfl dX2_nervesOf_44 ?_
        refine aw_iload (pc := 47) C 0 dX2_nervesOf_47 rfl ?_
        refine aw_aald (pc := 49) (k := k) C (shRs hj) dX2_nervesOf_49 rfl (by omega) ?_
        refine aw_gld (pc := 50) C (σ.1 j (33 + 37 * k + 3)) fl_X2_56 (shR hj (by omega)) rfl dX2_nervesOf_50 rfl ?_
        refine aw_iload_n (pc := 53) C 2 dX2_nervesOf_53 rfl ?_
        refine aw_isub (pc := 54) C dX2_nervesOf_54 ?_
        refine aw_mabs (pc := 55) C lk_X2_63 (by decide) (Nat.le_of_ble_eq_true rfl) dX2_nervesOf_55 ?_
        refine aw_iconst (pc := 58) (v := 1) C dX2_nervesOf_58 rfl ?_
        refine aw_icmp_gt (pc := 59) C 65 dX2_nervesOf_59 (by decide) (fun h59 => ?_) (fun h59 => ?_)
        · refine aw_iincN (pc := 65) C 0 k [(4, .int (nI (k + 1))), (3, .int (nrv (σ.1 j) r k)), (2, .int (σ.1 j (33 + 37 * r + 3))), (0, .ref (25 + 16 * j)), (1, .int (nI r))] dX2_nervesOf_65 rfl rfl rfl (Nat.le_of_ble_eq_true rfl) rfl ?_
          refine aw_goto (pc := 68) C 15 dX2_nervesOf_68 (by decide) ?_
          refine aw_lvs C [0, 1, 2, 3, 4] [(4, .int (nI (k + 1))), (3, .int (nrv (σ.1 j) r k)), (2, .int (σ.1 j (33 + 37 * r + 3))), (0, .ref (25 + 16 * j)), (1, .int (nI r))] rfl ?_
          exact aw_conv (σ' := σ) (lv' := [(4, .int (nI (k + 1))), (3, .int (nrv (σ.1 j) r (k + 1))), (2, .int (σ.1 j (33 + 37 * r + 3))), (0, .ref (25 + 16 * j)), (1, .int (nI r))]) rfl (by rw [nrv, if_neg h27, if_neg h40, if_neg (fun z => hab.mpr z h59), add0]) rfl ih15
        · refine aw_iinc (pc := 62) C 1 ((nrv (σ.1 j) r k) + 1) [(3, .int ((nrv (σ.1 j) r k) + 1)), (4, .int (nI k)), (2, .int (σ.1 j (33 + 37 * r + 3))), (0, .ref (25 + 16 * j)), (1, .int (nI r))] dX2_nervesOf_62 rfl rfl (Nat.le_of_ble_eq_true rfl) rfl ?_
          refine aw_iincN (pc := 65) C 1 k [(4, .int (nI (k + 1))), (3, .int ((nrv (σ.1 j) r k) + 1)), (2, .int (σ.1 j (33 + 37 * r + 3))), (0, .ref (25 + 16 * j)), (1, .int (nI r))] dX2_nervesOf_65 rfl rfl rfl (Nat.le_of_ble_eq_true rfl) rfl ?_
          refine aw_goto (pc := 68) C 15 dX2_nervesOf_68 (by decide) ?_
          refine aw_lvs C [0, 1, 2, 3, 4] [(4, .int (nI (k + 1))), (3, .int ((nrv (σ.1 j) r k) + 1)), (2, .int (σ.1 j (33 + 37 * r + 3))), (0, .ref (25 + 16 * j)), (1, .int (nI r))] rfl ?_
          exact aw_conv (σ' := σ) (lv' := [(4, .int (nI (k + 1))), (3, .int (nrv (σ.1 j) r (k + 1))), (2, .int (σ.1 j (33 + 37 * r + 3))), (0, .ref (25 + 16 * j)), (1, .int (nI r))]) rfl (by rw [nrv, if_neg h27, if_neg h40, if_pos (hab.mp h59)]) rfl ih15
theorem c_X2_oddsOf (σ : St) (j : Nat) (hj : j < 3) (i : Nat) (hi : i < 6) (k : Nat) (hk : σ.1 j (33 + 37 * i + 0) = nI k) (hk7 : k < 7) (y p : Nat) (s nv : Int32) (g : Nat) (hg : σ.1 j (3 + y) = nI g) (hg5 : g < 5) (hy3 : y < 30) (hp1 : 1 ≤ p) (hp9 : p ≤ 9) : AMet Y_X2_oddsOf [.ref (25 + 16 * j), .ref (29 + 16 * j + 2 * i), .int (nI y), .int (nI p), .int s, .int nv] σ (fz (some (.int (oddsM (σ.1 j) i y (nI p) (shk (0 < s)) nv))) (σ)) := by
  refine am_intro (by decide +kernel) (Nat.le_of_ble_eq_true rfl) (fun K C => ?_)
  refine aw_aload_n (pc := 0) C 1 dX2_oddsOf_0 rfl ?_
  refine aw_iload_n (pc := 1) C 3 dX2_oddsOf_1 rfl ?_
  refine aw_cVI (pc := 2) C (c_X4_rocks _ j hj i hi k hk hk7 p (by omega) (by omega)) lk_X2_69 (shR hj hi) rfl dX2_oddsOf_2 (by decide) (Nat.le_of_ble_eq_true rfl) rfl rfl ?_
  refine aw_aload_n (pc := 5) C 1 dX2_oddsOf_5 rfl ?_
  refine aw_aload_n (pc := 6) C 0 dX2_oddsOf_6 rfl ?_
  refine aw_getR (pc := 7) C fl_X2_9 (shM hj) rfl dX2_oddsOf_7 ?_
  refine aw_iload_n (pc := 10) C 2 dX2_oddsOf_10 rfl ?_
  refine aw_ild (pc := 11) (k := y) C (3 + y) (σ.1 j (3 + y)) (shG hj) dX2_oddsOf_11 rfl (by omega) (by omega) rfl ?_
  refine aw_top C (nI (g)) hg ?_
  refine aw_cVI (pc := 12) C (c_X4_hurts _ j hj i hi k hk hk7 g (by omega)) lk_X2_72 (shR hj hi) rfl dX2_oddsOf_12 (by decide) (Nat.le_of_ble_eq_true rfl) rfl rfl ?_
  refine aw_iadd (pc := 15) C dX2_oddsOf_15 ?_
  refine aw_iload (pc := 16) C 4 dX2_oddsOf_16 rfl ?_
  refine aw_if_le (pc := 18) C 25 dX2_oddsOf_18 (by decide) (fun h18 => ?_) (fun h18 => ?_)
  · refine aw_iconst (pc := 25) (v := 0) C dX2_oddsOf_25 rfl ?_
    refine aw_top C (shk (0 < s)) ((if_neg (Int32.not_lt.mpr h18)).symm) ?_
    refine aw_iadd (pc := 26) C dX2_oddsOf_26 ?_
    refine aw_iload (pc := 27) C 5 dX2_oddsOf_27 rfl ?_
    refine aw_iadd (pc := 29) C dX2_oddsOf_29 ?_
    refine aw_istore (pc := 30) C [(6, .int ((((sRocks (σ.1 j (33 + 37 * i + 0)) (nI p)) + (sHurts (σ.1 j (33 + 37 * i + 0)) (nI g))) + (shk (0 < s))) + nv)), (0, .ref (25 + 16 * j)), (1, .ref (29 + 16 * j + 2 * i)), (2, .int (nI y)), (3, .int (nI p)), (4, .int s), (5, .int nv)] dX2_oddsOf_30 (Nat.le_of_ble_eq_true rfl) rfl ?_
    refine aw_iconst (pc := 32) (v := 0) C dX2_oddsOf_32 rfl ?_
    refine aw_bipush (pc := 33) (v := 23) C dX2_oddsOf_33 rfl ?_
    refine aw_iload (pc := 35) C 0 dX2_oddsOf_35 rfl ?_
    refine aw_aload_n (pc := 37) C 2 dX2_oddsOf_37 rfl ?_
    refine aw_cVI (pc := 38) C (c_X4_holds _ j hj i hi k hk hk7) lk_X2_75 (shR hj hi) rfl dX2_oddsOf_38 (by decide) (Nat.le_of_ble_eq_true rfl) rfl rfl ?_
    refine aw_isub (pc := 41) C dX2_oddsOf_41 ?_
    refine aw_mmin (pc := 42) C lk_X2_79 (by decide) (Nat.le_of_ble_eq_true rfl) dX2_oddsOf_42 ?_
    refine aw_mmax (pc := 45) C lk_X2_83 (by decide) (Nat.le_of_ble_eq_true rfl) dX2_oddsOf_45 ?_
    exact aw_iret (pc := 48) C rfl dX2_oddsOf_48 (by rw [clipC, oddsM, hg]) rfl
  · refine aw_iconst (pc := 21) (v := 3) C dX2_oddsOf_21 rfl ?_
    refine aw_goto (pc := 22) C 26 dX2_oddsOf_22 (by decide) ?_
    refine aw_top C (shk (0 < s)) ((if_pos (Int32.not_le.mp h18)).symm) ?_
    refine aw_iadd (pc := 26) C dX2_oddsOf_26 ?_
    refine aw_iload (pc := 27) C 5 dX2_oddsOf_27 rfl ?_
    refine aw_iadd (pc := 29) C dX2_oddsOf_29 ?_
    refine aw_istore (pc := 30) C [(6, .int ((((sRocks (σ.1 j (33 + 37 * i + 0)) (nI p)) + (sHurts (σ.1 j (33 + 37 * i + 0)) (nI g))) + (shk (0 < s))) + nv)), (0, .ref (25 + 16 * j)), (1, .ref (29 + 16 * j + 2 * i)), (2, .int (nI y)), (3, .int (nI p)), (4, .int s), (5, .int nv)] dX2_oddsOf_30 (Nat.le_of_ble_eq_true rfl) rfl ?_
    refine aw_iconst (pc := 32) (v := 0) C dX2_oddsOf_32 rfl ?_
    refine aw_bipush (pc := 33) (v := 23) C dX2_oddsOf_33 rfl ?_
    refine aw_iload (pc := 35) C 0 dX2_oddsOf_35 rfl ?_
    refine aw_aload_n (pc := 37) C 2 dX2_oddsOf_37 rfl ?_
    refine aw_cVI (pc := 38) C (c_X4_holds _ j hj i hi k hk hk7) lk_X2_75 (shR hj hi) rfl dX2_oddsOf_38 (by decide) (Nat.le_of_ble_eq_true rfl) rfl rfl ?_
    refine aw_isub (pc := 41) C dX2_oddsOf_41 ?_
    refine aw_mmin (pc := 42) C lk_X2_79 (by decide) (Nat.le_of_ble_eq_true rfl) dX2_oddsOf_42 ?_
    refine aw_mmax (pc := 45) C lk_X2_83 (by decide) (Nat.le_of_ble_eq_true rfl) dX2_oddsOf_45 ?_
    exact aw_iret (pc := 48) C rfl dX2_oddsOf_48 (by rw [clipC, oddsM, hg]) rfl
theorem c_X2_oddsInStep (σ : St) (j : Nat) (hj : j < 3) (n : Nat) (hok : Ok n (σ.1 j)) (r : Nat) (hr : r < n) (y : Nat) (hy : fl (σ.1 j) r 3 = nI y) (hy3 : y < 30) : AMet Y_X2_oddsInStep [.ref (25 + 16 * j), .int (nI r)] σ (fz (some (.int (oddsN (σ.1 j) n r))) (σ)) := by
  refine am_intro (by decide +kernel) (Nat.le_of_ble_eq_true rfl) (fun K C => ?_)
  have hz := hok.1
  have hn := hok.2.1
  obtain ⟨k, hk7, hk⟩ := (hok.2.2.2.2.1 r hr).1
  obtain ⟨g, hg5, hg⟩ := hok.2.2.2.1 y hy3
  obtain ⟨p, hp1, hp9, hp⟩ := (hok.2.2.2.2.1 r hr).2.2.2.2.2 y hy3
  refine aw_aload_n (pc := 0) C 0 dX2_oddsInStep_0 rfl ?_
  refine aw_getR (pc := 1) C fl_X2_17 (shM hj) rfl dX2_oddsInStep_1 ?_
  refine aw_iload_n (pc := 4) C 1 dX2_oddsInStep_4 rfl ?_
  refine aw_aald (pc := 5) (k := r) C (shRs hj) dX2_oddsInStep_5 rfl (by omega) ?_
  refine aw_astore_n (pc := 6) C [(2, .ref (29 + 16 * j + 2 * r)), (0, .ref (25 + 16 * j)), (1, .int (nI r))] dX2_oddsInStep_6 (Nat.le_of_ble_eq_true rfl) rfl ?_
  refine aw_aload_n (pc := 7) C 1 dX2_oddsInStep_7 rfl ?_
  refine aw_aload_n (pc := 8) C 0 dX2_oddsInStep_8 rfl ?_
  refine aw_aload_n (pc := 9) C 0 dX2_oddsInStep_9 rfl ?_
  refine aw_gld (pc := 10) C (σ.1 j (33 + 37 * r + 3)) fl_X2_56 (shR hj (by omega)) rfl dX2_oddsInStep_10 rfl ?_
  refine aw_top C (nI (y)) hy ?_
  refine aw_aload_n (pc := 13) C 0 dX2_oddsInStep_13 rfl ?_
  refine aw_getR (pc := 14) C fl_X2_86 (shR hj (by omega)) rfl dX2_oddsInStep_14 ?_
  refine aw_aload_n (pc := 17) C 0 dX2_oddsInStep_17 rfl ?_
  refine aw_gld (pc := 18) C (σ.1 j (33 + 37 * r + 3)) fl_X2_56 (shR hj (by omega)) rfl dX2_oddsInStep_18 rfl ?_
  refine aw_top C (nI (y)) hy ?_
  refine aw_ild (pc := 21) (k := y) C (33 + 37 * r + (7 + y)) (σ.1 j (33 + 37 * r + (7 + y))) (shP hj (by omega)) dX2_oddsInStep_21 rfl (by omega) (by omega) rfl ?_
  refine aw_top C (nI (p)) hp ?_
  refine aw_aload_n (pc := 22) C 0 dX2_oddsInStep_22 rfl ?_
  refine aw_gld (pc := 23) C (σ.1 j (33 + 37 * r + 5)) fl_X2_89 (shR hj (by omega)) rfl dX2_oddsInStep_23 rfl ?_
  refine aw_aload_n (pc := 26) C 1 dX2_oddsInStep_26 rfl ?_
  refine aw_iload_n (pc := 27) C 2 dX2_oddsInStep_27 rfl ?_
  refine aw_cVI (pc := 28) C (c_X2_nervesOf _ j hj n hok r (by omega)) lk_X2_92 (shM hj) rfl dX2_oddsInStep_28 (by decide) (Nat.le_of_ble_eq_true rfl) rfl rfl ?_
  refine aw_cVI (pc := 31) C (c_X2_oddsOf _  j hj r (by omega) k hk hk7 y p (σ.1 j (33 + 37 * r + 5)) (nrv (σ.1 j) r n) g hg (by omega) (by omega) (by omega) (by omega)) lk_X2_95 (shM hj) rfl dX2_oddsInStep_31 (by decide) (Nat.le_of_ble_eq_true rfl) rfl rfl ?_
  exact aw_iret (pc := 34) C rfl dX2_oddsInStep_34 (by rw [oddsN, hy, cl_nI (show y < 2147483648 by omega), hp]) rfl
theorem c_X2_draw (σ : St) (j : Nat) (hj : j < 3) : AMet Y_X2_draw [.ref (25 + 16 * j)] σ (fz (some (.int (drawV (σ.1 j)))) (setR σ j (upd (σ.1 j) 1 (drawZ (σ.1 j))))) := by
  refine am_intro (by decide +kernel) (Nat.le_of_ble_eq_true rfl) (fun K C => ?_)
  refine aw_aload_n (pc := 0) C 0 dX2_draw_0 rfl ?_
  refine aw_aload_n (pc := 1) C 0 dX2_draw_1 rfl ?_
  refine aw_gld (pc := 2) C (σ.1 j 1) fl_X2_31 (shM hj) rfl dX2_draw_2 rfl ?_
  refine aw_ldc (pc := 5) C dX2_draw_5 kc_X2_55 ?_
  refine aw_imul (pc := 7) C dX2_draw_7 ?_
  refine aw_sipush (pc := 8) (v := 12345) C dX2_draw_8 rfl ?_
  refine aw_iadd (pc := 11) C dX2_draw_11 ?_
  refine aw_pst (pc := 12) C (setR σ j (upd (σ.1 j) 1 (((σ.1 j 1) * 1103515245) + 12345))) fp_X2_31 (shM hj) rfl dX2_draw_12 rfl ?_
  refine aw_aload_n (pc := 15) C 0 dX2_draw_15 rfl ?_
  refine aw_gld (pc := 16) C (((σ.1 j 1) * 1103515245) + 12345) fl_X2_31 (shM hj) rfl dX2_draw_16 (by first | with_reducible rfl | (simp (disch := omega) only [setR_at, setR_twice, setL_at, setL_twice, setR_2, setL_1, setR_ne, setL_ne, ne_eq, Nat.reduceEqDiff, not_false_eq_true, pk_us, pk_un]; done) | (simp (disch := omega) only [setR_at, setR_twice, setL_at, setL_twice, setR_2, setL_1, setR_ne, setL_ne, ne_eq, Nat.reduceEqDiff, not_false_eq_true, pk_us, pk_un, Option.toList_some, Option.toList_none, List.cons_append, List.nil_append]; done) | ((try simp (disch := omega) only [setR_at, setR_twice, setL_at, setL_twice, setR_2, setL_1, setR_ne, setL_ne, ne_eq, Nat.reduceEqDiff, not_false_eq_true, pk_us, pk_un]); refine Prod.ext (funext fun z => ?_) rfl; simp only [setR]; (repeat' split) <;> first | with_reducible rfl | (exfalso; omega)) | rfl) ?_
  refine aw_bipush (pc := 19) (v := 8) C dX2_draw_19 rfl ?_
  refine aw_iushr (pc := 21) C dX2_draw_21 ?_
  exact aw_iret (pc := 22) C rfl dX2_draw_22 rfl rfl
