/-! the reference: calls -/
theorem c_X9_ground (σ : St) (yard v : Int32) : AMet Y_X9_ground [.ref 73, .int yard, .int v] σ (PM σ (sGround (σ.1 20) yard v)) := by
  refine am_intro (by decide +kernel) (Nat.le_of_ble_eq_true rfl) (fun K C => ?_)
  refine aw_iload_n (pc := 0) C 1 dX9_ground_0 rfl ?_
  refine aw_cSI (pc := 1) C (c_X9_isYard _ yard ) lk_X9_66 dX9_ground_1 (by decide) (Nat.le_of_ble_eq_true rfl) rfl rfl ?_
  refine aw_if_eqB (pc := 4) C 30 dX9_ground_4 (by decide) (fun h4 => ?_) (fun h4 => ?_)
  · refine aw_aload_n (pc := 30) C 0 dX9_ground_30 rfl ?_
    refine aw_ldc (pc := 31) C dX9_ground_31 kc_X9_46 ?_
    refine aw_cVI (pc := 33) C (c_X9_finds _ (-100000001) 0 (by decide) (by decide)) lk_X9_48 sh73 rfl dX9_ground_33 (by decide) (Nat.le_of_ble_eq_true rfl) rfl rfl ?_
    exact aw_iretP (pc := 36) C rfl dX9_ground_36 (pm_of (an' := .inl 0) (by rw [sGround, if_neg (fun z => h4 (z.1))]) rfl rfl)
  · refine aw_iload_n (pc := 7) C 2 dX9_ground_7 rfl ?_
    refine aw_i2l (pc := 8) C dX9_ground_8 ?_
    refine aw_lconst (pc := 9) (v := 0) C dX9_ground_9 rfl ?_
    refine aw_ldc2 (pc := 10) C dX9_ground_10 kc_X9_70 ?_
    refine aw_cSI (pc := 13) C (c_X9_in _ v 0 4 _ _ _ rfl (by decide) (by decide)) lk_X9_54 dX9_ground_13 (by decide) (Nat.le_of_ble_eq_true rfl) rfl rfl ?_
    refine aw_if_eqB (pc := 16) C 30 dX9_ground_16 (by decide) (fun h16 => ?_) (fun h16 => ?_)
    · refine aw_aload_n (pc := 30) C 0 dX9_ground_30 rfl ?_
      refine aw_ldc (pc := 31) C dX9_ground_31 kc_X9_46 ?_
      refine aw_cVI (pc := 33) C (c_X9_finds _ (-100000001) 0 (by decide) (by decide)) lk_X9_48 sh73 rfl dX9_ground_33 (by decide) (Nat.le_of_ble_eq_true rfl) rfl rfl ?_
      exact aw_iretP (pc := 36) C rfl dX9_ground_36 (pm_of (an' := .inl 0) (by rw [sGround, if_neg (fun z => h16 (z.2))]) rfl rfl)
    · obtain ⟨y, rfl, hy0, hy⟩ := rg 0 29 h4 (by omega) (by omega)
      refine aw_aload_n (pc := 19) C 0 dX9_ground_19 rfl ?_
      refine aw_iconst (pc := 20) (v := 3) C dX9_ground_20 rfl ?_
      refine aw_iload_n (pc := 21) C 1 dX9_ground_21 rfl ?_
      refine aw_iaddN (pc := 22) C 3 y rfl rfl dX9_ground_22 ?_
      refine aw_iload_n (pc := 23) C 2 dX9_ground_23 rfl ?_
      refine aw_cVI (pc := 24) C (c_X9_becomes _ (3 + y) v (by omega)) lk_X9_72 sh73 rfl dX9_ground_24 (by decide) (Nat.le_of_ble_eq_true rfl) rfl rfl ?_
      refine aw_goto (pc := 27) C 36 dX9_ground_27 (by decide) ?_
      exact aw_iretP (pc := 36) C rfl dX9_ground_36 (pm_of (an' := .inr (σ.1 20 (3 + y), upd (σ.1 20) (3 + y) (v))) (by rw [sGround, if_pos ⟨h4, h16⟩, cl_nI (show y < 2147483648 by omega)]) rfl rfl)
theorem c_X9_pick (σ : St) (v : Int32) : AMet Y_X9_pick [.ref 73, .int v] σ (PM σ (sPick (σ.1 20) v)) := by
  refine am_intro (by decide +kernel) (Nat.le_of_ble_eq_true rfl) (fun K C => ?_)
  refine aw_iload_n (pc := 0) C 1 dX9_pick_0 rfl ?_
  refine aw_i2l (pc := 1) C dX9_pick_1 ?_
  refine aw_lconst (pc := 2) (v := 0) C dX9_pick_2 rfl ?_
  refine aw_ldc2 (pc := 3) C dX9_pick_3 kc_X9_75 ?_
  refine aw_cSI (pc := 6) C (c_X9_in _ v 0 99 _ _ _ rfl (by decide) (by decide)) lk_X9_54 dX9_pick_6 (by decide) (Nat.le_of_ble_eq_true rfl) rfl rfl ?_
  refine aw_if_eqB (pc := 9) C 21 dX9_pick_9 (by decide) (fun h9 => ?_) (fun h9 => ?_)
  · refine aw_aload_n (pc := 21) C 0 dX9_pick_21 rfl ?_
    refine aw_ldc (pc := 22) C dX9_pick_22 kc_X9_46 ?_
    refine aw_cVI (pc := 24) C (c_X9_finds _ (-100000001) 0 (by decide) (by decide)) lk_X9_48 sh73 rfl dX9_pick_24 (by decide) (Nat.le_of_ble_eq_true rfl) rfl rfl ?_
    exact aw_iretP (pc := 27) C rfl dX9_pick_27 (pm_of (an' := .inl 0) (by rw [sPick, if_neg (fun z => h9 (z))]) rfl rfl)
  · refine aw_aload_n (pc := 12) C 0 dX9_pick_12 rfl ?_
    refine aw_iconst (pc := 13) (v := 0) C dX9_pick_13 rfl ?_
    refine aw_iload_n (pc := 14) C 1 dX9_pick_14 rfl ?_
    refine aw_cVI (pc := 15) C (c_X9_becomes _ 0 v (by omega)) lk_X9_72 sh73 rfl dX9_pick_15 (by decide) (Nat.le_of_ble_eq_true rfl) rfl rfl ?_
    refine aw_goto (pc := 18) C 27 dX9_pick_18 (by decide) ?_
    exact aw_iretP (pc := 27) C rfl dX9_pick_27 (pm_of (an' := .inr (σ.1 20 0, upd (σ.1 20) 0 (v))) (by rw [sPick, if_pos h9]) rfl rfl)
/-- a new RUNNER's places, the first k of them blank -/
def comeK (μ : Fl) (n k : Nat) (p : Int32) : Fl := fun i => if i = 2 then nI (n + 1) else if 33 + 37 * n ≤ i ∧ i < 33 + 37 * n + k then (if i < 40 + 37 * n then 0 else p) else μ i
theorem comeK_0 {μ : Fl} {n : Nat} {p : Int32} : upd μ 2 (nI (n + 1)) = comeK μ n 0 p := by
  funext i
  simp only [upd, comeK]
  repeat' split
  all_goals first | rfl | (exfalso; omega)
theorem comeK_lo {μ : Fl} {n k : Nat} {p : Int32} (h : k < 7) : upd (comeK μ n k p) (33 + 37 * n + k) 0 = comeK μ n (k + 1) p := by
  funext i
  simp only [upd, comeK]
  repeat' split
  all_goals first | rfl | (exfalso; omega)
theorem comeK_hi {μ : Fl} {n k : Nat} {p : Int32} (h : 7 ≤ k) : upd (comeK μ n k p) (33 + 37 * n + k) p = comeK μ n (k + 1) p := by
  funext i
  simp only [upd, comeK]
  repeat' split
  all_goals first | rfl | (exfalso; omega)
theorem comeK_end {μ : Fl} {n : Nat} {k a s p : Int32} : upd (upd (upd (comeK μ n 37 p) (33 + 37 * n + 0) k) (33 + 37 * n + 1) a) (33 + 37 * n + 2) s = newR μ n k a s p := by
  funext i
  simp only [upd, comeK, newR]
  repeat' split
  all_goals first | rfl | (exfalso; omega)
theorem c_X9_comes (σ : St) (n : Nat) (hn : σ.1 20 2 = nI n) (hz : n < 6) (kd a s p : Int32) : AMet Y_X9_comes [.ref 73, .int kd, .int a, .int s, .int p] σ (fz (some (.int (nI n))) (setR σ 20 (newR (σ.1 20) n kd a s p))) := by
  refine am_intro (by decide +kernel) (Nat.le_of_ble_eq_true rfl) (fun K C => ?_)
  refine aw_aload_n (pc := 0) C 0 dX9_comes_0 rfl ?_
  refine aw_getR (pc := 1) C fl_X9_9 sh73 rfl dX9_comes_1 ?_
  refine aw_iconst (pc := 4) (v := 2) C dX9_comes_4 rfl ?_
  refine aw_ild (pc := 5) (k := 2) C (2) (σ.1 20 2) sh74 dX9_comes_5 rfl (by omega) rfl rfl ?_
  refine aw_top C (nI (n)) hn ?_
  refine aw_istore (pc := 6) C [(5, .int (nI n)), (0, .ref 73), (1, .int kd), (2, .int a), (3, .int s), (4, .int p)] dX9_comes_6 (Nat.le_of_ble_eq_true rfl) rfl ?_
  refine aw_aload_n (pc := 8) C 1 dX9_comes_8 rfl ?_
  refine aw_getR (pc := 9) C fl_X9_9 sh73 rfl dX9_comes_9 ?_
  refine aw_iconst (pc := 12) (v := 2) C dX9_comes_12 rfl ?_
  refine aw_dup2 (pc := 13) C dX9_comes_13 rfl rfl ?_
  refine aw_ild (pc := 14) (k := 2) C (2) (σ.1 20 2) sh74 dX9_comes_14 rfl (by omega) rfl rfl ?_
  refine aw_top C (nI (n)) hn ?_
  refine aw_iconst (pc := 15) (v := 1) C dX9_comes_15 rfl ?_
  refine aw_iaddN (pc := 16) C n 1 rfl rfl dX9_comes_16 ?_
  refine aw_ist (pc := 17) (k := 2) C (2) (setR σ 20 (upd (σ.1 20) 2 (nI (n + 1)))) sh74 dX9_comes_17 rfl (by omega) rfl rfl ?_
  refine aw_iconst (pc := 18) (v := 0) C dX9_comes_18 rfl ?_
  refine aw_istore (pc := 19) C [(6, .int 0), (5, .int (nI n)), (0, .ref 73), (1, .int kd), (2, .int a), (3, .int s), (4, .int p)] dX9_comes_19 (Nat.le_of_ble_eq_true rfl) rfl ?_
  refine aw_lvs C [0, 1, 2, 3, 4, 5, 6] [(6, .int 0), (5, .int (nI n)), (0, .ref 73), (1, .int kd), (2, .int a), (3, .int s), (4, .int p)] rfl ?_
  refine aw_conv (σ' := setR σ 20 (comeK (σ.1 20) n 0 p)) (lv' := [(6, .int (nI 0)), (5, .int (nI n)), (0, .ref 73), (1, .int kd), (2, .int a), (3, .int s), (4, .int p)]) (by rw [comeK_0]) rfl rfl ?_
  refine loop_up (P := fun k => AW _ K _ (setR σ 20 (comeK (σ.1 20) n k p)) 21 [(6, .int (nI k)), (5, .int (nI n)), (0, .ref 73), (1, .int kd), (2, .int a), (3, .int s), (4, .int p)] []) 37 ?_ ?_ 0 (by omega) 
  · refine aw_iload (pc := 21) C 0 dX9_comes_21 rfl ?_
    refine aw_bipush (pc := 23) (v := 37) C dX9_comes_23 rfl ?_
    refine aw_icmp_geN (pc := 25) C 37 37 55 rfl rfl (by omega) (by omega) dX9_comes_25 (by decide) (fun h25 => ?_) (fun h25 => absurd h25 (by omega))
    refine aw_aload_n (pc := 55) C 2 dX9_comes_55 rfl ?_
    refine aw_iload (pc := 56) C 1 dX9_comes_56 rfl ?_
    refine aw_iconst (pc := 58) (v := 0) C dX9_comes_58 rfl ?_
    refine aw_iload_n (pc := 59) C 3 dX9_comes_59 rfl ?_
    refine aw_cV0 (pc := 60) C (c_X9_makes _ n 0 kd (by omega)) lk_X9_77 sh73 rfl dX9_comes_60 (by decide) (Nat.le_of_ble_eq_true rfl) rfl rfl ?_
    refine aw_conv (σ' := setR σ 20 (upd (comeK (σ.1 20) n 37 p) (33 + 37 * n + 0) (kd))) (st' := []) (by first | rfl | (simp (disch := omega) only [setR_at, setR_twice, setL_at, setL_twice, setR_2, setL_1, setR_ne, setL_ne, ne_eq, Nat.reduceEqDiff, not_false_eq_true, pk_us, pk_un]; done) | ((try simp (disch := omega) only [setR_at, setR_twice, setL_at, setL_twice, setR_2, setL_1, setR_ne, setL_ne, ne_eq, Nat.reduceEqDiff, not_false_eq_true, pk_us, pk_un]); refine Prod.ext (funext fun z => ?_) rfl; simp only [setR]; (repeat' split) <;> first | rfl | (exfalso; omega))) rfl (by first | rfl | (simp (disch := omega) only [setR_at, setR_twice, setL_at, setL_twice, setR_2, setL_1, setR_ne, setL_ne, ne_eq, Nat.reduceEqDiff, not_false_eq_true, pk_us, pk_un]; done) | ((try simp (disch := omega) only [setR_at, setR_twice, setL_at, setL_twice, setR_2, setL_1, setR_ne, setL_ne, ne_eq, Nat.reduceEqDiff, not_false_eq_true, pk_us, pk_un]); refine Prod.ext (funext fun z => ?_) rfl; simp only [setR]; (repeat' split) <;> first | rfl | (exfalso; omega))) ?_
    refine aw_aload_n (pc := 63) C 2 dX9_comes_63 rfl ?_
    refine aw_iload (pc := 64) C 1 dX9_comes_64 rfl ?_
    refine aw_iconst (pc := 66) (v := 1) C dX9_comes_66 rfl ?_
    refine aw_iload_n (pc := 67) C 4 dX9_comes_67 rfl ?_
    refine aw_cV0 (pc := 68) C (c_X9_makes _ n 1 a (by omega)) lk_X9_77 sh73 rfl dX9_comes_68 (by decide) (Nat.le_of_ble_eq_true rfl) rfl rfl ?_
    refine aw_conv (σ' := setR σ 20 (upd (upd (comeK (σ.1 20) n 37 p) (33 + 37 * n + 0) (kd)) (33 + 37 * n + 1) (a))) (st' := []) (by first | rfl | (simp (disch := omega) only [setR_at, setR_twice, setL_at, setL_twice, setR_2, setL_1, setR_ne, setL_ne, ne_eq, Nat.reduceEqDiff, not_false_eq_true, pk_us, pk_un]; done) | ((try simp (disch := omega) only [setR_at, setR_twice, setL_at, setL_twice, setR_2, setL_1, setR_ne, setL_ne, ne_eq, Nat.reduceEqDiff, not_false_eq_true, pk_us, pk_un]); refine Prod.ext (funext fun z => ?_) rfl; simp only [setR]; (repeat' split) <;> first | rfl | (exfalso; omega))) rfl (by first | rfl | (simp (disch := omega) only [setR_at, setR_twice, setL_at, setL_twice, setR_2, setL_1, setR_ne, setL_ne, ne_eq, Nat.reduceEqDiff, not_false_eq_true, pk_us, pk_un]; done) | ((try simp (disch := omega) only [setR_at, setR_twice, setL_at, setL_twice, setR_2, setL_1, setR_ne, setL_ne, ne_eq, Nat.reduceEqDiff, not_false_eq_true, pk_us, pk_un]); refine Prod.ext (funext fun z => ?_) rfl; simp only [setR]; (repeat' split) <;> first | rfl | (exfalso; omega))) ?_
    refine aw_aload_n (pc := 71) C 2 dX9_comes_71 rfl ?_
    refine aw_iload (pc := 72) C 1 dX9_comes_72 rfl ?_
    refine aw_iconst (pc := 74) (v := 2) C dX9_comes_74 rfl ?_
    refine aw_iload_n (pc := 75) C 5 dX9_comes_75 rfl ?_
    refine aw_cV0 (pc := 76) C (c_X9_makes _ n 2 s (by omega)) lk_X9_77 sh73 rfl dX9_comes_76 (by decide) (Nat.le_of_ble_eq_true rfl) rfl rfl ?_
    refine aw_conv (σ' := setR σ 20 (upd (upd (upd (comeK (σ.1 20) n 37 p) (33 + 37 * n + 0) (kd)) (33 + 37 * n + 1) (a)) (33 + 37 * n + 2) (s))) (st' := []) (by first | rfl | (simp (disch := omega) only [setR_at, setR_twice, setL_at, setL_twice, setR_2, setL_1, setR_ne, setL_ne, ne_eq, Nat.reduceEqDiff, not_false_eq_true, pk_us, pk_un]; done) | ((try simp (disch := omega) only [setR_at, setR_twice, setL_at, setL_twice, setR_2, setL_1, setR_ne, setL_ne, ne_eq, Nat.reduceEqDiff, not_false_eq_true, pk_us, pk_un]); refine Prod.ext (funext fun z => ?_) rfl; simp only [setR]; (repeat' split) <;> first | rfl | (exfalso; omega))) rfl (by first | rfl | (simp (disch := omega) only [setR_at, setR_twice, setL_at, setL_twice, setR_2, setL_1, setR_ne, setL_ne, ne_eq, Nat.reduceEqDiff, not_false_eq_true, pk_us, pk_un]; done) | ((try simp (disch := omega) only [setR_at, setR_twice, setL_at, setL_twice, setR_2, setL_1, setR_ne, setL_ne, ne_eq, Nat.reduceEqDiff, not_false_eq_true, pk_us, pk_un]); refine Prod.ext (funext fun z => ?_) rfl; simp only [setR]; (repeat' split) <;> first | rfl | (exfalso; omega))) ?_
    refine aw_iload (pc := 79) C 1 dX9_comes_79 rfl ?_
    exact aw_iret (pc := 81) C rfl dX9_comes_81 rfl (by rw [comeK_end])
  · intro k hk21 ih21 
    refine aw_iload (pc := 21) C 0 dX9_comes_21 rfl ?_
    refine aw_bipush (pc := 23) (v := 37) C dX9_comes_23 rfl ?_
    refine aw_icmp_geN (pc := 25) C k 37 55 rfl rfl (by omega) (by omega) dX9_comes_25 (by decide) (fun h25 => absurd h25 (by omega)) (fun h25 => ?_)
    refine aw_aload_n (pc := 28) C 2 dX9_comes_28 rfl ?_
    refine aw_iload (pc := 29) C 1 dX9_comes_29 rfl ?_
    refine aw_iload (pc := 31) C 0 dX9_comes_31 rfl ?_
    refine aw_iload (pc := 33) C 0 dX9_comes_33 rfl ?_
    refine aw_bipush (pc := 35) (v := 7) C dX9_comes_35 rfl ?_
    refine aw_icmp_geN (pc := 37) C k 7 44 rfl rfl (by omega) (by omega) dX9_comes_37 (by decide) (fun h37 => ?_) (fun h37 => ?_)
    · refine aw_iload (pc := 44) C 6 dX9_comes_44 rfl ?_
      refine aw_cV0 (pc := 46) C (c_X9_makes _ n k p (by omega)) lk_X9_77 sh73 rfl dX9_comes_46 (by decide) (Nat.le_of_ble_eq_true rfl) rfl rfl ?_
      refine aw_conv (σ' := setR σ 20 (upd (comeK (σ.1 20) n k p) (33 + 37 * n + k) (p))) (st' := []) (by first | rfl | (simp (disch := omega) only [setR_at, setR_twice, setL_at, setL_twice, setR_2, setL_1, setR_ne, setL_ne, ne_eq, Nat.reduceEqDiff, not_false_eq_true, pk_us, pk_un]; done) | ((try simp (disch := omega) only [setR_at, setR_twice, setL_at, setL_twice, setR_2, setL_1, setR_ne, setL_ne, ne_eq, Nat.reduceEqDiff, not_false_eq_true, pk_us, pk_un]); refine Prod.ext (funext fun z => ?_) rfl; simp only [setR]; (repeat' split) <;> first | rfl | (exfalso; omega))) rfl (by first | rfl | (simp (disch := omega) only [setR_at, setR_twice, setL_at, setL_twice, setR_2, setL_1, setR_ne, setL_ne, ne_eq, Nat.reduceEqDiff, not_false_eq_true, pk_us, pk_un]; done) | ((try simp (disch := omega) only [setR_at, setR_twice, setL_at, setL_twice, setR_2, setL_1, setR_ne, setL_ne, ne_eq, Nat.reduceEqDiff, not_false_eq_true, pk_us, pk_un]); refine Prod.ext (funext fun z => ?_) rfl; simp only [setR]; (repeat' split) <;> first | rfl | (exfalso; omega))) ?_
      refine aw_iincN (pc := 49) C 0 k [(6, .int (nI (k + 1))), (5, .int (nI n)), (0, .ref 73), (1, .int kd), (2, .int a), (3, .int s), (4, .int p)] dX9_comes_49 rfl rfl rfl (Nat.le_of_ble_eq_true rfl) rfl ?_
      refine aw_goto (pc := 52) C 21 dX9_comes_52 (by decide) ?_
      refine aw_lvs C [0, 1, 2, 3, 4, 5, 6] [(6, .int (nI (k + 1))), (5, .int (nI n)), (0, .ref 73), (1, .int kd), (2, .int a), (3, .int s), (4, .int p)] rfl ?_
      exact aw_conv (σ' := setR σ 20 (comeK (σ.1 20) n (k + 1) p)) (lv' := [(6, .int (nI (k + 1))), (5, .int (nI n)), (0, .ref 73), (1, .int kd), (2, .int a), (3, .int s), (4, .int p)]) (by rw [comeK_hi h37]) rfl rfl ih21
    · refine aw_iconst (pc := 40) (v := 0) C dX9_comes_40 rfl ?_
      refine aw_goto (pc := 41) C 46 dX9_comes_41 (by decide) ?_
      refine aw_cV0 (pc := 46) C (c_X9_makes _ n k 0 (by omega)) lk_X9_77 sh73 rfl dX9_comes_46 (by decide) (Nat.le_of_ble_eq_true rfl) rfl rfl ?_
      refine aw_conv (σ' := setR σ 20 (upd (comeK (σ.1 20) n k p) (33 + 37 * n + k) (0))) (st' := []) (by first | rfl | (simp (disch := omega) only [setR_at, setR_twice, setL_at, setL_twice, setR_2, setL_1, setR_ne, setL_ne, ne_eq, Nat.reduceEqDiff, not_false_eq_true, pk_us, pk_un]; done) | ((try simp (disch := omega) only [setR_at, setR_twice, setL_at, setL_twice, setR_2, setL_1, setR_ne, setL_ne, ne_eq, Nat.reduceEqDiff, not_false_eq_true, pk_us, pk_un]); refine Prod.ext (funext fun z => ?_) rfl; simp only [setR]; (repeat' split) <;> first | rfl | (exfalso; omega))) rfl (by first | rfl | (simp (disch := omega) only [setR_at, setR_twice, setL_at, setL_twice, setR_2, setL_1, setR_ne, setL_ne, ne_eq, Nat.reduceEqDiff, not_false_eq_true, pk_us, pk_un]; done) | ((try simp (disch := omega) only [setR_at, setR_twice, setL_at, setL_twice, setR_2, setL_1, setR_ne, setL_ne, ne_eq, Nat.reduceEqDiff, not_false_eq_true, pk_us, pk_un]); refine Prod.ext (funext fun z => ?_) rfl; simp only [setR]; (repeat' split) <;> first | rfl | (exfalso; omega))) ?_
      refine aw_iincN (pc := 49) C 0 k [(6, .int (nI (k + 1))), (5, .int (nI n)), (0, .ref 73), (1, .int kd), (2, .int a), (3, .int s), (4, .int p)] dX9_comes_49 rfl rfl rfl (Nat.le_of_ble_eq_true rfl) rfl ?_
      refine aw_goto (pc := 52) C 21 dX9_comes_52 (by decide) ?_
      refine aw_lvs C [0, 1, 2, 3, 4, 5, 6] [(6, .int (nI (k + 1))), (5, .int (nI n)), (0, .ref 73), (1, .int kd), (2, .int a), (3, .int s), (4, .int p)] rfl ?_
      exact aw_conv (σ' := setR σ 20 (comeK (σ.1 20) n (k + 1) p)) (lv' := [(6, .int (nI (k + 1))), (5, .int (nI n)), (0, .ref 73), (1, .int kd), (2, .int a), (3, .int s), (4, .int p)]) (by rw [comeK_lo h37]) rfl rfl ih21
theorem c_X9_runner (σ : St) (n : Nat) (hn : σ.1 20 2 = nI n) (hz : n ≤ 6) (k a s : Int32) : AMet Y_X9_runner [.ref 73, .int k, .int a, .int s] σ (PM σ (sRunner (σ.1 20) n k a s)) := by
  refine am_intro (by decide +kernel) (Nat.le_of_ble_eq_true rfl) (fun K C => ?_)
  refine aw_iload_n (pc := 0) C 1 dX9_runner_0 rfl ?_
  refine aw_cSI (pc := 1) C (c_X9_isKind _ k ) lk_X9_81 dX9_runner_1 (by decide) (Nat.le_of_ble_eq_true rfl) rfl rfl ?_
  refine aw_if_eqB (pc := 4) C 31 dX9_runner_4 (by decide) (fun h4 => ?_) (fun h4 => ?_)
  · refine aw_aload_n (pc := 31) C 0 dX9_runner_31 rfl ?_
    refine aw_ldc (pc := 32) C dX9_runner_32 kc_X9_46 ?_
    refine aw_cVI (pc := 34) C (c_X9_finds _ (-100000001) 0 (by decide) (by decide)) lk_X9_48 sh73 rfl dX9_runner_34 (by decide) (Nat.le_of_ble_eq_true rfl) rfl rfl ?_
    exact aw_iretP (pc := 37) C rfl dX9_runner_37 (pm_of (an' := .inl 0) (by rw [sRunner, if_neg (fun z => h4 (z.1))]) rfl rfl)
  · refine aw_iload_n (pc := 7) C 2 dX9_runner_7 rfl ?_
    refine aw_i2l (pc := 8) C dX9_runner_8 ?_
    refine aw_lconst (pc := 9) (v := 0) C dX9_runner_9 rfl ?_
    refine aw_ldc2 (pc := 10) C dX9_runner_10 kc_X9_58 ?_
    refine aw_cSI (pc := 13) C (c_X9_in _ a 0 9 _ _ _ rfl (by decide) (by decide)) lk_X9_54 dX9_runner_13 (by decide) (Nat.le_of_ble_eq_true rfl) rfl rfl ?_
    refine aw_if_eqB (pc := 16) C 31 dX9_runner_16 (by decide) (fun h16 => ?_) (fun h16 => ?_)
    · refine aw_aload_n (pc := 31) C 0 dX9_runner_31 rfl ?_
      refine aw_ldc (pc := 32) C dX9_runner_32 kc_X9_46 ?_
      refine aw_cVI (pc := 34) C (c_X9_finds _ (-100000001) 0 (by decide) (by decide)) lk_X9_48 sh73 rfl dX9_runner_34 (by decide) (Nat.le_of_ble_eq_true rfl) rfl rfl ?_
      exact aw_iretP (pc := 37) C rfl dX9_runner_37 (pm_of (an' := .inl 0) (by rw [sRunner, if_neg (fun z => h16 (z.2.1))]) rfl rfl)
    · refine aw_iload_n (pc := 19) C 3 dX9_runner_19 rfl ?_
      refine aw_i2l (pc := 20) C dX9_runner_20 ?_
      refine aw_lconst (pc := 21) (v := 0) C dX9_runner_21 rfl ?_
      refine aw_ldc2 (pc := 22) C dX9_runner_22 kc_X9_84 ?_
      refine aw_cSI (pc := 25) C (c_X9_in _ s 0 5 _ _ _ rfl (by decide) (by decide)) lk_X9_54 dX9_runner_25 (by decide) (Nat.le_of_ble_eq_true rfl) rfl rfl ?_
      refine aw_if_neB (pc := 28) C 38 dX9_runner_28 (by decide) (fun h28 => ?_) (fun h28 => ?_)
      · refine aw_aload_n (pc := 38) C 0 dX9_runner_38 rfl ?_
        refine aw_getR (pc := 39) C fl_X9_9 sh73 rfl dX9_runner_39 ?_
        refine aw_iconst (pc := 42) (v := 2) C dX9_runner_42 rfl ?_
        refine aw_ild (pc := 43) (k := 2) C (2) (σ.1 20 2) sh74 dX9_runner_43 rfl (by omega) rfl rfl ?_
        refine aw_top C (nI (n)) hn ?_
        refine aw_bipush (pc := 44) (v := 6) C dX9_runner_44 rfl ?_
        refine aw_icmp_neN (pc := 46) C n 6 58 rfl rfl (by omega) (by omega) dX9_runner_46 (by decide) (fun h46 => ?_) (fun h46 => ?_)
        · refine aw_aload_n (pc := 58) C 0 dX9_runner_58 rfl ?_
          refine aw_iload_n (pc := 59) C 1 dX9_runner_59 rfl ?_
          refine aw_iload_n (pc := 60) C 2 dX9_runner_60 rfl ?_
          refine aw_iload_n (pc := 61) C 3 dX9_runner_61 rfl ?_
          refine aw_iconst (pc := 62) (v := 4) C dX9_runner_62 rfl ?_
          refine aw_cVI (pc := 63) C (c_X9_comes _ n hn (by omega) k a s 4 ) lk_X9_87 sh73 rfl dX9_runner_63 (by decide) (Nat.le_of_ble_eq_true rfl) rfl rfl ?_
          exact aw_iretP (pc := 66) C rfl dX9_runner_66 (pm_of (an' := .inr (nI (n), newR (σ.1 20) n k a s 4)) (by rw [sRunner, if_pos ⟨h4, h16, h28⟩, if_neg h46]) rfl rfl)
        · refine aw_aload_n (pc := 49) C 0 dX9_runner_49 rfl ?_
          refine aw_ldc (pc := 50) C dX9_runner_50 kc_X9_86 ?_
          refine aw_cVI (pc := 52) C (c_X9_finds _ (-100000002) 1 (by decide) (by decide)) lk_X9_48 sh73 rfl dX9_runner_52 (by decide) (Nat.le_of_ble_eq_true rfl) rfl rfl ?_
          refine aw_goto (pc := 55) C 66 dX9_runner_55 (by decide) ?_
          exact aw_iretP (pc := 66) C rfl dX9_runner_66 (pm_of (an' := .inl 1) (by rw [sRunner, if_pos ⟨h4, h16, h28⟩, if_pos h46]) rfl rfl)
      · refine aw_aload_n (pc := 31) C 0 dX9_runner_31 rfl ?_
        refine aw_ldc (pc := 32) C dX9_runner_32 kc_X9_46 ?_
        refine aw_cVI (pc := 34) C (c_X9_finds _ (-100000001) 0 (by decide) (by decide)) lk_X9_48 sh73 rfl dX9_runner_34 (by decide) (Nat.le_of_ble_eq_true rfl) rfl rfl ?_
        exact aw_iretP (pc := 37) C rfl dX9_runner_37 (pm_of (an' := .inl 0) (by rw [sRunner, if_neg (fun z => h28 (z.2.2))]) rfl rfl)
theorem c_X9_of (σ : St) (n : Nat) (hn : σ.1 20 2 = nI n) (hz : n ≤ 6) (r w : Int32) : AMet Y_X9_of [.ref 73, .int r, .int w] σ (PM σ (sOf (σ.1 20) n r w)) := by
  refine am_intro (by decide +kernel) (Nat.le_of_ble_eq_true rfl) (fun K C => ?_)
  refine aw_aload_n (pc := 0) C 0 dX9_of_0 rfl ?_
  refine aw_iload_n (pc := 1) C 1 dX9_of_1 rfl ?_
  refine aw_cVI (pc := 2) C (c_X9_isRunner _ n hn hz r ) lk_X9_91 sh73 rfl dX9_of_2 (by decide) (Nat.le_of_ble_eq_true rfl) rfl rfl ?_
  refine aw_if_eqB (pc := 5) C 20 dX9_of_5 (by decide) (fun h5 => ?_) (fun h5 => ?_)
  · refine aw_aload_n (pc := 20) C 0 dX9_of_20 rfl ?_
    refine aw_ldc (pc := 21) C dX9_of_21 kc_X9_46 ?_
    refine aw_cVI (pc := 23) C (c_X9_finds _ (-100000001) 0 (by decide) (by decide)) lk_X9_48 sh73 rfl dX9_of_23 (by decide) (Nat.le_of_ble_eq_true rfl) rfl rfl ?_
    exact aw_iretP (pc := 26) C rfl dX9_of_26 (pm_of (an' := .inl 0) (by rw [sOf, if_neg (fun z => h5 (z.1))]) rfl rfl)
  · refine aw_iload_n (pc := 8) C 2 dX9_of_8 rfl ?_
    refine aw_i2l (pc := 9) C dX9_of_9 ?_
    refine aw_lconst (pc := 10) (v := 0) C dX9_of_10 rfl ?_
    refine aw_ldc2 (pc := 11) C dX9_of_11 kc_X9_94 ?_
    refine aw_cSI (pc := 14) C (c_X9_in _ w 0 7 _ _ _ rfl (by decide) (by decide)) lk_X9_54 dX9_of_14 (by decide) (Nat.le_of_ble_eq_true rfl) rfl rfl ?_
    refine aw_if_neB (pc := 17) C 27 dX9_of_17 (by decide) (fun h17 => ?_) (fun h17 => ?_)
    · obtain ⟨rr, rfl, hrr⟩ := rgR h5 hz
      obtain ⟨ww, rfl, hww0, hww⟩ := rg 0 7 h17 (by omega) (by omega)
      refine aw_iload_n (pc := 27) C 2 dX9_of_27 rfl ?_
      refine aw_bipush (pc := 28) (v := 7) C dX9_of_28 rfl ?_
      refine aw_icmp_geN (pc := 30) C ww 7 42 rfl rfl (by omega) (by omega) dX9_of_30 (by decide) (fun h30 => ?_) (fun h30 => ?_)
      · refine aw_aload_n (pc := 42) C 0 dX9_of_42 rfl ?_
        refine aw_iload_n (pc := 43) C 1 dX9_of_43 rfl ?_
        refine aw_cVI (pc := 44) C (c_X9_holds _ rr (by omega)) lk_X9_96 sh73 rfl dX9_of_44 (by decide) (Nat.le_of_ble_eq_true rfl) rfl rfl ?_
        exact aw_iretP (pc := 47) C rfl dX9_of_47 (pm_of (an' := .inr (holdsM (σ.1 20) rr, σ.1 20)) (by rw [sOf, if_pos ⟨h5, h17⟩, cl_nI (show rr < 2147483648 by omega), cl_nI (show ww < 2147483648 by omega), if_neg (Nat.not_lt.mpr h30)]) rfl (setR_same _ 20).symm)
      · refine aw_aload_n (pc := 33) C 0 dX9_of_33 rfl ?_
        refine aw_iload_n (pc := 34) C 1 dX9_of_34 rfl ?_
        refine aw_iload_n (pc := 35) C 2 dX9_of_35 rfl ?_
        refine aw_cVI (pc := 36) C (c_X9_is _ rr ww (by omega)) lk_X9_62 sh73 rfl dX9_of_36 (by decide) (Nat.le_of_ble_eq_true rfl) rfl rfl ?_
        refine aw_goto (pc := 39) C 47 dX9_of_39 (by decide) ?_
        exact aw_iretP (pc := 47) C rfl dX9_of_47 (pm_of (an' := .inr (σ.1 20 (33 + 37 * rr + ww), σ.1 20)) (by rw [sOf, if_pos ⟨h5, h17⟩, cl_nI (show rr < 2147483648 by omega), cl_nI (show ww < 2147483648 by omega), if_pos h30]) rfl (setR_same _ 20).symm)
    · refine aw_aload_n (pc := 20) C 0 dX9_of_20 rfl ?_
      refine aw_ldc (pc := 21) C dX9_of_21 kc_X9_46 ?_
      refine aw_cVI (pc := 23) C (c_X9_finds _ (-100000001) 0 (by decide) (by decide)) lk_X9_48 sh73 rfl dX9_of_23 (by decide) (Nat.le_of_ble_eq_true rfl) rfl rfl ?_
      exact aw_iretP (pc := 26) C rfl dX9_of_26 (pm_of (an' := .inl 0) (by rw [sOf, if_neg (fun z => h17 (z.2))]) rfl rfl)
