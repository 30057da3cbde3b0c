/-! the reference: STEPS go on -/
theorem c_X9_stepsGo (σ : St) (n : Nat) (hok : Ok n (σ.1 20)) (N : Nat) (hN : N < 1000) : AMet Y_X9_stepsGo [.ref 73, .int (nI N)] σ (fz (some (.int (goD n (σ.1 20) N))) (setR σ 20 (goM n (σ.1 20) N))) := by
  refine am_intro (by decide +kernel) (Nat.le_of_ble_eq_true rfl) (fun K C => ?_)
  have hz := hok.1
  have hn := hok.2.1
  refine aw_iconst (pc := 0) (v := 0) C dX9_stepsGo_0 rfl ?_
  refine aw_istore_n (pc := 1) C [(2, .int 0), (0, .ref 73), (1, .int (nI N))] dX9_stepsGo_1 (Nat.le_of_ble_eq_true rfl) rfl ?_
  refine aw_iconst (pc := 2) (v := 0) C dX9_stepsGo_2 rfl ?_
  refine aw_istore_n (pc := 3) C [(3, .int 0), (2, .int 0), (0, .ref 73), (1, .int (nI N))] dX9_stepsGo_3 (Nat.le_of_ble_eq_true rfl) rfl ?_
  refine aw_lvs C [0, 1, 2, 3] [(3, .int 0), (2, .int 0), (0, .ref 73), (1, .int (nI N))] rfl ?_
  refine aw_conv (σ' := setR σ 20 (goM n (σ.1 20) 0)) (lv' := [(3, .int (nI 0)), (2, .int (goD n (σ.1 20) 0)), (0, .ref 73), (1, .int (nI N))]) (setR_same σ 20).symm rfl rfl ?_
  refine loop_up (P := fun k => AW _ K _ (setR σ 20 (goM n (σ.1 20) k)) 4 [(3, .int (nI k)), (2, .int (goD n (σ.1 20) k)), (0, .ref 73), (1, .int (nI N))] []) N ?_ ?_ 0 (by omega) 
  · refine aw_iload_n (pc := 4) C 0 dX9_stepsGo_4 rfl ?_
    refine aw_iload_n (pc := 5) C 3 dX9_stepsGo_5 rfl ?_
    refine aw_icmp_geN (pc := 6) C N N 33 rfl rfl (by omega) (by omega) dX9_stepsGo_6 (by decide) (fun h6 => ?_) (fun h6 => absurd h6 (by omega))
    refine aw_iload_n (pc := 33) C 1 dX9_stepsGo_33 rfl ?_
    exact aw_iret (pc := 34) C rfl dX9_stepsGo_34 rfl rfl
  · intro k hk4 ih4 
    refine aw_iload_n (pc := 4) C 0 dX9_stepsGo_4 rfl ?_
    refine aw_iload_n (pc := 5) C 3 dX9_stepsGo_5 rfl ?_
    refine aw_icmp_geN (pc := 6) C k N 33 rfl rfl (by omega) (by omega) dX9_stepsGo_6 (by decide) (fun h6 => absurd h6 (by omega)) (fun h6 => ?_)
    have hokk := hok.go k
    refine aw_aload_n (pc := 9) C 2 dX9_stepsGo_9 rfl ?_
    refine aw_cVI (pc := 10) C (c_X9_runsNext _ n (by first | rfl | (simp (disch := omega) only [setR_at, setR_twice, setL_at, setL_twice, setR_2, setL_1, setR_ne, setL_ne, ne_eq, Nat.reduceEqDiff, not_false_eq_true, pk_us, pk_un]; exact hokk.2.1)) hz ) lk_X9_139 sh73 rfl dX9_stepsGo_10 (by decide) (Nat.le_of_ble_eq_true rfl) rfl rfl ?_
    refine aw_conv (σ' := setR σ 20 (goM n (σ.1 20) k)) (st' := [.int (oI (nxt (goM n (σ.1 20) k) n))]) (by first | rfl | (simp (disch := omega) only [setR_at, setR_twice, setL_at, setL_twice, setR_2, setL_1, setR_ne, setL_ne, ne_eq, Nat.reduceEqDiff, not_false_eq_true, pk_us, pk_un]; done) | ((try simp (disch := omega) only [setR_at, setR_twice, setL_at, setL_twice, setR_2, setL_1, setR_ne, setL_ne, ne_eq, Nat.reduceEqDiff, not_false_eq_true, pk_us, pk_un]); refine Prod.ext (funext fun z => ?_) rfl; simp only [setR]; (repeat' split) <;> first | rfl | (exfalso; omega))) rfl (by first | rfl | (simp (disch := omega) only [setR_at, setR_twice, setL_at, setL_twice, setR_2, setL_1, setR_ne, setL_ne, ne_eq, Nat.reduceEqDiff, not_false_eq_true, pk_us, pk_un]; done) | ((try simp (disch := omega) only [setR_at, setR_twice, setL_at, setL_twice, setR_2, setL_1, setR_ne, setL_ne, ne_eq, Nat.reduceEqDiff, not_false_eq_true, pk_us, pk_un]); refine Prod.ext (funext fun z => ?_) rfl; simp only [setR]; (repeat' split) <;> first | rfl | (exfalso; omega))) ?_
    rcases hb : nxt (goM n (σ.1 20) k) n with _ | b
    · refine aw_top C ((-1)) rfl ?_
      refine aw_if_lt (pc := 13) C 33 dX9_stepsGo_13 (by decide) (fun h13 => ?_) (fun h13 => absurd h13 (by decide))
      refine aw_iload_n (pc := 33) C 1 dX9_stepsGo_33 rfl ?_
      exact aw_iret (pc := 34) C rfl dX9_stepsGo_34 (go_stuck' hb (Nat.le_of_lt hk4)).2.symm (by rw [(go_stuck' hb (Nat.le_of_lt hk4)).1])
    · have hbl := nxt_lt hb
      obtain ⟨y, hy3, hy⟩ := hokk.yard hbl.1 hbl.2
      refine aw_top C (nI (b)) rfl ?_
      refine aw_if_lt (pc := 13) C 33 dX9_stepsGo_13 (by decide) (fun h13 => absurd h13 (nI_pos (by omega))) (fun h13 => ?_)
      refine aw_iload_n (pc := 16) C 1 dX9_stepsGo_16 rfl ?_
      refine aw_aload_n (pc := 17) C 2 dX9_stepsGo_17 rfl ?_
      refine aw_aload_n (pc := 18) C 2 dX9_stepsGo_18 rfl ?_
      refine aw_cVI (pc := 19) C (c_X9_runsNext _ n (by first | rfl | (simp (disch := omega) only [setR_at, setR_twice, setL_at, setL_twice, setR_2, setL_1, setR_ne, setL_ne, ne_eq, Nat.reduceEqDiff, not_false_eq_true, pk_us, pk_un]; exact hokk.2.1)) hz ) lk_X9_139 sh73 rfl dX9_stepsGo_19 (by decide) (Nat.le_of_ble_eq_true rfl) rfl rfl ?_
      refine aw_conv (σ' := setR σ 20 (goM n (σ.1 20) k)) (st' := [.int (oI (nxt (goM n (σ.1 20) k) n)), .ref 73, .int (goD n (σ.1 20) k)]) (by first | rfl | (simp (disch := omega) only [setR_at, setR_twice, setL_at, setL_twice, setR_2, setL_1, setR_ne, setL_ne, ne_eq, Nat.reduceEqDiff, not_false_eq_true, pk_us, pk_un]; done) | ((try simp (disch := omega) only [setR_at, setR_twice, setL_at, setL_twice, setR_2, setL_1, setR_ne, setL_ne, ne_eq, Nat.reduceEqDiff, not_false_eq_true, pk_us, pk_un]); refine Prod.ext (funext fun z => ?_) rfl; simp only [setR]; (repeat' split) <;> first | rfl | (exfalso; omega))) rfl (by first | rfl | (simp (disch := omega) only [setR_at, setR_twice, setL_at, setL_twice, setR_2, setL_1, setR_ne, setL_ne, ne_eq, Nat.reduceEqDiff, not_false_eq_true, pk_us, pk_un]; done) | ((try simp (disch := omega) only [setR_at, setR_twice, setL_at, setL_twice, setR_2, setL_1, setR_ne, setL_ne, ne_eq, Nat.reduceEqDiff, not_false_eq_true, pk_us, pk_un]); refine Prod.ext (funext fun z => ?_) rfl; simp only [setR]; (repeat' split) <;> first | rfl | (exfalso; omega))) ?_
      refine aw_top C (nI (b)) (by rw [hb]; rfl) ?_
      refine aw_cVI (pc := 22) C (c_X9_step _ n (by first | rfl | (simp (disch := omega) only [setR_at, setR_twice, setL_at, setL_twice, setR_2, setL_1, setR_ne, setL_ne, ne_eq, Nat.reduceEqDiff, not_false_eq_true, pk_us, pk_un]; exact hokk.2.1)) hz b (by omega) y (by simp (disch := omega) only [setR_at, setR_twice, setL_at, setL_twice, setR_2, setL_1, setR_ne, setL_ne, ne_eq, Nat.reduceEqDiff, not_false_eq_true, pk_us, pk_un]; exact hy) hy3) lk_X9_149 sh73 rfl dX9_stepsGo_22 (by decide) (Nat.le_of_ble_eq_true rfl) rfl rfl ?_
      refine aw_conv (σ' := setR σ 20 (stepM (goM n (σ.1 20) k) n b)) (st' := [.int (stepD (goM n (σ.1 20) k) n b), .int (goD n (σ.1 20) k)]) (by first | rfl | (simp (disch := omega) only [setR_at, setR_twice, setL_at, setL_twice, setR_2, setL_1, setR_ne, setL_ne, ne_eq, Nat.reduceEqDiff, not_false_eq_true, pk_us, pk_un]; done) | ((try simp (disch := omega) only [setR_at, setR_twice, setL_at, setL_twice, setR_2, setL_1, setR_ne, setL_ne, ne_eq, Nat.reduceEqDiff, not_false_eq_true, pk_us, pk_un]); refine Prod.ext (funext fun z => ?_) rfl; simp only [setR]; (repeat' split) <;> first | rfl | (exfalso; omega))) rfl (by first | rfl | (simp (disch := omega) only [setR_at, setR_twice, setL_at, setL_twice, setR_2, setL_1, setR_ne, setL_ne, ne_eq, Nat.reduceEqDiff, not_false_eq_true, pk_us, pk_un]; done) | ((try simp (disch := omega) only [setR_at, setR_twice, setL_at, setL_twice, setR_2, setL_1, setR_ne, setL_ne, ne_eq, Nat.reduceEqDiff, not_false_eq_true, pk_us, pk_un]); refine Prod.ext (funext fun z => ?_) rfl; simp only [setR]; (repeat' split) <;> first | rfl | (exfalso; omega))) ?_
      refine aw_iadd (pc := 25) C dX9_stepsGo_25 ?_
      refine aw_istore_n (pc := 26) C [(2, .int ((goD n (σ.1 20) k) + (stepD (goM n (σ.1 20) k) n b))), (3, .int (nI k)), (0, .ref 73), (1, .int (nI N))] dX9_stepsGo_26 (Nat.le_of_ble_eq_true rfl) rfl ?_
      refine aw_iincN (pc := 27) C 1 k [(3, .int (nI (k + 1))), (2, .int ((goD n (σ.1 20) k) + (stepD (goM n (σ.1 20) k) n b))), (0, .ref 73), (1, .int (nI N))] dX9_stepsGo_27 rfl rfl rfl (Nat.le_of_ble_eq_true rfl) rfl ?_
      refine aw_goto (pc := 30) C 4 dX9_stepsGo_30 (by decide) ?_
      refine aw_lvs C [0, 1, 2, 3] [(3, .int (nI (k + 1))), (2, .int ((goD n (σ.1 20) k) + (stepD (goM n (σ.1 20) k) n b))), (0, .ref 73), (1, .int (nI N))] rfl ?_
      exact aw_conv (σ' := setR σ 20 (goM n (σ.1 20) (k + 1))) (lv' := [(3, .int (nI (k + 1))), (2, .int (goD n (σ.1 20) (k + 1))), (0, .ref 73), (1, .int (nI N))]) (by rw [goM_s hb]) (by rw [goD_s hb]) rfl ih4
