/-! the class: a RUNNER -/
theorem c_X4_takes (σ : St) (j : Nat) (hj : j < 3) (i : Nat) (hi : i < 6) (k : Nat) (hk : σ.1 j (33 + 37 * i + 0) = nI k) (hk7 : k < 7) (p : Int32) : AMet Y_X4_takes [.ref (29 + 16 * j + 2 * i), .int p] σ (fz (some (.int (sTakes (fl (σ.1 j) i 0) p))) (σ)) := by
  refine am_intro (by decide +kernel) (Nat.le_of_ble_eq_true rfl) (fun K C => ?_)
  refine aw_bipush (pc := 0) (v := 12) C dX4_takes_0 rfl ?_
  refine aw_iload_n (pc := 2) C 1 dX4_takes_2 rfl ?_
  refine aw_isub (pc := 3) C dX4_takes_3 ?_
  refine aw_getst (pc := 4) (i := 3) C rfl rfl (by decide) dX4_takes_4 ?_
  refine aw_aload_n (pc := 7) C 0 dX4_takes_7 rfl ?_
  refine aw_gld (pc := 8) C (σ.1 j (33 + 37 * i + 0)) fl_X4_21 (shR hj hi) rfl dX4_takes_8 rfl ?_
  refine aw_top C (nI (k)) hk ?_
  refine aw_tab (pc := 11) (i := 3) (k := k) C rfl dX4_takes_11 rfl (by first | decide | omega) ?_
  refine aw_iadd (pc := 12) C dX4_takes_12 ?_
  exact aw_iret (pc := 13) C rfl dX4_takes_13 ((takesC hk7 p).trans (by rw [← hk])) rfl
theorem c_X4_rocks (σ : St) (j : Nat) (hj : j < 3) (i : Nat) (hi : i < 6) (k : Nat) (hk : σ.1 j (33 + 37 * i + 0) = nI k) (hk7 : k < 7) (p : Nat) (hp1 : 1 ≤ p) (hp9 : p ≤ 9) : AMet Y_X4_rocks [.ref (29 + 16 * j + 2 * i), .int (nI p)] σ (fz (some (.int (sRocks (fl (σ.1 j) i 0) (nI p)))) (σ)) := by
  refine am_intro (by decide +kernel) (Nat.le_of_ble_eq_true rfl) (fun K C => ?_)
  refine aw_aload_n (pc := 0) C 0 dX4_rocks_0 rfl ?_
  refine aw_gld (pc := 1) C (σ.1 j (33 + 37 * i + 0)) fl_X4_21 (shR hj hi) rfl dX4_rocks_1 rfl ?_
  refine aw_iconst (pc := 4) (v := 4) C dX4_rocks_4 rfl ?_
  refine aw_icmp_ne (pc := 5) C 16 dX4_rocks_5 (by decide) (fun h5 => ?_) (fun h5 => ?_)
  · refine aw_getst (pc := 16) (i := 0) C rfl rfl (by decide) dX4_rocks_16 ?_
    refine aw_iload_n (pc := 19) C 1 dX4_rocks_19 rfl ?_
    refine aw_tab (pc := 20) (i := 0) (k := p) C rfl dX4_rocks_20 rfl (show p < 10 by omega) ?_
    refine aw_getst (pc := 21) (i := 4) C rfl rfl (by decide) dX4_rocks_21 ?_
    refine aw_aload_n (pc := 24) C 0 dX4_rocks_24 rfl ?_
    refine aw_gld (pc := 25) C (σ.1 j (33 + 37 * i + 0)) fl_X4_21 (shR hj hi) rfl dX4_rocks_25 rfl ?_
    refine aw_top C (nI (k)) hk ?_
    refine aw_tab (pc := 28) (i := 4) (k := k) C rfl dX4_rocks_28 rfl (by first | decide | omega) ?_
    refine aw_iadd (pc := 29) C dX4_rocks_29 ?_
    exact aw_iret (pc := 30) C rfl dX4_rocks_30 ((rocksC k hk7 p (by omega) hp1 (fun z => h5 (hk.trans (by rw [z.1]; rfl)))).trans (by rw [← hk])) rfl
  · refine aw_iload_n (pc := 8) C 1 dX4_rocks_8 rfl ?_
    refine aw_bipush (pc := 9) (v := 6) C dX4_rocks_9 rfl ?_
    refine aw_icmp_neN (pc := 11) C p 6 16 rfl rfl (by omega) (by omega) dX4_rocks_11 (by decide) (fun h11 => ?_) (fun h11 => ?_)
    · refine aw_getst (pc := 16) (i := 0) C rfl rfl (by decide) dX4_rocks_16 ?_
      refine aw_iload_n (pc := 19) C 1 dX4_rocks_19 rfl ?_
      refine aw_tab (pc := 20) (i := 0) (k := p) C rfl dX4_rocks_20 rfl (show p < 10 by omega) ?_
      refine aw_getst (pc := 21) (i := 4) C rfl rfl (by decide) dX4_rocks_21 ?_
      refine aw_aload_n (pc := 24) C 0 dX4_rocks_24 rfl ?_
      refine aw_gld (pc := 25) C (σ.1 j (33 + 37 * i + 0)) fl_X4_21 (shR hj hi) rfl dX4_rocks_25 rfl ?_
      refine aw_top C (nI (k)) hk ?_
      refine aw_tab (pc := 28) (i := 4) (k := k) C rfl dX4_rocks_28 rfl (by first | decide | omega) ?_
      refine aw_iadd (pc := 29) C dX4_rocks_29 ?_
      exact aw_iret (pc := 30) C rfl dX4_rocks_30 ((rocksC k hk7 p (by omega) hp1 (fun z => h11 z.2)).trans (by rw [← hk])) rfl
    · refine aw_iconst (pc := 14) (v := 2) C dX4_rocks_14 rfl ?_
      exact aw_iret (pc := 15) C rfl dX4_rocks_15 (by rw [show fl (σ.1 j) i 0 = 4 from h5, show p = 6 from h11]; exact rocksD.symm) rfl
theorem c_X4_hurts (σ : St) (j : Nat) (hj : j < 3) (i : Nat) (hi : i < 6) (k : Nat) (hk : σ.1 j (33 + 37 * i + 0) = nI k) (hk7 : k < 7) (g : Nat) (hg : g < 5) : AMet Y_X4_hurts [.ref (29 + 16 * j + 2 * i), .int (nI g)] σ (fz (some (.int (sHurts (fl (σ.1 j) i 0) (nI g)))) (σ)) := by
  refine am_intro (by decide +kernel) (Nat.le_of_ble_eq_true rfl) (fun K C => ?_)
  refine aw_getst (pc := 0) (i := 1) C rfl rfl (by decide) dX4_hurts_0 ?_
  refine aw_iload_n (pc := 3) C 1 dX4_hurts_3 rfl ?_
  refine aw_tab (pc := 4) (i := 1) (k := g) C rfl dX4_hurts_4 rfl (by first | decide | omega) ?_
  refine aw_getst (pc := 5) (i := 5) C rfl rfl (by decide) dX4_hurts_5 ?_
  refine aw_aload_n (pc := 8) C 0 dX4_hurts_8 rfl ?_
  refine aw_gld (pc := 9) C (σ.1 j (33 + 37 * i + 0)) fl_X4_21 (shR hj hi) rfl dX4_hurts_9 rfl ?_
  refine aw_top C (nI (k)) hk ?_
  refine aw_tab (pc := 12) (i := 5) (k := k) C rfl dX4_hurts_12 rfl (by first | decide | omega) ?_
  refine aw_imul (pc := 13) C dX4_hurts_13 ?_
  exact aw_iret (pc := 14) C rfl dX4_hurts_14 ((hurtsC k hk7 g hg).trans (by rw [← hk])) rfl
theorem c_X4_holds (σ : St) (j : Nat) (hj : j < 3) (i : Nat) (hi : i < 6) (k : Nat) (hk : σ.1 j (33 + 37 * i + 0) = nI k) (hk7 : k < 7) : AMet Y_X4_holds [.ref (29 + 16 * j + 2 * i)] σ (fz (some (.int (holdsM (σ.1 j) i))) (σ)) := by
  refine am_intro (by decide +kernel) (Nat.le_of_ble_eq_true rfl) (fun K C => ?_)
  refine aw_aload_n (pc := 0) C 0 dX4_holds_0 rfl ?_
  refine aw_gld (pc := 1) C (σ.1 j (33 + 37 * i + 1)) fl_X4_25 (shR hj hi) rfl dX4_holds_1 rfl ?_
  refine aw_iconst (pc := 4) (v := 2) C dX4_holds_4 rfl ?_
  refine aw_idiv (pc := 5) C dX4_holds_5 (by decide) ?_
  refine aw_aload_n (pc := 6) C 0 dX4_holds_6 rfl ?_
  refine aw_gld (pc := 7) C (σ.1 j (33 + 37 * i + 2)) fl_X4_28 (shR hj hi) rfl dX4_holds_7 rfl ?_
  refine aw_iadd (pc := 10) C dX4_holds_10 ?_
  refine aw_getst (pc := 11) (i := 6) C rfl rfl (by decide) dX4_holds_11 ?_
  refine aw_aload_n (pc := 14) C 0 dX4_holds_14 rfl ?_
  refine aw_gld (pc := 15) C (σ.1 j (33 + 37 * i + 0)) fl_X4_21 (shR hj hi) rfl dX4_holds_15 rfl ?_
  refine aw_top C (nI (k)) hk ?_
  refine aw_tab (pc := 18) (i := 6) (k := k) C rfl dX4_holds_18 rfl (by first | decide | omega) ?_
  refine aw_iadd (pc := 19) C dX4_holds_19 ?_
  exact aw_iret (pc := 20) C rfl dX4_holds_20 ((holdsC hk7 _ _).trans (by rw [holdsM, ← hk])) rfl
theorem c_X4_isHome (σ : St) (j : Nat) (hj : j < 3) (i : Nat) (hi : i < 6) (y : Nat) (hy : σ.1 j (33 + 37 * i + 3) = nI y) (hy30 : y ≤ 30) : AMet Y_X4_isHome [.ref (29 + 16 * j + 2 * i)] σ (fz (some (.int (b2i (fl (σ.1 j) i 3 = 30)))) (σ)) := by
  refine am_intro (by decide +kernel) (Nat.le_of_ble_eq_true rfl) (fun K C => ?_)
  refine aw_aload_n (pc := 0) C 0 dX4_isHome_0 rfl ?_
  refine aw_gld (pc := 1) C (σ.1 j (33 + 37 * i + 3)) fl_X4_31 (shR hj hi) rfl dX4_isHome_1 rfl ?_
  refine aw_bipush (pc := 4) (v := 30) C dX4_isHome_4 rfl ?_
  refine aw_icmp_lt (pc := 6) C 13 dX4_isHome_6 (by decide) (fun h6 => ?_) (fun h6 => ?_)
  · refine aw_iconst (pc := 13) (v := 0) C dX4_isHome_13 rfl ?_
    exact aw_zret (pc := 14) C rfl rfl dX4_isHome_14 (b2i_f (fun z => (homeC hy hy30).mpr z h6)).symm rfl
  · refine aw_iconst (pc := 9) (v := 1) C dX4_isHome_9 rfl ?_
    refine aw_goto (pc := 10) C 14 dX4_isHome_10 (by decide) ?_
    exact aw_zret (pc := 14) C rfl rfl dX4_isHome_14 (b2i_t ((homeC hy hy30).mp h6)).symm rfl
theorem c_X4_restart (σ : St) (j : Nat) (hj : j < 3) (i : Nat) (hi : i < 6) : AMet Y_X4_restart [.ref (29 + 16 * j + 2 * i)] σ (fz none (setR σ j (rstR (σ.1 j) i))) := by
  refine am_intro (by decide +kernel) (Nat.le_of_ble_eq_true rfl) (fun K C => ?_)
  refine aw_aload_n (pc := 0) C 0 dX4_restart_0 rfl ?_
  refine aw_iconst (pc := 1) (v := 0) C dX4_restart_1 rfl ?_
  refine aw_pst (pc := 2) C (setR σ j (upd (σ.1 j) (33 + 37 * i + 3) (0))) fp_X4_31 (shR hj hi) rfl dX4_restart_2 rfl ?_
  refine aw_aload_n (pc := 5) C 0 dX4_restart_5 rfl ?_
  refine aw_iconst (pc := 6) (v := 0) C dX4_restart_6 rfl ?_
  refine aw_pst (pc := 7) C (setR σ j (upd (upd (σ.1 j) (33 + 37 * i + 3) (0)) (33 + 37 * i + 4) (0))) fp_X4_34 (shR hj hi) rfl dX4_restart_7 (by first | with_reducible rfl | (simp (disch := omega) only [setR_at, setR_twice, setL_at, setL_twice, setR_2, setL_1, setR_ne, setL_ne, ne_eq, Nat.reduceEqDiff, not_false_eq_true, pk_us, pk_un]; done) | (simp (disch := omega) only [setR_at, setR_twice, setL_at, setL_twice, setR_2, setL_1, setR_ne, setL_ne, ne_eq, Nat.reduceEqDiff, not_false_eq_true, pk_us, pk_un, Option.toList_some, Option.toList_none, List.cons_append, List.nil_append]; done) | ((try simp (disch := omega) only [setR_at, setR_twice, setL_at, setL_twice, setR_2, setL_1, setR_ne, setL_ne, ne_eq, Nat.reduceEqDiff, not_false_eq_true, pk_us, pk_un]); refine Prod.ext (funext fun z => ?_) rfl; simp only [setR]; (repeat' split) <;> first | with_reducible rfl | (exfalso; omega)) | rfl) ?_
  refine aw_aload_n (pc := 10) C 0 dX4_restart_10 rfl ?_
  refine aw_iconst (pc := 11) (v := 0) C dX4_restart_11 rfl ?_
  refine aw_pst (pc := 12) C (setR σ j (upd (upd (upd (σ.1 j) (33 + 37 * i + 3) (0)) (33 + 37 * i + 4) (0)) (33 + 37 * i + 5) (0))) fp_X4_37 (shR hj hi) rfl dX4_restart_12 (by first | with_reducible rfl | (simp (disch := omega) only [setR_at, setR_twice, setL_at, setL_twice, setR_2, setL_1, setR_ne, setL_ne, ne_eq, Nat.reduceEqDiff, not_false_eq_true, pk_us, pk_un]; done) | (simp (disch := omega) only [setR_at, setR_twice, setL_at, setL_twice, setR_2, setL_1, setR_ne, setL_ne, ne_eq, Nat.reduceEqDiff, not_false_eq_true, pk_us, pk_un, Option.toList_some, Option.toList_none, List.cons_append, List.nil_append]; done) | ((try simp (disch := omega) only [setR_at, setR_twice, setL_at, setL_twice, setR_2, setL_1, setR_ne, setL_ne, ne_eq, Nat.reduceEqDiff, not_false_eq_true, pk_us, pk_un]); refine Prod.ext (funext fun z => ?_) rfl; simp only [setR]; (repeat' split) <;> first | with_reducible rfl | (exfalso; omega)) | rfl) ?_
  refine aw_aload_n (pc := 15) C 0 dX4_restart_15 rfl ?_
  refine aw_iconst (pc := 16) (v := 0) C dX4_restart_16 rfl ?_
  refine aw_pst (pc := 17) C (setR σ j (upd (upd (upd (upd (σ.1 j) (33 + 37 * i + 3) (0)) (33 + 37 * i + 4) (0)) (33 + 37 * i + 5) (0)) (33 + 37 * i + 6) (0))) fp_X4_40 (shR hj hi) rfl dX4_restart_17 (by first | with_reducible rfl | (simp (disch := omega) only [setR_at, setR_twice, setL_at, setL_twice, setR_2, setL_1, setR_ne, setL_ne, ne_eq, Nat.reduceEqDiff, not_false_eq_true, pk_us, pk_un]; done) | (simp (disch := omega) only [setR_at, setR_twice, setL_at, setL_twice, setR_2, setL_1, setR_ne, setL_ne, ne_eq, Nat.reduceEqDiff, not_false_eq_true, pk_us, pk_un, Option.toList_some, Option.toList_none, List.cons_append, List.nil_append]; done) | ((try simp (disch := omega) only [setR_at, setR_twice, setL_at, setL_twice, setR_2, setL_1, setR_ne, setL_ne, ne_eq, Nat.reduceEqDiff, not_false_eq_true, pk_us, pk_un]); refine Prod.ext (funext fun z => ?_) rfl; simp only [setR]; (repeat' split) <;> first | with_reducible rfl | (exfalso; omega)) | rfl) ?_
  exact aw_vret (pc := 20) C rfl dX4_restart_20 rfl
theorem c_X4_beNew (σ : St) (j : Nat) (hj : j < 3) (i : Nat) (hi : i < 6) (k a s : Int32) : AMet Y_X4_beNew [.ref (29 + 16 * j + 2 * i), .int k, .int a, .int s] σ (fz none (setR σ j (bnR (σ.1 j) i k a s))) := by
  refine am_intro (by decide +kernel) (Nat.le_of_ble_eq_true rfl) (fun K C => ?_)
  refine aw_aload_n (pc := 0) C 0 dX4_beNew_0 rfl ?_
  refine aw_getR (pc := 1) C fl_X4_9 (shR hj hi) rfl dX4_beNew_1 ?_
  refine aw_iconst (pc := 4) (v := 4) C dX4_beNew_4 rfl ?_
  refine aw_cS0 (pc := 5) C (c_J7_fill _  (30 + 16 * j + 2 * i) j (33 + 37 * i + 7) 30 (shP hj hi) 4 (by omega)) lk_X4_43 dX4_beNew_5 (by decide) (Nat.le_of_ble_eq_true rfl) rfl rfl ?_
  refine aw_aload_n (pc := 8) C 0 dX4_beNew_8 rfl ?_
  refine aw_iload_n (pc := 9) C 1 dX4_beNew_9 rfl ?_
  refine aw_pst (pc := 10) C (setR σ j (upd (filK (σ.1 j) (33 + 37 * i + 7) 4 30) (33 + 37 * i + 0) (k))) fp_X4_21 (shR hj hi) rfl dX4_beNew_10 (by first | with_reducible rfl | (simp (disch := omega) only [setR_at, setR_twice, setL_at, setL_twice, setR_2, setL_1, setR_ne, setL_ne, ne_eq, Nat.reduceEqDiff, not_false_eq_true, pk_us, pk_un]; done) | (simp (disch := omega) only [setR_at, setR_twice, setL_at, setL_twice, setR_2, setL_1, setR_ne, setL_ne, ne_eq, Nat.reduceEqDiff, not_false_eq_true, pk_us, pk_un, Option.toList_some, Option.toList_none, List.cons_append, List.nil_append]; done) | ((try simp (disch := omega) only [setR_at, setR_twice, setL_at, setL_twice, setR_2, setL_1, setR_ne, setL_ne, ne_eq, Nat.reduceEqDiff, not_false_eq_true, pk_us, pk_un]); refine Prod.ext (funext fun z => ?_) rfl; simp only [setR]; (repeat' split) <;> first | with_reducible rfl | (exfalso; omega)) | rfl) ?_
  refine aw_aload_n (pc := 13) C 0 dX4_beNew_13 rfl ?_
  refine aw_iload_n (pc := 14) C 2 dX4_beNew_14 rfl ?_
  refine aw_pst (pc := 15) C (setR σ j (upd (upd (filK (σ.1 j) (33 + 37 * i + 7) 4 30) (33 + 37 * i + 0) (k)) (33 + 37 * i + 1) (a))) fp_X4_25 (shR hj hi) rfl dX4_beNew_15 (by first | with_reducible rfl | (simp (disch := omega) only [setR_at, setR_twice, setL_at, setL_twice, setR_2, setL_1, setR_ne, setL_ne, ne_eq, Nat.reduceEqDiff, not_false_eq_true, pk_us, pk_un]; done) | (simp (disch := omega) only [setR_at, setR_twice, setL_at, setL_twice, setR_2, setL_1, setR_ne, setL_ne, ne_eq, Nat.reduceEqDiff, not_false_eq_true, pk_us, pk_un, Option.toList_some, Option.toList_none, List.cons_append, List.nil_append]; done) | ((try simp (disch := omega) only [setR_at, setR_twice, setL_at, setL_twice, setR_2, setL_1, setR_ne, setL_ne, ne_eq, Nat.reduceEqDiff, not_false_eq_true, pk_us, pk_un]); refine Prod.ext (funext fun z => ?_) rfl; simp only [setR]; (repeat' split) <;> first | with_reducible rfl | (exfalso; omega)) | rfl) ?_
  refine aw_aload_n (pc := 18) C 0 dX4_beNew_18 rfl ?_
  refine aw_iload_n (pc := 19) C 3 dX4_beNew_19 rfl ?_
  refine aw_pst (pc := 20) C (setR σ j (upd (upd (upd (filK (σ.1 j) (33 + 37 * i + 7) 4 30) (33 + 37 * i + 0) (k)) (33 + 37 * i + 1) (a)) (33 + 37 * i + 2) (s))) fp_X4_28 (shR hj hi) rfl dX4_beNew_20 (by first | with_reducible rfl | (simp (disch := omega) only [setR_at, setR_twice, setL_at, setL_twice, setR_2, setL_1, setR_ne, setL_ne, ne_eq, Nat.reduceEqDiff, not_false_eq_true, pk_us, pk_un]; done) | (simp (disch := omega) only [setR_at, setR_twice, setL_at, setL_twice, setR_2, setL_1, setR_ne, setL_ne, ne_eq, Nat.reduceEqDiff, not_false_eq_true, pk_us, pk_un, Option.toList_some, Option.toList_none, List.cons_append, List.nil_append]; done) | ((try simp (disch := omega) only [setR_at, setR_twice, setL_at, setL_twice, setR_2, setL_1, setR_ne, setL_ne, ne_eq, Nat.reduceEqDiff, not_false_eq_true, pk_us, pk_un]); refine Prod.ext (funext fun z => ?_) rfl; simp only [setR]; (repeat' split) <;> first | with_reducible rfl | (exfalso; omega)) | rfl) ?_
  refine aw_aload_n (pc := 23) C 0 dX4_beNew_23 rfl ?_
  refine aw_cV0 (pc := 24) C (c_X4_restart _ j hj i hi ) lk_X4_49 (shR hj hi) rfl dX4_beNew_24 (by decide) (Nat.le_of_ble_eq_true rfl) rfl rfl ?_
  refine aw_conv (σ' := setR σ j (rstR (upd (upd (upd (filK (σ.1 j) (33 + 37 * i + 7) 4 30) (33 + 37 * i + 0) (k)) (33 + 37 * i + 1) (a)) (33 + 37 * i + 2) (s)) i)) (st' := []) (by first | with_reducible rfl | (simp (disch := omega) only [setR_at, setR_twice, setL_at, setL_twice, setR_2, setL_1, setR_ne, setL_ne, ne_eq, Nat.reduceEqDiff, not_false_eq_true, pk_us, pk_un]; done) | (simp (disch := omega) only [setR_at, setR_twice, setL_at, setL_twice, setR_2, setL_1, setR_ne, setL_ne, ne_eq, Nat.reduceEqDiff, not_false_eq_true, pk_us, pk_un, Option.toList_some, Option.toList_none, List.cons_append, List.nil_append]; done) | ((try simp (disch := omega) only [setR_at, setR_twice, setL_at, setL_twice, setR_2, setL_1, setR_ne, setL_ne, ne_eq, Nat.reduceEqDiff, not_false_eq_true, pk_us, pk_un]); refine Prod.ext (funext fun z => ?_) rfl; simp only [setR]; (repeat' split) <;> first | with_reducible rfl | (exfalso; omega)) | rfl) rfl (by first | with_reducible rfl | (simp (disch := omega) only [setR_at, setR_twice, setL_at, setL_twice, setR_2, setL_1, setR_ne, setL_ne, ne_eq, Nat.reduceEqDiff, not_false_eq_true, pk_us, pk_un]; done) | (simp (disch := omega) only [setR_at, setR_twice, setL_at, setL_twice, setR_2, setL_1, setR_ne, setL_ne, ne_eq, Nat.reduceEqDiff, not_false_eq_true, pk_us, pk_un, Option.toList_some, Option.toList_none, List.cons_append, List.nil_append]; done) | ((try simp (disch := omega) only [setR_at, setR_twice, setL_at, setL_twice, setR_2, setL_1, setR_ne, setL_ne, ne_eq, Nat.reduceEqDiff, not_false_eq_true, pk_us, pk_un]); refine Prod.ext (funext fun z => ?_) rfl; simp only [setR]; (repeat' split) <;> first | with_reducible rfl | (exfalso; omega)) | rfl) ?_
  exact aw_vret (pc := 27) C rfl dX4_beNew_27 (congrArg (setR σ j) bnR_of)
theorem c_X4_become (σ : St) (j : Nat) (hj : j < 3) (i : Nat) (hi : i < 6) (k : Nat) (hk : k < 3) (hjk : j ≠ k) : AMet Y_X4_become [.ref (29 + 16 * j + 2 * i), .ref (29 + 16 * k + 2 * i)] σ (fz none (setR σ j (rbR (σ.1 j) (σ.1 k) i))) := by
  refine am_intro (by decide +kernel) (Nat.le_of_ble_eq_true rfl) (fun K C => ?_)
  refine aw_aload_n (pc := 0) C 1 dX4_become_0 rfl ?_
  refine aw_getR (pc := 1) C fl_X4_9 (shR hk hi) rfl dX4_become_1 ?_
  refine aw_iconst (pc := 4) (v := 0) C dX4_become_4 rfl ?_
  refine aw_aload_n (pc := 5) C 0 dX4_become_5 rfl ?_
  refine aw_getR (pc := 6) C fl_X4_9 (shR hj hi) rfl dX4_become_6 ?_
  refine aw_iconst (pc := 9) (v := 0) C dX4_become_9 rfl ?_
  refine aw_bipush (pc := 10) (v := 30) C dX4_become_10 rfl ?_
  refine aw_copyI (pc := 12) (sp := 0) (dp := 0) (n := 30) C (shP hk hi) (shP hj hi) ac_X4_15 (by decide) rfl rfl rfl (by omega) (by omega) (Nat.le_of_ble_eq_true rfl) dX4_become_12 ?_
  refine aw_aload_n (pc := 15) C 0 dX4_become_15 rfl ?_
  refine aw_aload_n (pc := 16) C 1 dX4_become_16 rfl ?_
  refine aw_gld (pc := 17) C (σ.1 k (33 + 37 * i + 0)) fl_X4_21 (shR hk hi) rfl dX4_become_17 (by first | with_reducible rfl | (simp (disch := omega) only [setR_at, setR_twice, setL_at, setL_twice, setR_2, setL_1, setR_ne, setL_ne, ne_eq, Nat.reduceEqDiff, not_false_eq_true, pk_us, pk_un]; done) | (simp (disch := omega) only [setR_at, setR_twice, setL_at, setL_twice, setR_2, setL_1, setR_ne, setL_ne, ne_eq, Nat.reduceEqDiff, not_false_eq_true, pk_us, pk_un, Option.toList_some, Option.toList_none, List.cons_append, List.nil_append]; done) | ((try simp (disch := omega) only [setR_at, setR_twice, setL_at, setL_twice, setR_2, setL_1, setR_ne, setL_ne, ne_eq, Nat.reduceEqDiff, not_false_eq_true, pk_us, pk_un]); refine Prod.ext (funext fun z => ?_) rfl; simp only [setR]; (repeat' split) <;> first | with_reducible rfl | (exfalso; omega)) | rfl) ?_
  refine aw_pst (pc := 20) C (setR σ j (upd (cpyR (σ.1 k) (σ.1 j) (0 + (33 + 37 * i + 7)) (0 + (33 + 37 * i + 7)) 30) (33 + 37 * i + 0) (σ.1 k (33 + 37 * i + 0)))) fp_X4_21 (shR hj hi) rfl dX4_become_20 (by first | with_reducible rfl | (simp (disch := omega) only [setR_at, setR_twice, setL_at, setL_twice, setR_2, setL_1, setR_ne, setL_ne, ne_eq, Nat.reduceEqDiff, not_false_eq_true, pk_us, pk_un]; done) | (simp (disch := omega) only [setR_at, setR_twice, setL_at, setL_twice, setR_2, setL_1, setR_ne, setL_ne, ne_eq, Nat.reduceEqDiff, not_false_eq_true, pk_us, pk_un, Option.toList_some, Option.toList_none, List.cons_append, List.nil_append]; done) | ((try simp (disch := omega) only [setR_at, setR_twice, setL_at, setL_twice, setR_2, setL_1, setR_ne, setL_ne, ne_eq, Nat.reduceEqDiff, not_false_eq_true, pk_us, pk_un]); refine Prod.ext (funext fun z => ?_) rfl; simp only [setR]; (repeat' split) <;> first | with_reducible rfl | (exfalso; omega)) | rfl) ?_
  refine aw_aload_n (pc := 23) C 0 dX4_become_23 rfl ?_
  refine aw_aload_n (pc := 24) C 1 dX4_become_24 rfl ?_
  refine aw_gld (pc := 25) C (σ.1 k (33 + 37 * i + 1)) fl_X4_25 (shR hk hi) rfl dX4_become_25 (by first | with_reducible rfl | (simp (disch := omega) only [setR_at, setR_twice, setL_at, setL_twice, setR_2, setL_1, setR_ne, setL_ne, ne_eq, Nat.reduceEqDiff, not_false_eq_true, pk_us, pk_un]; done) | (simp (disch := omega) only [setR_at, setR_twice, setL_at, setL_twice, setR_2, setL_1, setR_ne, setL_ne, ne_eq, Nat.reduceEqDiff, not_false_eq_true, pk_us, pk_un, Option.toList_some, Option.toList_none, List.cons_append, List.nil_append]; done) | ((try simp (disch := omega) only [setR_at, setR_twice, setL_at, setL_twice, setR_2, setL_1, setR_ne, setL_ne, ne_eq, Nat.reduceEqDiff, not_false_eq_true, pk_us, pk_un]); refine Prod.ext (funext fun z => ?_) rfl; simp only [setR]; (repeat' split) <;> first | with_reducible rfl | (exfalso; omega)) | rfl) ?_
  refine aw_pst (pc := 28) C (setR σ j (upd (upd (cpyR (σ.1 k) (σ.1 j) (0 + (33 + 37 * i + 7)) (0 + (33 + 37 * i + 7)) 30) (33 + 37 * i + 0) (σ.1 k (33 + 37 * i + 0))) (33 + 37 * i + 1) (σ.1 k (33 + 37 * i + 1)))) fp_X4_25 (shR hj hi) rfl dX4_become_28 (by first | with_reducible rfl | (simp (disch := omega) only [setR_at, setR_twice, setL_at, setL_twice, setR_2, setL_1, setR_ne, setL_ne, ne_eq, Nat.reduceEqDiff, not_false_eq_true, pk_us, pk_un]; done) | (simp (disch := omega) only [setR_at, setR_twice, setL_at, setL_twice, setR_2, setL_1, setR_ne, setL_ne, ne_eq, Nat.reduceEqDiff, not_false_eq_true, pk_us, pk_un, Option.toList_some, Option.toList_none, List.cons_append, List.nil_append]; done) | ((try simp (disch := omega) only [setR_at, setR_twice, setL_at, setL_twice, setR_2, setL_1, setR_ne, setL_ne, ne_eq, Nat.reduceEqDiff, not_false_eq_true, pk_us, pk_un]); refine Prod.ext (funext fun z => ?_) rfl; simp only [setR]; (repeat' split) <;> first | with_reducible rfl | (exfalso; omega)) | rfl) ?_
  refine aw_aload_n (pc := 31) C 0 dX4_become_31 rfl ?_
  refine aw_aload_n (pc := 32) C 1 dX4_become_32 rfl ?_
  refine aw_gld (pc := 33) C (σ.1 k (33 + 37 * i + 2)) fl_X4_28 (shR hk hi) rfl dX4_become_33 (by first | with_reducible rfl | (simp (disch := omega) only [setR_at, setR_twice, setL_at, setL_twice, setR_2, setL_1, setR_ne, setL_ne, ne_eq, Nat.reduceEqDiff, not_false_eq_true, pk_us, pk_un]; done) | (simp (disch := omega) only [setR_at, setR_twice, setL_at, setL_twice, setR_2, setL_1, setR_ne, setL_ne, ne_eq, Nat.reduceEqDiff, not_false_eq_true, pk_us, pk_un, Option.toList_some, Option.toList_none, List.cons_append, List.nil_append]; done) | ((try simp (disch := omega) only [setR_at, setR_twice, setL_at, setL_twice, setR_2, setL_1, setR_ne, setL_ne, ne_eq, Nat.reduceEqDiff, not_false_eq_true, pk_us, pk_un]); refine Prod.ext (funext fun z => ?_) rfl; simp only [setR]; (repeat' split) <;> first | with_reducible rfl | (exfalso; omega)) | rfl) ?_
  refine aw_pst (pc := 36) C (setR σ j (upd (upd (upd (cpyR (σ.1 k) (σ.1 j) (0 + (33 + 37 * i + 7)) (0 + (33 + 37 * i + 7)) 30) (33 + 37 * i + 0) (σ.1 k (33 + 37 * i + 0))) (33 + 37 * i + 1) (σ.1 k (33 + 37 * i + 1))) (33 + 37 * i + 2) (σ.1 k (33 + 37 * i + 2)))) fp_X4_28 (shR hj hi) rfl dX4_become_36 (by first | with_reducible rfl | (simp (disch := omega) only [setR_at, setR_twice, setL_at, setL_twice, setR_2, setL_1, setR_ne, setL_ne, ne_eq, Nat.reduceEqDiff, not_false_eq_true, pk_us, pk_un]; done) | (simp (disch := omega) only [setR_at, setR_twice, setL_at, setL_twice, setR_2, setL_1, setR_ne, setL_ne, ne_eq, Nat.reduceEqDiff, not_false_eq_true, pk_us, pk_un, Option.toList_some, Option.toList_none, List.cons_append, List.nil_append]; done) | ((try simp (disch := omega) only [setR_at, setR_twice, setL_at, setL_twice, setR_2, setL_1, setR_ne, setL_ne, ne_eq, Nat.reduceEqDiff, not_false_eq_true, pk_us, pk_un]); refine Prod.ext (funext fun z => ?_) rfl; simp only [setR]; (repeat' split) <;> first | with_reducible rfl | (exfalso; omega)) | rfl) ?_
  refine aw_aload_n (pc := 39) C 0 dX4_become_39 rfl ?_
  refine aw_aload_n (pc := 40) C 1 dX4_become_40 rfl ?_
  refine aw_gld (pc := 41) C (σ.1 k (33 + 37 * i + 3)) fl_X4_31 (shR hk hi) rfl dX4_become_41 (by first | with_reducible rfl | (simp (disch := omega) only [setR_at, setR_twice, setL_at, setL_twice, setR_2, setL_1, setR_ne, setL_ne, ne_eq, Nat.reduceEqDiff, not_false_eq_true, pk_us, pk_un]; done) | (simp (disch := omega) only [setR_at, setR_twice, setL_at, setL_twice, setR_2, setL_1, setR_ne, setL_ne, ne_eq, Nat.reduceEqDiff, not_false_eq_true, pk_us, pk_un, Option.toList_some, Option.toList_none, List.cons_append, List.nil_append]; done) | ((try simp (disch := omega) only [setR_at, setR_twice, setL_at, setL_twice, setR_2, setL_1, setR_ne, setL_ne, ne_eq, Nat.reduceEqDiff, not_false_eq_true, pk_us, pk_un]); refine Prod.ext (funext fun z => ?_) rfl; simp only [setR]; (repeat' split) <;> first | with_reducible rfl | (exfalso; omega)) | rfl) ?_
  refine aw_pst (pc := 44) C (setR σ j (upd (upd (upd (upd (cpyR (σ.1 k) (σ.1 j) (0 + (33 + 37 * i + 7)) (0 + (33 + 37 * i + 7)) 30) (33 + 37 * i + 0) (σ.1 k (33 + 37 * i + 0))) (33 + 37 * i + 1) (σ.1 k (33 + 37 * i + 1))) (33 + 37 * i + 2) (σ.1 k (33 + 37 * i + 2))) (33 + 37 * i + 3) (σ.1 k (33 + 37 * i + 3)))) fp_X4_31 (shR hj hi) rfl dX4_become_44 (by first | with_reducible rfl | (simp (disch := omega) only [setR_at, setR_twice, setL_at, setL_twice, setR_2, setL_1, setR_ne, setL_ne, ne_eq, Nat.reduceEqDiff, not_false_eq_true, pk_us, pk_un]; done) | (simp (disch := omega) only [setR_at, setR_twice, setL_at, setL_twice, setR_2, setL_1, setR_ne, setL_ne, ne_eq, Nat.reduceEqDiff, not_false_eq_true, pk_us, pk_un, Option.toList_some, Option.toList_none, List.cons_append, List.nil_append]; done) | ((try simp (disch := omega) only [setR_at, setR_twice, setL_at, setL_twice, setR_2, setL_1, setR_ne, setL_ne, ne_eq, Nat.reduceEqDiff, not_false_eq_true, pk_us, pk_un]); refine Prod.ext (funext fun z => ?_) rfl; simp only [setR]; (repeat' split) <;> first | with_reducible rfl | (exfalso; omega)) | rfl) ?_
  refine aw_aload_n (pc := 47) C 0 dX4_become_47 rfl ?_
  refine aw_aload_n (pc := 48) C 1 dX4_become_48 rfl ?_
  refine aw_gld (pc := 49) C (σ.1 k (33 + 37 * i + 4)) fl_X4_34 (shR hk hi) rfl dX4_become_49 (by first | with_reducible rfl | (simp (disch := omega) only [setR_at, setR_twice, setL_at, setL_twice, setR_2, setL_1, setR_ne, setL_ne, ne_eq, Nat.reduceEqDiff, not_false_eq_true, pk_us, pk_un]; done) | (simp (disch := omega) only [setR_at, setR_twice, setL_at, setL_twice, setR_2, setL_1, setR_ne, setL_ne, ne_eq, Nat.reduceEqDiff, not_false_eq_true, pk_us, pk_un, Option.toList_some, Option.toList_none, List.cons_append, List.nil_append]; done) | ((try simp (disch := omega) only [setR_at, setR_twice, setL_at, setL_twice, setR_2, setL_1, setR_ne, setL_ne, ne_eq, Nat.reduceEqDiff, not_false_eq_true, pk_us, pk_un]); refine Prod.ext (funext fun z => ?_) rfl; simp only [setR]; (repeat' split) <;> first | with_reducible rfl | (exfalso; omega)) | rfl) ?_
  refine aw_pst (pc := 52) C (setR σ j (upd (upd (upd (upd (upd (cpyR (σ.1 k) (σ.1 j) (0 + (33 + 37 * i + 7)) (0 + (33 + 37 * i + 7)) 30) (33 + 37 * i + 0) (σ.1 k (33 + 37 * i + 0))) (33 + 37 * i + 1) (σ.1 k (33 + 37 * i + 1))) (33 + 37 * i + 2) (σ.1 k (33 + 37 * i + 2))) (33 + 37 * i + 3) (σ.1 k (33 + 37 * i + 3))) (33 + 37 * i + 4) (σ.1 k (33 + 37 * i + 4)))) fp_X4_34 (shR hj hi) rfl dX4_become_52 (by first | with_reducible rfl | (simp (disch := omega) only [setR_at, setR_twice, setL_at, setL_twice, setR_2, setL_1, setR_ne, setL_ne, ne_eq, Nat.reduceEqDiff, not_false_eq_true, pk_us, pk_un]; done) | (simp (disch := omega) only [setR_at, setR_twice, setL_at, setL_twice, setR_2, setL_1, setR_ne, setL_ne, ne_eq, Nat.reduceEqDiff, not_false_eq_true, pk_us, pk_un, Option.toList_some, Option.toList_none, List.cons_append, List.nil_append]; done) | ((try simp (disch := omega) only [setR_at, setR_twice, setL_at, setL_twice, setR_2, setL_1, setR_ne, setL_ne, ne_eq, Nat.reduceEqDiff, not_false_eq_true, pk_us, pk_un]); refine Prod.ext (funext fun z => ?_) rfl; simp only [setR]; (repeat' split) <;> first | with_reducible rfl | (exfalso; omega)) | rfl) ?_
  refine aw_aload_n (pc := 55) C 0 dX4_become_55 rfl ?_
  refine aw_aload_n (pc := 56) C 1 dX4_become_56 rfl ?_
  refine aw_gld (pc := 57) C (σ.1 k (33 + 37 * i + 5)) fl_X4_37 (shR hk hi) rfl dX4_become_57 (by first | with_reducible rfl | (simp (disch := omega) only [setR_at, setR_twice, setL_at, setL_twice, setR_2, setL_1, setR_ne, setL_ne, ne_eq, Nat.reduceEqDiff, not_false_eq_true, pk_us, pk_un]; done) | (simp (disch := omega) only [setR_at, setR_twice, setL_at, setL_twice, setR_2, setL_1, setR_ne, setL_ne, ne_eq, Nat.reduceEqDiff, not_false_eq_true, pk_us, pk_un, Option.toList_some, Option.toList_none, List.cons_append, List.nil_append]; done) | ((try simp (disch := omega) only [setR_at, setR_twice, setL_at, setL_twice, setR_2, setL_1, setR_ne, setL_ne, ne_eq, Nat.reduceEqDiff, not_false_eq_true, pk_us, pk_un]); refine Prod.ext (funext fun z => ?_) rfl; simp only [setR]; (repeat' split) <;> first | with_reducible rfl | (exfalso; omega)) | rfl) ?_
  refine aw_pst (pc := 60) C (setR σ j (upd (upd (upd (upd (upd (upd (cpyR (σ.1 k) (σ.1 j) (0 + (33 + 37 * i + 7)) (0 + (33 + 37 * i + 7)) 30) (33 + 37 * i + 0) (σ.1 k (33 + 37 * i + 0))) (33 + 37 * i + 1) (σ.1 k (33 + 37 * i + 1))) (33 + 37 * i + 2) (σ.1 k (33 + 37 * i + 2))) (33 + 37 * i + 3) (σ.1 k (33 + 37 * i + 3))) (33 + 37 * i + 4) (σ.1 k (33 + 37 * i + 4))) (33 + 37 * i + 5) (σ.1 k (33 + 37 * i + 5)))) fp_X4_37 (shR hj hi) rfl dX4_become_60 (by first | with_reducible rfl | (simp (disch := omega) only [setR_at, setR_twice, setL_at, setL_twice, setR_2, setL_1, setR_ne, setL_ne, ne_eq, Nat.reduceEqDiff, not_false_eq_true, pk_us, pk_un]; done) | (simp (disch := omega) only [setR_at, setR_twice, setL_at, setL_twice, setR_2, setL_1, setR_ne, setL_ne, ne_eq, Nat.reduceEqDiff, not_false_eq_true, pk_us, pk_un, Option.toList_some, Option.toList_none, List.cons_append, List.nil_append]; done) | ((try simp (disch := omega) only [setR_at, setR_twice, setL_at, setL_twice, setR_2, setL_1, setR_ne, setL_ne, ne_eq, Nat.reduceEqDiff, not_false_eq_true, pk_us, pk_un]); refine Prod.ext (funext fun z => ?_) rfl; simp only [setR]; (repeat' split) <;> first | with_reducible rfl | (exfalso; omega)) | rfl) ?_
  refine aw_aload_n (pc := 63) C 0 dX4_become_63 rfl ?_
  refine aw_aload_n (pc := 64) C 1 dX4_become_64 rfl ?_
  refine aw_gld (pc := 65) C (σ.1 k (33 + 37 * i + 6)) fl_X4_40 (shR hk hi) rfl dX4_become_65 (by first | with_reducible rfl | (simp (disch := omega) only [setR_at, setR_twice, setL_at, setL_twice, setR_2, setL_1, setR_ne, setL_ne, ne_eq, Nat.reduceEqDiff, not_false_eq_true, pk_us, pk_un]; done) | (simp (disch := omega) only [setR_at, setR_twice, setL_at, setL_twice, setR_2, setL_1, setR_ne, setL_ne, ne_eq, Nat.reduceEqDiff, not_false_eq_true, pk_us, pk_un, Option.toList_some, Option.toList_none, List.cons_append, List.nil_append]; done) | ((try simp (disch := omega) only [setR_at, setR_twice, setL_at, setL_twice, setR_2, setL_1, setR_ne, setL_ne, ne_eq, Nat.reduceEqDiff, not_false_eq_true, pk_us, pk_un]); refine Prod.ext (funext fun z => ?_) rfl; simp only [setR]; (repeat' split) <;> first | with_reducible rfl | (exfalso; omega)) | rfl) ?_
  refine aw_pst (pc := 68) C (setR σ j (upd (upd (upd (upd (upd (upd (upd (cpyR (σ.1 k) (σ.1 j) (0 + (33 + 37 * i + 7)) (0 + (33 + 37 * i + 7)) 30) (33 + 37 * i + 0) (σ.1 k (33 + 37 * i + 0))) (33 + 37 * i + 1) (σ.1 k (33 + 37 * i + 1))) (33 + 37 * i + 2) (σ.1 k (33 + 37 * i + 2))) (33 + 37 * i + 3) (σ.1 k (33 + 37 * i + 3))) (33 + 37 * i + 4) (σ.1 k (33 + 37 * i + 4))) (33 + 37 * i + 5) (σ.1 k (33 + 37 * i + 5))) (33 + 37 * i + 6) (σ.1 k (33 + 37 * i + 6)))) fp_X4_40 (shR hj hi) rfl dX4_become_68 (by first | with_reducible rfl | (simp (disch := omega) only [setR_at, setR_twice, setL_at, setL_twice, setR_2, setL_1, setR_ne, setL_ne, ne_eq, Nat.reduceEqDiff, not_false_eq_true, pk_us, pk_un]; done) | (simp (disch := omega) only [setR_at, setR_twice, setL_at, setL_twice, setR_2, setL_1, setR_ne, setL_ne, ne_eq, Nat.reduceEqDiff, not_false_eq_true, pk_us, pk_un, Option.toList_some, Option.toList_none, List.cons_append, List.nil_append]; done) | ((try simp (disch := omega) only [setR_at, setR_twice, setL_at, setL_twice, setR_2, setL_1, setR_ne, setL_ne, ne_eq, Nat.reduceEqDiff, not_false_eq_true, pk_us, pk_un]); refine Prod.ext (funext fun z => ?_) rfl; simp only [setR]; (repeat' split) <;> first | with_reducible rfl | (exfalso; omega)) | rfl) ?_
  exact aw_vret (pc := 71) C rfl dX4_become_71 (congrArg (setR σ j) rbR_of)
theorem c_X4_tell (σ : St) (j : Nat) (hj : j < 3) (i : Nat) (hi : i < 6) (k : Nat) (hk : σ.1 j (33 + 37 * i + 0) = nI k) (hk7 : k < 7) (w : Int32) : AMet Y_X4_tell [.ref (29 + 16 * j + 2 * i), .int w] σ (fz (some (.int (tellS (σ.1 j) i w))) (σ)) := by
  refine am_intro (by decide +kernel) (Nat.le_of_ble_eq_true rfl) (fun K C => ?_)
  refine aw_iload_n (pc := 0) C 1 dX4_tell_0 rfl ?_
  by_cases h1_0 : w = 0
  · refine aw_tableIn (pc := 1) C 44 dX4_tell_1 (by rw [h1_0]; decide) (by rw [h1_0]; decide) (by rw [h1_0]; rfl) (by decide) ?_
    refine aw_aload_n (pc := 44) C 0 dX4_tell_44 rfl ?_
    refine aw_gld (pc := 45) C (σ.1 j (33 + 37 * i + 0)) fl_X4_21 (shR hj hi) rfl dX4_tell_45 rfl ?_
    exact aw_iret (pc := 48) C rfl dX4_tell_48 (by rw [tellS, if_pos h1_0]) rfl
  by_cases h1_1 : w = 1
  · refine aw_tableIn (pc := 1) C 49 dX4_tell_1 (by rw [h1_1]; decide) (by rw [h1_1]; decide) (by rw [h1_1]; rfl) (by decide) ?_
    refine aw_aload_n (pc := 49) C 0 dX4_tell_49 rfl ?_
    refine aw_gld (pc := 50) C (σ.1 j (33 + 37 * i + 1)) fl_X4_25 (shR hj hi) rfl dX4_tell_50 rfl ?_
    exact aw_iret (pc := 53) C rfl dX4_tell_53 (by rw [tellS, if_neg h1_0, if_pos h1_1]) rfl
  by_cases h1_2 : w = 2
  · refine aw_tableIn (pc := 1) C 54 dX4_tell_1 (by rw [h1_2]; decide) (by rw [h1_2]; decide) (by rw [h1_2]; rfl) (by decide) ?_
    refine aw_aload_n (pc := 54) C 0 dX4_tell_54 rfl ?_
    refine aw_gld (pc := 55) C (σ.1 j (33 + 37 * i + 2)) fl_X4_28 (shR hj hi) rfl dX4_tell_55 rfl ?_
    exact aw_iret (pc := 58) C rfl dX4_tell_58 (by rw [tellS, if_neg h1_0, if_neg h1_1, if_pos h1_2]) rfl
  by_cases h1_3 : w = 3
  · refine aw_tableIn (pc := 1) C 59 dX4_tell_1 (by rw [h1_3]; decide) (by rw [h1_3]; decide) (by rw [h1_3]; rfl) (by decide) ?_
    refine aw_aload_n (pc := 59) C 0 dX4_tell_59 rfl ?_
    refine aw_gld (pc := 60) C (σ.1 j (33 + 37 * i + 3)) fl_X4_31 (shR hj hi) rfl dX4_tell_60 rfl ?_
    exact aw_iret (pc := 63) C rfl dX4_tell_63 (by rw [tellS, if_neg h1_0, if_neg h1_1, if_neg h1_2, if_pos h1_3]) rfl
  by_cases h1_4 : w = 4
  · refine aw_tableIn (pc := 1) C 64 dX4_tell_1 (by rw [h1_4]; decide) (by rw [h1_4]; decide) (by rw [h1_4]; rfl) (by decide) ?_
    refine aw_aload_n (pc := 64) C 0 dX4_tell_64 rfl ?_
    refine aw_gld (pc := 65) C (σ.1 j (33 + 37 * i + 4)) fl_X4_34 (shR hj hi) rfl dX4_tell_65 rfl ?_
    exact aw_iret (pc := 68) C rfl dX4_tell_68 (by rw [tellS, if_neg h1_0, if_neg h1_1, if_neg h1_2, if_neg h1_3, if_pos h1_4]) rfl
  by_cases h1_5 : w = 5
  · refine aw_tableIn (pc := 1) C 69 dX4_tell_1 (by rw [h1_5]; decide) (by rw [h1_5]; decide) (by rw [h1_5]; rfl) (by decide) ?_
    refine aw_aload_n (pc := 69) C 0 dX4_tell_69 rfl ?_
    refine aw_gld (pc := 70) C (σ.1 j (33 + 37 * i + 5)) fl_X4_37 (shR hj hi) rfl dX4_tell_70 rfl ?_
    exact aw_iret (pc := 73) C rfl dX4_tell_73 (by rw [tellS, if_neg h1_0, if_neg h1_1, if_neg h1_2, if_neg h1_3, if_neg h1_4, if_pos h1_5]) rfl
  by_cases h1_6 : w = 6
  · refine aw_tableIn (pc := 1) C 74 dX4_tell_1 (by rw [h1_6]; decide) (by rw [h1_6]; decide) (by rw [h1_6]; rfl) (by decide) ?_
    refine aw_aload_n (pc := 74) C 0 dX4_tell_74 rfl ?_
    refine aw_gld (pc := 75) C (σ.1 j (33 + 37 * i + 6)) fl_X4_40 (shR hj hi) rfl dX4_tell_75 rfl ?_
    exact aw_iret (pc := 78) C rfl dX4_tell_78 (by rw [tellS, if_neg h1_0, if_neg h1_1, if_neg h1_2, if_neg h1_3, if_neg h1_4, if_neg h1_5, if_pos h1_6]) rfl
  refine aw_tableOut (pc := 1) C 79 dX4_tell_1 (by have q0 := lv_neT (k := 0) h1_0 (a := 0) (by decide); have q1 := lv_neT (k := 1) h1_1 (a := 1) (by decide); have q2 := lv_neT (k := 2) h1_2 (a := 2) (by decide); have q3 := lv_neT (k := 3) h1_3 (a := 3) (by decide); have q4 := lv_neT (k := 4) h1_4 (a := 4) (by decide); have q5 := lv_neT (k := 5) h1_5 (a := 5) (by decide); have q6 := lv_neT (k := 6) h1_6 (a := 6) (by decide); omega) (by decide) ?_
  refine aw_aload_n (pc := 79) C 0 dX4_tell_79 rfl ?_
  refine aw_cVI (pc := 80) C (c_X4_holds _ j hj i hi k hk hk7) lk_X4_73 (shR hj hi) rfl dX4_tell_80 (by decide) (Nat.le_of_ble_eq_true rfl) rfl rfl ?_
  exact aw_iret (pc := 83) C rfl dX4_tell_83 (by rw [tellS, if_neg h1_0, if_neg h1_1, if_neg h1_2, if_neg h1_3, if_neg h1_4, if_neg h1_5, if_neg h1_6]) rfl
theorem c_X4_put (σ : St) (j : Nat) (hj : j < 3) (i : Nat) (hi : i < 6) (w v : Int32) : AMet Y_X4_put [.ref (29 + 16 * j + 2 * i), .int w, .int v] σ (fz none (setR σ j (putS (σ.1 j) i w v))) := by
  refine am_intro (by decide +kernel) (Nat.le_of_ble_eq_true rfl) (fun K C => ?_)
  refine aw_iload_n (pc := 0) C 1 dX4_put_0 rfl ?_
  by_cases h1_0 : w = 0
  · refine aw_tableIn (pc := 1) C 40 dX4_put_1 (by rw [h1_0]; decide) (by rw [h1_0]; decide) (by rw [h1_0]; rfl) (by decide) ?_
    refine aw_aload_n (pc := 40) C 0 dX4_put_40 rfl ?_
    refine aw_iload_n (pc := 41) C 2 dX4_put_41 rfl ?_
    refine aw_pst (pc := 42) C (setR σ j (upd (σ.1 j) (33 + 37 * i + 0) (v))) fp_X4_21 (shR hj hi) rfl dX4_put_42 rfl ?_
    refine aw_goto (pc := 45) C 80 dX4_put_45 (by decide) ?_
    exact aw_vret (pc := 80) C rfl dX4_put_80 (by rw [putS, if_pos h1_0])
  by_cases h1_1 : w = 1
  · refine aw_tableIn (pc := 1) C 48 dX4_put_1 (by rw [h1_1]; decide) (by rw [h1_1]; decide) (by rw [h1_1]; rfl) (by decide) ?_
    refine aw_aload_n (pc := 48) C 0 dX4_put_48 rfl ?_
    refine aw_iload_n (pc := 49) C 2 dX4_put_49 rfl ?_
    refine aw_pst (pc := 50) C (setR σ j (upd (σ.1 j) (33 + 37 * i + 1) (v))) fp_X4_25 (shR hj hi) rfl dX4_put_50 rfl ?_
    refine aw_goto (pc := 53) C 80 dX4_put_53 (by decide) ?_
    exact aw_vret (pc := 80) C rfl dX4_put_80 (by rw [putS, if_neg h1_0, if_pos h1_1])
  by_cases h1_2 : w = 2
  · refine aw_tableIn (pc := 1) C 56 dX4_put_1 (by rw [h1_2]; decide) (by rw [h1_2]; decide) (by rw [h1_2]; rfl) (by decide) ?_
    refine aw_aload_n (pc := 56) C 0 dX4_put_56 rfl ?_
    refine aw_iload_n (pc := 57) C 2 dX4_put_57 rfl ?_
    refine aw_pst (pc := 58) C (setR σ j (upd (σ.1 j) (33 + 37 * i + 2) (v))) fp_X4_28 (shR hj hi) rfl dX4_put_58 rfl ?_
    refine aw_goto (pc := 61) C 80 dX4_put_61 (by decide) ?_
    exact aw_vret (pc := 80) C rfl dX4_put_80 (by rw [putS, if_neg h1_0, if_neg h1_1, if_pos h1_2])
  by_cases h1_3 : w = 3
  · refine aw_tableIn (pc := 1) C 64 dX4_put_1 (by rw [h1_3]; decide) (by rw [h1_3]; decide) (by rw [h1_3]; rfl) (by decide) ?_
    refine aw_aload_n (pc := 64) C 0 dX4_put_64 rfl ?_
    refine aw_iload_n (pc := 65) C 2 dX4_put_65 rfl ?_
    refine aw_pst (pc := 66) C (setR σ j (upd (σ.1 j) (33 + 37 * i + 3) (v))) fp_X4_31 (shR hj hi) rfl dX4_put_66 rfl ?_
    refine aw_goto (pc := 69) C 80 dX4_put_69 (by decide) ?_
    exact aw_vret (pc := 80) C rfl dX4_put_80 (by rw [putS, if_neg h1_0, if_neg h1_1, if_neg h1_2, if_pos h1_3])
  by_cases h1_4 : w = 4
  · refine aw_tableIn (pc := 1) C 80 dX4_put_1 (by rw [h1_4]; decide) (by rw [h1_4]; decide) (by rw [h1_4]; rfl) (by decide) ?_
    exact aw_vret (pc := 80) C rfl dX4_put_80 (by rw [putS, if_neg h1_0, if_neg h1_1, if_neg h1_2, if_neg h1_3, if_pos h1_4]; exact (setR_same σ j).symm)
  by_cases h1_5 : w = 5
  · refine aw_tableIn (pc := 1) C 72 dX4_put_1 (by rw [h1_5]; decide) (by rw [h1_5]; decide) (by rw [h1_5]; rfl) (by decide) ?_
    refine aw_aload_n (pc := 72) C 0 dX4_put_72 rfl ?_
    refine aw_iload_n (pc := 73) C 2 dX4_put_73 rfl ?_
    refine aw_pst (pc := 74) C (setR σ j (upd (σ.1 j) (33 + 37 * i + 5) (v))) fp_X4_37 (shR hj hi) rfl dX4_put_74 rfl ?_
    refine aw_goto (pc := 77) C 80 dX4_put_77 (by decide) ?_
    exact aw_vret (pc := 80) C rfl dX4_put_80 (by rw [putS, if_neg h1_0, if_neg h1_1, if_neg h1_2, if_neg h1_3, if_neg h1_4, if_pos h1_5])
  refine aw_tableOut (pc := 1) C 80 dX4_put_1 (by have q0 := lv_neT (k := 0) h1_0 (a := 0) (by decide); have q1 := lv_neT (k := 1) h1_1 (a := 1) (by decide); have q2 := lv_neT (k := 2) h1_2 (a := 2) (by decide); have q3 := lv_neT (k := 3) h1_3 (a := 3) (by decide); have q4 := lv_neT (k := 4) h1_4 (a := 4) (by decide); have q5 := lv_neT (k := 5) h1_5 (a := 5) (by decide); omega) (by decide) ?_
  exact aw_vret (pc := 80) C rfl dX4_put_80 (by rw [putS, if_neg h1_0, if_neg h1_1, if_neg h1_2, if_neg h1_3, if_neg h1_4, if_neg h1_5]; exact (setR_same σ j).symm)
theorem c_X4_mostOf (σ : St) (w : Int32) : AMet Y_X4_mostOf [.int w] σ (fz (some (.int (mostS w))) (σ)) := by
  refine am_intro (by decide +kernel) (Nat.le_of_ble_eq_true rfl) (fun K C => ?_)
  refine aw_iload_n (pc := 0) C 0 dX4_mostOf_0 rfl ?_
  by_cases h1_0 : w = 0
  · refine aw_tableIn (pc := 1) C 40 dX4_mostOf_1 (by rw [h1_0]; decide) (by rw [h1_0]; decide) (by rw [h1_0]; rfl) (by decide) ?_
    refine aw_bipush (pc := 40) (v := 6) C dX4_mostOf_40 rfl ?_
    exact aw_iret (pc := 42) C rfl dX4_mostOf_42 (by rw [mostS, if_pos h1_0]) rfl
  by_cases h1_1 : w = 1
  · refine aw_tableIn (pc := 1) C 43 dX4_mostOf_1 (by rw [h1_1]; decide) (by rw [h1_1]; decide) (by rw [h1_1]; rfl) (by decide) ?_
    refine aw_bipush (pc := 43) (v := 9) C dX4_mostOf_43 rfl ?_
    exact aw_iret (pc := 45) C rfl dX4_mostOf_45 (by rw [mostS, if_neg h1_0, if_pos h1_1]) rfl
  by_cases h1_2 : w = 2
  · refine aw_tableIn (pc := 1) C 46 dX4_mostOf_1 (by rw [h1_2]; decide) (by rw [h1_2]; decide) (by rw [h1_2]; rfl) (by decide) ?_
    refine aw_iconst (pc := 46) (v := 5) C dX4_mostOf_46 rfl ?_
    exact aw_iret (pc := 47) C rfl dX4_mostOf_47 (by rw [mostS, if_neg h1_0, if_neg h1_1, if_pos h1_2]) rfl
  by_cases h1_3 : w = 3
  · refine aw_tableIn (pc := 1) C 48 dX4_mostOf_1 (by rw [h1_3]; decide) (by rw [h1_3]; decide) (by rw [h1_3]; rfl) (by decide) ?_
    refine aw_bipush (pc := 48) (v := 30) C dX4_mostOf_48 rfl ?_
    exact aw_iret (pc := 50) C rfl dX4_mostOf_50 (by rw [mostS, if_neg h1_0, if_neg h1_1, if_neg h1_2, if_pos h1_3]) rfl
  by_cases h1_4 : w = 4
  · refine aw_tableIn (pc := 1) C 53 dX4_mostOf_1 (by rw [h1_4]; decide) (by rw [h1_4]; decide) (by rw [h1_4]; rfl) (by decide) ?_
    refine aw_iconst (pc := 53) (v := (-1)) C dX4_mostOf_53 rfl ?_
    exact aw_iret (pc := 54) C rfl dX4_mostOf_54 (by rw [mostS, if_neg h1_0, if_neg h1_1, if_neg h1_2, if_neg h1_3, if_pos h1_4]) rfl
  by_cases h1_5 : w = 5
  · refine aw_tableIn (pc := 1) C 51 dX4_mostOf_1 (by rw [h1_5]; decide) (by rw [h1_5]; decide) (by rw [h1_5]; rfl) (by decide) ?_
    refine aw_iconst (pc := 51) (v := 3) C dX4_mostOf_51 rfl ?_
    exact aw_iret (pc := 52) C rfl dX4_mostOf_52 (by rw [mostS, if_neg h1_0, if_neg h1_1, if_neg h1_2, if_neg h1_3, if_neg h1_4, if_pos h1_5]) rfl
  refine aw_tableOut (pc := 1) C 53 dX4_mostOf_1 (by have q0 := lv_neT (k := 0) h1_0 (a := 0) (by decide); have q1 := lv_neT (k := 1) h1_1 (a := 1) (by decide); have q2 := lv_neT (k := 2) h1_2 (a := 2) (by decide); have q3 := lv_neT (k := 3) h1_3 (a := 3) (by decide); have q4 := lv_neT (k := 4) h1_4 (a := 4) (by decide); have q5 := lv_neT (k := 5) h1_5 (a := 5) (by decide); omega) (by decide) ?_
  refine aw_iconst (pc := 53) (v := (-1)) C dX4_mostOf_53 rfl ?_
  exact aw_iret (pc := 54) C rfl dX4_mostOf_54 (by rw [mostS, if_neg h1_0, if_neg h1_1, if_neg h1_2, if_neg h1_3, if_neg h1_4, if_neg h1_5]) rfl
