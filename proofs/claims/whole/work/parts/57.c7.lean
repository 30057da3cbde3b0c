/-! the class: the best PACES -/
theorem c_X1_bestPace (σ : St) (j : Nat) (hj : j < 3) (i : Nat) (hi : i < 6) (k : Nat) (hk : σ.1 j (33 + 37 * i + 0) = nI k) (hk7 : k < 7) (y s : Nat) (g : Nat) (hg : σ.1 j (3 + y) = nI g) (hg5 : g < 5) (hy3 : y < 30) (hs : s < 4) (hB : ∀ q, q < 4 → ∃ v, v ≤ 3500000 ∧ σ.1 5 q = nI v) (pk : Nat) (hpk : pk < 100) (epk : σ.1 j 0 = nI pk) : AMet Y_X1_bestPace [.ref 2, .ref (25 + 16 * j), .ref (29 + 16 * j + 2 * i), .int (nI y), .int (nI s)] σ (fz (some (.int (nI (bpS (σ.1 5) (σ.1 j) i y s 9)))) (σ)) := by
  refine am_intro (by decide +kernel) (Nat.le_of_ble_eq_true rfl) (fun K C => ?_)
  refine aw_ldc (pc := 0) C dX1_bestPace_0 kc_X1_49 ?_
  refine aw_istore (pc := 2) C [(5, .int 2147483647), (0, .ref 2), (1, .ref (25 + 16 * j)), (2, .ref (29 + 16 * j + 2 * i)), (3, .int (nI y)), (4, .int (nI s))] dX1_bestPace_2 (Nat.le_of_ble_eq_true rfl) rfl ?_
  refine aw_iconst (pc := 4) (v := 1) C dX1_bestPace_4 rfl ?_
  refine aw_istore (pc := 5) C [(6, .int 1), (5, .int 2147483647), (0, .ref 2), (1, .ref (25 + 16 * j)), (2, .ref (29 + 16 * j + 2 * i)), (3, .int (nI y)), (4, .int (nI s))] dX1_bestPace_5 (Nat.le_of_ble_eq_true rfl) rfl ?_
  refine aw_iconst (pc := 7) (v := 1) C dX1_bestPace_7 rfl ?_
  refine aw_istore (pc := 8) C [(7, .int 1), (6, .int 1), (5, .int 2147483647), (0, .ref 2), (1, .ref (25 + 16 * j)), (2, .ref (29 + 16 * j + 2 * i)), (3, .int (nI y)), (4, .int (nI s))] dX1_bestPace_8 (Nat.le_of_ble_eq_true rfl) rfl ?_
  refine aw_lvs C [0, 1, 2, 3, 4, 5, 6, 7] [(7, .int 1), (6, .int 1), (5, .int 2147483647), (0, .ref 2), (1, .ref (25 + 16 * j)), (2, .ref (29 + 16 * j + 2 * i)), (3, .int (nI y)), (4, .int (nI s))] rfl ?_
  refine aw_conv (σ' := σ) (lv' := [(7, .int (nI (0 + 1))), (6, .int (nI (bpS (σ.1 5) (σ.1 j) i y s 0))), (5, .int (lsq (σ.1 5) (σ.1 j) i y s 0)), (0, .ref 2), (1, .ref (25 + 16 * j)), (2, .ref (29 + 16 * j + 2 * i)), (3, .int (nI y)), (4, .int (nI s))]) rfl rfl rfl ?_
  refine loop_up (P := fun q => AW _ K _ (σ) 10 [(7, .int (nI (q + 1))), (6, .int (nI (bpS (σ.1 5) (σ.1 j) i y s q))), (5, .int (lsq (σ.1 5) (σ.1 j) i y s q)), (0, .ref 2), (1, .ref (25 + 16 * j)), (2, .ref (29 + 16 * j + 2 * i)), (3, .int (nI y)), (4, .int (nI s))] []) 9 ?_ ?_ 0 (by omega) 
  · refine aw_iload (pc := 10) C 0 dX1_bestPace_10 rfl ?_
    refine aw_bipush (pc := 12) (v := 9) C dX1_bestPace_12 rfl ?_
    refine aw_icmp_gtN (pc := 14) C (9 + 1) 9 51 rfl rfl (by omega) (by omega) dX1_bestPace_14 (by decide) (fun h14 => ?_) (fun h14 => absurd h14 (by omega))
    refine aw_iload (pc := 51) C 1 dX1_bestPace_51 rfl ?_
    exact aw_iret (pc := 53) C rfl dX1_bestPace_53 rfl rfl
  · intro q hk10 ih10 
    refine aw_iload (pc := 10) C 0 dX1_bestPace_10 rfl ?_
    refine aw_bipush (pc := 12) (v := 9) C dX1_bestPace_12 rfl ?_
    refine aw_icmp_gtN (pc := 14) C (q + 1) 9 51 rfl rfl (by omega) (by omega) dX1_bestPace_14 (by decide) (fun h14 => absurd h14 (by omega)) (fun h14 => ?_)
    refine aw_aload_n (pc := 17) C 3 dX1_bestPace_17 rfl ?_
    refine aw_aload_n (pc := 18) C 4 dX1_bestPace_18 rfl ?_
    refine aw_aload_n (pc := 19) C 5 dX1_bestPace_19 rfl ?_
    refine aw_iload_n (pc := 20) C 6 dX1_bestPace_20 rfl ?_
    refine aw_iload (pc := 21) C 7 dX1_bestPace_21 rfl ?_
    refine aw_iload (pc := 23) C 0 dX1_bestPace_23 rfl ?_
    refine aw_cVI (pc := 25) C (c_X1_through _  j hj i hi k hk hk7 y s (q + 1) g hg (by omega) (by omega) (by omega) (by omega) (by omega)) lk_X1_38 sh2 rfl dX1_bestPace_25 (by decide) (Nat.le_of_ble_eq_true rfl) rfl rfl ?_
    refine aw_istore (pc := 28) C [(8, .int (behS (σ.1 5) (σ.1 j) i y s (nI (q + 1)))), (7, .int (nI (q + 1))), (6, .int (nI (bpS (σ.1 5) (σ.1 j) i y s q))), (5, .int (lsq (σ.1 5) (σ.1 j) i y s q)), (0, .ref 2), (1, .ref (25 + 16 * j)), (2, .ref (29 + 16 * j + 2 * i)), (3, .int (nI y)), (4, .int (nI s))] dX1_bestPace_28 (Nat.le_of_ble_eq_true rfl) rfl ?_
    rcases q with _ | q
    · obtain ⟨v1, hv1, ev1⟩ := hB (s - 1) (by omega)
      obtain ⟨v3, hv3, ev3⟩ := hB 3 (by omega)
      obtain ⟨kb, hkb, ekb⟩ := beh_bd (f := σ.1 5) (μ := σ.1 j) (r := i) (y := y) (s := s) (p := 0 + 1) (by omega) (by omega) hpk epk ev1 ev3 hv1 hv3 (by omega)
      have hlt : behS (σ.1 5) (σ.1 j) i y s (nI (0 + 1)) < lsq (σ.1 5) (σ.1 j) i y s 0 := by rw [ekb]; exact max_gt (by omega)
      refine aw_iload (pc := 30) C 0 dX1_bestPace_30 rfl ?_
      refine aw_iload (pc := 32) C 3 dX1_bestPace_32 rfl ?_
      refine aw_icmp_ge (pc := 34) C 45 dX1_bestPace_34 (by decide) (fun h34 => absurd h34 (Int32.not_le.mpr hlt)) (fun h34 => ?_)
      refine aw_iload (pc := 37) C 0 dX1_bestPace_37 rfl ?_
      refine aw_istore (pc := 39) C [(5, .int (behS (σ.1 5) (σ.1 j) i y s (nI (0 + 1)))), (8, .int (behS (σ.1 5) (σ.1 j) i y s (nI (0 + 1)))), (7, .int (nI (0 + 1))), (6, .int (nI (bpS (σ.1 5) (σ.1 j) i y s 0))), (0, .ref 2), (1, .ref (25 + 16 * j)), (2, .ref (29 + 16 * j + 2 * i)), (3, .int (nI y)), (4, .int (nI s))] dX1_bestPace_39 (Nat.le_of_ble_eq_true rfl) rfl ?_
      refine aw_iload (pc := 41) C 2 dX1_bestPace_41 rfl ?_
      refine aw_istore (pc := 43) C [(6, .int (nI (0 + 1))), (5, .int (behS (σ.1 5) (σ.1 j) i y s (nI (0 + 1)))), (8, .int (behS (σ.1 5) (σ.1 j) i y s (nI (0 + 1)))), (7, .int (nI (0 + 1))), (0, .ref 2), (1, .ref (25 + 16 * j)), (2, .ref (29 + 16 * j + 2 * i)), (3, .int (nI y)), (4, .int (nI s))] dX1_bestPace_43 (Nat.le_of_ble_eq_true rfl) rfl ?_
      refine aw_iincN (pc := 45) C 3 (0 + 1) [(7, .int (nI (0 + 1 + 1))), (6, .int (nI (0 + 1))), (5, .int (behS (σ.1 5) (σ.1 j) i y s (nI (0 + 1)))), (8, .int (behS (σ.1 5) (σ.1 j) i y s (nI (0 + 1)))), (0, .ref 2), (1, .ref (25 + 16 * j)), (2, .ref (29 + 16 * j + 2 * i)), (3, .int (nI y)), (4, .int (nI s))] dX1_bestPace_45 rfl rfl rfl (Nat.le_of_ble_eq_true rfl) rfl ?_
      refine aw_goto (pc := 48) C 10 dX1_bestPace_48 (by decide) ?_
      refine aw_lvs C [0, 1, 2, 4, 5, 6, 7, 8] [(7, .int (nI (0 + 1 + 1))), (6, .int (nI (0 + 1))), (5, .int (behS (σ.1 5) (σ.1 j) i y s (nI (0 + 1)))), (0, .ref 2), (1, .ref (25 + 16 * j)), (2, .ref (29 + 16 * j + 2 * i)), (3, .int (nI y)), (4, .int (nI s))] rfl ?_
      exact aw_conv (σ' := σ) (lv' := [(7, .int (nI (0 + 1 + 1))), (6, .int (nI (bpS (σ.1 5) (σ.1 j) i y s (0 + 1)))), (5, .int (lsq (σ.1 5) (σ.1 j) i y s (0 + 1))), (0, .ref 2), (1, .ref (25 + 16 * j)), (2, .ref (29 + 16 * j + 2 * i)), (3, .int (nI y)), (4, .int (nI s))]) rfl rfl rfl ih10
    · refine aw_iload (pc := 30) C 0 dX1_bestPace_30 rfl ?_
      refine aw_iload (pc := 32) C 3 dX1_bestPace_32 rfl ?_
      refine aw_icmp_ge (pc := 34) C 45 dX1_bestPace_34 (by decide) (fun h34 => ?_) (fun h34 => ?_)
      · refine aw_iincN (pc := 45) C 1 (q + 1 + 1) [(7, .int (nI (q + 1 + 1 + 1))), (8, .int (behS (σ.1 5) (σ.1 j) i y s (nI ((q + 1) + 1)))), (6, .int (nI (bpS (σ.1 5) (σ.1 j) i y s (q + 1)))), (5, .int (lsq (σ.1 5) (σ.1 j) i y s (q + 1))), (0, .ref 2), (1, .ref (25 + 16 * j)), (2, .ref (29 + 16 * j + 2 * i)), (3, .int (nI y)), (4, .int (nI s))] dX1_bestPace_45 rfl rfl rfl (Nat.le_of_ble_eq_true rfl) rfl ?_
        refine aw_goto (pc := 48) C 10 dX1_bestPace_48 (by decide) ?_
        refine aw_lvs C [0, 2, 3, 4, 5, 6, 7, 8] [(7, .int (nI (q + 1 + 1 + 1))), (6, .int (nI (bpS (σ.1 5) (σ.1 j) i y s (q + 1)))), (5, .int (lsq (σ.1 5) (σ.1 j) i y s (q + 1))), (0, .ref 2), (1, .ref (25 + 16 * j)), (2, .ref (29 + 16 * j + 2 * i)), (3, .int (nI y)), (4, .int (nI s))] rfl ?_
        exact aw_conv (σ' := σ) (lv' := [(7, .int (nI (q + 1 + 1 + 1))), (6, .int (nI (bpS (σ.1 5) (σ.1 j) i y s (q + 1 + 1)))), (5, .int (lsq (σ.1 5) (σ.1 j) i y s (q + 1 + 1))), (0, .ref 2), (1, .ref (25 + 16 * j)), (2, .ref (29 + 16 * j + 2 * i)), (3, .int (nI y)), (4, .int (nI s))]) rfl (by have e := bpS_not (Int32.not_lt.mpr h34); simp only [lsq, e]) rfl ih10
      · refine aw_iload (pc := 37) C 0 dX1_bestPace_37 rfl ?_
        refine aw_istore (pc := 39) C [(5, .int (behS (σ.1 5) (σ.1 j) i y s (nI ((q + 1) + 1)))), (8, .int (behS (σ.1 5) (σ.1 j) i y s (nI ((q + 1) + 1)))), (7, .int (nI (q + 1 + 1))), (6, .int (nI (bpS (σ.1 5) (σ.1 j) i y s (q + 1)))), (0, .ref 2), (1, .ref (25 + 16 * j)), (2, .ref (29 + 16 * j + 2 * i)), (3, .int (nI y)), (4, .int (nI s))] dX1_bestPace_39 (Nat.le_of_ble_eq_true rfl) rfl ?_
        refine aw_iload (pc := 41) C 2 dX1_bestPace_41 rfl ?_
        refine aw_istore (pc := 43) C [(6, .int (nI (q + 1 + 1))), (5, .int (behS (σ.1 5) (σ.1 j) i y s (nI ((q + 1) + 1)))), (8, .int (behS (σ.1 5) (σ.1 j) i y s (nI ((q + 1) + 1)))), (7, .int (nI (q + 1 + 1))), (0, .ref 2), (1, .ref (25 + 16 * j)), (2, .ref (29 + 16 * j + 2 * i)), (3, .int (nI y)), (4, .int (nI s))] dX1_bestPace_43 (Nat.le_of_ble_eq_true rfl) rfl ?_
        refine aw_iincN (pc := 45) C 3 (q + 1 + 1) [(7, .int (nI (q + 1 + 1 + 1))), (6, .int (nI (q + 1 + 1))), (5, .int (behS (σ.1 5) (σ.1 j) i y s (nI ((q + 1) + 1)))), (8, .int (behS (σ.1 5) (σ.1 j) i y s (nI ((q + 1) + 1)))), (0, .ref 2), (1, .ref (25 + 16 * j)), (2, .ref (29 + 16 * j + 2 * i)), (3, .int (nI y)), (4, .int (nI s))] dX1_bestPace_45 rfl rfl rfl (Nat.le_of_ble_eq_true rfl) rfl ?_
        refine aw_goto (pc := 48) C 10 dX1_bestPace_48 (by decide) ?_
        refine aw_lvs C [0, 1, 2, 4, 5, 6, 7, 8] [(7, .int (nI (q + 1 + 1 + 1))), (6, .int (nI (q + 1 + 1))), (5, .int (behS (σ.1 5) (σ.1 j) i y s (nI ((q + 1) + 1)))), (0, .ref 2), (1, .ref (25 + 16 * j)), (2, .ref (29 + 16 * j + 2 * i)), (3, .int (nI y)), (4, .int (nI s))] rfl ?_
        exact aw_conv (σ' := σ) (lv' := [(7, .int (nI (q + 1 + 1 + 1))), (6, .int (nI (bpS (σ.1 5) (σ.1 j) i y s (q + 1 + 1)))), (5, .int (lsq (σ.1 5) (σ.1 j) i y s (q + 1 + 1))), (0, .ref 2), (1, .ref (25 + 16 * j)), (2, .ref (29 + 16 * j + 2 * i)), (3, .int (nI y)), (4, .int (nI s))]) rfl (by have e := bpS_yes (Int32.not_le.mp h34); simp only [lsq, e]) rfl ih10
theorem c_X1_atBest (σ : St) (j : Nat) (hj : j < 3) (n : Nat) (hok : Ok n (σ.1 j)) (r a s : Nat) (hr : r < n) (ha : a ≤ 30) (hs : s < 4) : AMet Y_X1_atBest [.ref 2, .ref (25 + 16 * j), .int (nI r), .int (nI a), .int (nI s)] σ (AbO σ (σ.1 j) r a (mRow true (σ.1 j) r 30 a s)) := by
  refine am_intro (by decide +kernel) (Nat.le_of_ble_eq_true rfl) (fun K C => ?_)
  have hz := hok.1
  have hn := hok.2.1
  obtain ⟨k, hk7, hk⟩ := (hok.2.2.2.2.1 r hr).1
  obtain ⟨pk, hpk, epk⟩ := hok.2.2.1
  obtain ⟨c, hc⟩ : ∃ c, 30 = a + c := ⟨30 - a, by omega⟩
  refine aw_aload_n (pc := 0) C 1 dX1_atBest_0 rfl ?_
  refine aw_getR (pc := 1) C fl_X1_21 (shM hj) rfl dX1_atBest_1 ?_
  refine aw_iload_n (pc := 4) C 2 dX1_atBest_4 rfl ?_
  refine aw_aald (pc := 5) (k := r) C (shRs hj) dX1_atBest_5 rfl (by omega) ?_
  refine aw_astore (pc := 6) C [(5, .ref (29 + 16 * j + 2 * r)), (0, .ref 2), (1, .ref (25 + 16 * j)), (2, .int (nI r)), (3, .int (nI a)), (4, .int (nI s))] dX1_atBest_6 (Nat.le_of_ble_eq_true rfl) rfl ?_
  refine aw_aload_n (pc := 8) C 1 dX1_atBest_8 rfl ?_
  refine aw_getR (pc := 9) C fl_X1_9 sh2 rfl dX1_atBest_9 ?_
  refine aw_iconst (pc := 12) (v := 0) C dX1_atBest_12 rfl ?_
  refine aw_cS0 (pc := 13) C (c_J7_fill _  (3) 5 (0) 4 sh3 0 (by omega)) lk_X1_27 dX1_atBest_13 (by decide) (Nat.le_of_ble_eq_true rfl) rfl rfl ?_
  refine aw_bipush (pc := 16) (v := 29) C dX1_atBest_16 rfl ?_
  refine aw_istore (pc := 18) C [(6, .int 29), (5, .ref (29 + 16 * j + 2 * r)), (0, .ref 2), (1, .ref (25 + 16 * j)), (2, .int (nI r)), (3, .int (nI a)), (4, .int (nI s))] dX1_atBest_18 (Nat.le_of_ble_eq_true rfl) rfl ?_
  refine aw_lvs C [0, 1, 2, 3, 4, 5, 6] [(6, .int 29), (5, .ref (29 + 16 * j + 2 * r)), (0, .ref 2), (1, .ref (25 + 16 * j)), (2, .int (nI r)), (3, .int (nI a)), (4, .int (nI s))] rfl ?_
  refine aw_conv (σ' := setR (setR (setR σ 5 (filK (σ.1 5) 0 0 4)) 6 (σ.1 6)) 7 (σ.1 7)) (lv' := [(6, .int (dI (a + c))), (5, .ref (29 + 16 * j + 2 * r)), (0, .ref 2), (1, .ref (25 + 16 * j)), (2, .int (nI r)), (3, .int (nI a)), (4, .int (nI s))]) (by rw [show setR (setR σ 5 (filK (σ.1 5) 0 0 4)) 6 (σ.1 6) = setR σ 5 (filK (σ.1 5) 0 0 4) from setR_same (setR σ 5 (filK (σ.1 5) 0 0 4)) 6]; exact (setR_same (setR σ 5 (filK (σ.1 5) 0 0 4)) 7).symm) (by rw [← hc]; rfl) rfl ?_
  refine loop_dn (P := fun t => t ≤ c → ∀ (f g h : Fl) (hI : RInv true (σ.1 j) r 30 (a + t) f) (hC : CInv (σ.1 j) r (a + t) h), AW _ K _ (setR (setR (setR σ 5 (f)) 6 (g)) 7 (h)) 20 [(6, .int (dI (a + t))), (5, .ref (29 + 16 * j + 2 * r)), (0, .ref 2), (1, .ref (25 + 16 * j)), (2, .int (nI r)), (3, .int (nI a)), (4, .int (nI s))] []) ?_ ?_ c (by omega) (filK (σ.1 5) 0 0 4) (σ.1 6) (σ.1 7) (by rw [← hc]; exact RInv.first) (fun z h1 h2 => by omega)
  · intro hk20 f g h hI hC
    refine aw_iload (pc := 20) C 0 dX1_atBest_20 rfl ?_
    refine aw_iload_n (pc := 22) C 5 dX1_atBest_22 rfl ?_
    refine aw_icmp_lt (pc := 23) C 98 dX1_atBest_23 (by decide) (fun h23 => ?_) (fun h23 => absurd h23 (fun z => z (dI_lt (by omega))))
    refine aw_aload_n (pc := 98) C 2 dX1_atBest_98 rfl ?_
    refine aw_getR (pc := 99) C fl_X1_9 sh2 rfl dX1_atBest_99 ?_
    refine aw_iload (pc := 102) C 6 dX1_atBest_102 rfl ?_
    refine aw_ild (pc := 104) (k := s) C (s) (f s) sh3 dX1_atBest_104 rfl (by omega) rfl (by first | with_reducible rfl | (simp (disch := omega) only [setR_at, setR_twice, setL_at, setL_twice, setR_2, setL_1, setR_ne, setL_ne, ne_eq, Nat.reduceEqDiff, not_false_eq_true, pk_us, pk_un]; done) | (simp (disch := omega) only [setR_at, setR_twice, setL_at, setL_twice, setR_2, setL_1, setR_ne, setL_ne, ne_eq, Nat.reduceEqDiff, not_false_eq_true, pk_us, pk_un, Option.toList_some, Option.toList_none, List.cons_append, List.nil_append]; done) | ((try simp (disch := omega) only [setR_at, setR_twice, setL_at, setL_twice, setR_2, setL_1, setR_ne, setL_ne, ne_eq, Nat.reduceEqDiff, not_false_eq_true, pk_us, pk_un]); refine Prod.ext (funext fun z => ?_) rfl; simp only [setR]; (repeat' split) <;> first | with_reducible rfl | (exfalso; omega)) | rfl) ?_
    refine aw_top C (mRow true (σ.1 j) r 30 a s) (hI s hs) ?_
    exact aw_iretP (pc := 105) C rfl dX1_atBest_105 ⟨f, g, h, hC, rfl, rfl⟩
  · intro t ih20 hk20 f g h hI hC
    refine aw_iload (pc := 20) C 0 dX1_atBest_20 rfl ?_
    refine aw_iload_n (pc := 22) C 5 dX1_atBest_22 rfl ?_
    refine aw_icmp_ltN (pc := 23) C (a + t) a 98 rfl rfl (by omega) (by omega) dX1_atBest_23 (by decide) (fun h23 => absurd h23 (by omega)) (fun h23 => ?_)
    obtain ⟨g0, hg5, hg⟩ := hok.2.2.2.1 (a + t) (by omega)
    refine aw_iconst (pc := 26) (v := 0) C dX1_atBest_26 rfl ?_
    refine aw_istore (pc := 27) C [(7, .int 0), (6, .int (nI (a + t))), (5, .ref (29 + 16 * j + 2 * r)), (0, .ref 2), (1, .ref (25 + 16 * j)), (2, .int (nI r)), (3, .int (nI a)), (4, .int (nI s))] dX1_atBest_27 (Nat.le_of_ble_eq_true rfl) rfl ?_
    refine aw_lvs C [0, 1, 2, 3, 4, 5, 6, 7] [(7, .int 0), (6, .int (nI (a + t))), (5, .ref (29 + 16 * j + 2 * r)), (0, .ref 2), (1, .ref (25 + 16 * j)), (2, .int (nI r)), (3, .int (nI a)), (4, .int (nI s))] rfl ?_
    refine aw_conv (σ' := setR (setR (setR σ 5 (f)) 6 (g)) 7 (h)) (lv' := [(7, .int (nI 0)), (6, .int (nI (a + t))), (5, .ref (29 + 16 * j + 2 * r)), (0, .ref 2), (1, .ref (25 + 16 * j)), (2, .int (nI r)), (3, .int (nI a)), (4, .int (nI s))]) rfl rfl rfl ?_
    refine loop_up (P := fun q => ∀ (g h : Fl) (hJ : HInv true (σ.1 j) r 30 (a + t) q g) (hD : CInv2 (σ.1 j) r (a + t) q h), AW _ K _ (setR (setR (setR σ 5 (f)) 6 (g)) 7 (h)) 29 [(7, .int (nI q)), (6, .int (nI (a + t))), (5, .ref (29 + 16 * j + 2 * r)), (0, .ref 2), (1, .ref (25 + 16 * j)), (2, .int (nI r)), (3, .int (nI a)), (4, .int (nI s))] []) 4 ?_ ?_ 0 (by omega) g h (fun z hz => by omega) ⟨hC, fun z hz => by omega⟩
    · intro g h hJ hD
      refine aw_iload (pc := 29) C 0 dX1_atBest_29 rfl ?_
      refine aw_iconst (pc := 31) (v := 3) C dX1_atBest_31 rfl ?_
      refine aw_icmp_gtN (pc := 32) C 4 3 88 rfl rfl (by omega) (by omega) dX1_atBest_32 (by decide) (fun h32 => ?_) (fun h32 => absurd h32 (by omega))
      refine aw_aload_n (pc := 88) C 3 dX1_atBest_88 rfl ?_
      refine aw_cV0 (pc := 89) C (c_X1_goBack _  ) lk_X1_42 sh2 rfl dX1_atBest_89 (by decide) (Nat.le_of_ble_eq_true rfl) rfl rfl ?_
      refine aw_conv (σ' := setR (setR (setR σ 5 (cpyR (g) (f) (0 + 0) (0 + 0) 4)) 6 (g)) 7 (h)) (st' := []) (by first | with_reducible rfl | (simp (disch := omega) only [setR_at, setR_twice, setL_at, setL_twice, setR_2, setL_1, setR_ne, setL_ne, ne_eq, Nat.reduceEqDiff, not_false_eq_true, pk_us, pk_un]; done) | (simp (disch := omega) only [setR_at, setR_twice, setL_at, setL_twice, setR_2, setL_1, setR_ne, setL_ne, ne_eq, Nat.reduceEqDiff, not_false_eq_true, pk_us, pk_un, Option.toList_some, Option.toList_none, List.cons_append, List.nil_append]; done) | ((try simp (disch := omega) only [setR_at, setR_twice, setL_at, setL_twice, setR_2, setL_1, setR_ne, setL_ne, ne_eq, Nat.reduceEqDiff, not_false_eq_true, pk_us, pk_un]); refine Prod.ext (funext fun z => ?_) rfl; simp only [setR]; (repeat' split) <;> first | with_reducible rfl | (exfalso; omega)) | rfl) rfl (by first | with_reducible rfl | (simp (disch := omega) only [setR_at, setR_twice, setL_at, setL_twice, setR_2, setL_1, setR_ne, setL_ne, ne_eq, Nat.reduceEqDiff, not_false_eq_true, pk_us, pk_un]; done) | (simp (disch := omega) only [setR_at, setR_twice, setL_at, setL_twice, setR_2, setL_1, setR_ne, setL_ne, ne_eq, Nat.reduceEqDiff, not_false_eq_true, pk_us, pk_un, Option.toList_some, Option.toList_none, List.cons_append, List.nil_append]; done) | ((try simp (disch := omega) only [setR_at, setR_twice, setL_at, setL_twice, setR_2, setL_1, setR_ne, setL_ne, ne_eq, Nat.reduceEqDiff, not_false_eq_true, pk_us, pk_un]); refine Prod.ext (funext fun z => ?_) rfl; simp only [setR]; (repeat' split) <;> first | with_reducible rfl | (exfalso; omega)) | rfl) ?_
      refine aw_iinc (pc := 92) C 1 ((nI (a + t)) + (-1)) [(6, .int ((nI (a + t)) + (-1))), (7, .int (nI 4)), (5, .ref (29 + 16 * j + 2 * r)), (0, .ref 2), (1, .ref (25 + 16 * j)), (2, .int (nI r)), (3, .int (nI a)), (4, .int (nI s))] dX1_atBest_92 rfl rfl (Nat.le_of_ble_eq_true rfl) rfl ?_
      refine aw_goto (pc := 95) C 20 dX1_atBest_95 (by decide) ?_
      refine aw_lvs C [0, 2, 3, 4, 5, 6, 7] [(6, .int ((nI (a + t)) + (-1))), (5, .ref (29 + 16 * j + 2 * r)), (0, .ref 2), (1, .ref (25 + 16 * j)), (2, .int (nI r)), (3, .int (nI a)), (4, .int (nI s))] rfl ?_
      exact aw_conv (σ' := setR (setR (setR σ 5 (cpyR (g) (f) (0 + 0) (0 + 0) 4)) 6 (g)) 7 (h)) (lv' := [(6, .int (dI (a + t))), (5, .ref (29 + 16 * j + 2 * r)), (0, .ref 2), (1, .ref (25 + 16 * j)), (2, .int (nI r)), (3, .int (nI a)), (4, .int (nI s))]) rfl (by rw [dI_dec]) rfl (ih20 (by omega) _ _ _ (RInv.back hJ) hD.done)
    · intro q hk29 ih29 g h hJ hD
      refine aw_iload (pc := 29) C 0 dX1_atBest_29 rfl ?_
      refine aw_iconst (pc := 31) (v := 3) C dX1_atBest_31 rfl ?_
      refine aw_icmp_gtN (pc := 32) C q 3 88 rfl rfl (by omega) (by omega) dX1_atBest_32 (by decide) (fun h32 => absurd h32 (by omega)) (fun h32 => ?_)
      refine aw_aload_n (pc := 35) C 3 dX1_atBest_35 rfl ?_
      refine aw_aload_n (pc := 36) C 4 dX1_atBest_36 rfl ?_
      refine aw_aload (pc := 37) C 2 dX1_atBest_37 rfl ?_
      refine aw_iload (pc := 39) C 1 dX1_atBest_39 rfl ?_
      refine aw_iload (pc := 41) C 0 dX1_atBest_41 rfl ?_
      refine aw_cVI (pc := 43) C (c_X1_bestPace _  j hj r (by omega) k (by simp (disch := omega) only [setR_at, setR_twice, setL_at, setL_twice, setR_2, setL_1, setR_ne, setL_ne, ne_eq, Nat.reduceEqDiff, not_false_eq_true, pk_us, pk_un]; exact hk) hk7 (a + t) q g0 (by simp (disch := omega) only [setR_at, setR_twice, setL_at, setL_twice, setR_2, setL_1, setR_ne, setL_ne, ne_eq, Nat.reduceEqDiff, not_false_eq_true, pk_us, pk_un]; exact hg) (by omega) (by omega) (by omega) (by simp (disch := omega) only [setR_at, setR_twice, setL_at, setL_twice, setR_2, setL_1, setR_ne, setL_ne, ne_eq, Nat.reduceEqDiff, not_false_eq_true, pk_us, pk_un]; exact hI.bd (hok.mok hr) (by omega)) pk hpk (by simp (disch := omega) only [setR_at, setR_twice, setL_at, setL_twice, setR_2, setL_1, setR_ne, setL_ne, ne_eq, Nat.reduceEqDiff, not_false_eq_true, pk_us, pk_un]; exact epk)) lk_X1_45 sh2 rfl dX1_atBest_43 (by decide) (Nat.le_of_ble_eq_true rfl) rfl rfl ?_
      refine aw_conv (σ' := setR (setR (setR σ 5 (f)) 6 (g)) 7 (h)) (st' := [.int (nI (bpS f (σ.1 j) r (a + t) q 9))]) (by first | with_reducible rfl | (simp (disch := omega) only [setR_at, setR_twice, setL_at, setL_twice, setR_2, setL_1, setR_ne, setL_ne, ne_eq, Nat.reduceEqDiff, not_false_eq_true, pk_us, pk_un]; done) | (simp (disch := omega) only [setR_at, setR_twice, setL_at, setL_twice, setR_2, setL_1, setR_ne, setL_ne, ne_eq, Nat.reduceEqDiff, not_false_eq_true, pk_us, pk_un, Option.toList_some, Option.toList_none, List.cons_append, List.nil_append]; done) | ((try simp (disch := omega) only [setR_at, setR_twice, setL_at, setL_twice, setR_2, setL_1, setR_ne, setL_ne, ne_eq, Nat.reduceEqDiff, not_false_eq_true, pk_us, pk_un]); refine Prod.ext (funext fun z => ?_) rfl; simp only [setR]; (repeat' split) <;> first | with_reducible rfl | (exfalso; omega)) | rfl) rfl (by first | with_reducible rfl | (simp (disch := omega) only [setR_at, setR_twice, setL_at, setL_twice, setR_2, setL_1, setR_ne, setL_ne, ne_eq, Nat.reduceEqDiff, not_false_eq_true, pk_us, pk_un]; done) | (simp (disch := omega) only [setR_at, setR_twice, setL_at, setL_twice, setR_2, setL_1, setR_ne, setL_ne, ne_eq, Nat.reduceEqDiff, not_false_eq_true, pk_us, pk_un, Option.toList_some, Option.toList_none, List.cons_append, List.nil_append]; done) | ((try simp (disch := omega) only [setR_at, setR_twice, setL_at, setL_twice, setR_2, setL_1, setR_ne, setL_ne, ne_eq, Nat.reduceEqDiff, not_false_eq_true, pk_us, pk_un]); refine Prod.ext (funext fun z => ?_) rfl; simp only [setR]; (repeat' split) <;> first | with_reducible rfl | (exfalso; omega)) | rfl) ?_
      have hb1 : 1 ≤ bpS f (σ.1 j) r (a + t) q 9 := bpS_rg.1
      have hb9 : bpS f (σ.1 j) r (a + t) q 9 ≤ 9 := bpS_le (by omega)
      refine aw_istore (pc := 46) C [(8, .int (nI (bpS f (σ.1 j) r (a + t) q 9))), (7, .int (nI q)), (6, .int (nI (a + t))), (5, .ref (29 + 16 * j + 2 * r)), (0, .ref 2), (1, .ref (25 + 16 * j)), (2, .int (nI r)), (3, .int (nI a)), (4, .int (nI s))] dX1_atBest_46 (Nat.le_of_ble_eq_true rfl) rfl ?_
      refine aw_aload_n (pc := 48) C 4 dX1_atBest_48 rfl ?_
      refine aw_getR (pc := 49) C fl_X1_18 sh2 rfl dX1_atBest_49 ?_
      refine aw_iload (pc := 52) C 2 dX1_atBest_52 rfl ?_
      refine aw_iconst (pc := 54) (v := 4) C dX1_atBest_54 rfl ?_
      refine aw_imulN (pc := 55) C (a + t) 4 rfl rfl dX1_atBest_55 ?_
      refine aw_iload (pc := 56) C 1 dX1_atBest_56 rfl ?_
      refine aw_iaddN (pc := 58) C ((a + t) * 4) q rfl rfl dX1_atBest_58 ?_
      refine aw_iload (pc := 59) C 0 dX1_atBest_59 rfl ?_
      refine aw_ist (pc := 61) (k := ((a + t) * 4) + q) C (((a + t) * 4) + q) (setR (setR (setR σ 5 (f)) 6 (g)) 7 (upd h (((a + t) * 4) + q) (nI (bpS f (σ.1 j) r (a + t) q 9)))) sh5 dX1_atBest_61 rfl (by omega) rfl (by first | with_reducible rfl | (simp (disch := omega) only [setR_at, setR_twice, setL_at, setL_twice, setR_2, setL_1, setR_ne, setL_ne, ne_eq, Nat.reduceEqDiff, not_false_eq_true, pk_us, pk_un]; done) | (simp (disch := omega) only [setR_at, setR_twice, setL_at, setL_twice, setR_2, setL_1, setR_ne, setL_ne, ne_eq, Nat.reduceEqDiff, not_false_eq_true, pk_us, pk_un, Option.toList_some, Option.toList_none, List.cons_append, List.nil_append]; done) | ((try simp (disch := omega) only [setR_at, setR_twice, setL_at, setL_twice, setR_2, setL_1, setR_ne, setL_ne, ne_eq, Nat.reduceEqDiff, not_false_eq_true, pk_us, pk_un]); refine Prod.ext (funext fun z => ?_) rfl; simp only [setR]; (repeat' split) <;> first | with_reducible rfl | (exfalso; omega)) | rfl) ?_
      refine aw_aload_n (pc := 62) C 4 dX1_atBest_62 rfl ?_
      refine aw_getR (pc := 63) C fl_X1_15 sh2 rfl dX1_atBest_63 ?_
      refine aw_iload (pc := 66) C 1 dX1_atBest_66 rfl ?_
      refine aw_aload_n (pc := 68) C 4 dX1_atBest_68 rfl ?_
      refine aw_aload_n (pc := 69) C 5 dX1_atBest_69 rfl ?_
      refine aw_aload (pc := 70) C 3 dX1_atBest_70 rfl ?_
      refine aw_iload (pc := 72) C 2 dX1_atBest_72 rfl ?_
      refine aw_iload (pc := 74) C 1 dX1_atBest_74 rfl ?_
      refine aw_iload (pc := 76) C 0 dX1_atBest_76 rfl ?_
      refine aw_cVI (pc := 78) C (c_X1_through _  j hj r (by omega) k (by simp (disch := omega) only [setR_at, setR_twice, setL_at, setL_twice, setR_2, setL_1, setR_ne, setL_ne, ne_eq, Nat.reduceEqDiff, not_false_eq_true, pk_us, pk_un]; exact hk) hk7 (a + t) q (bpS f (σ.1 j) r (a + t) q 9) g0 (by simp (disch := omega) only [setR_at, setR_twice, setL_at, setL_twice, setR_2, setL_1, setR_ne, setL_ne, ne_eq, Nat.reduceEqDiff, not_false_eq_true, pk_us, pk_un]; exact hg) (by omega) (by omega) (by omega) (by omega) (by omega)) lk_X1_38 sh2 rfl dX1_atBest_78 (by decide) (Nat.le_of_ble_eq_true rfl) rfl rfl ?_
      refine aw_conv (σ' := setR (setR (setR σ 5 (f)) 6 (g)) 7 (upd h (((a + t) * 4) + q) (nI (bpS f (σ.1 j) r (a + t) q 9)))) (st' := [.int (behS f (σ.1 j) r (a + t) q (nI (bpS f (σ.1 j) r (a + t) q 9))), .int (nI q), .ref 4]) (by first | with_reducible rfl | (simp (disch := omega) only [setR_at, setR_twice, setL_at, setL_twice, setR_2, setL_1, setR_ne, setL_ne, ne_eq, Nat.reduceEqDiff, not_false_eq_true, pk_us, pk_un]; done) | (simp (disch := omega) only [setR_at, setR_twice, setL_at, setL_twice, setR_2, setL_1, setR_ne, setL_ne, ne_eq, Nat.reduceEqDiff, not_false_eq_true, pk_us, pk_un, Option.toList_some, Option.toList_none, List.cons_append, List.nil_append]; done) | ((try simp (disch := omega) only [setR_at, setR_twice, setL_at, setL_twice, setR_2, setL_1, setR_ne, setL_ne, ne_eq, Nat.reduceEqDiff, not_false_eq_true, pk_us, pk_un]); refine Prod.ext (funext fun z => ?_) rfl; simp only [setR]; (repeat' split) <;> first | with_reducible rfl | (exfalso; omega)) | rfl) rfl (by first | with_reducible rfl | (simp (disch := omega) only [setR_at, setR_twice, setL_at, setL_twice, setR_2, setL_1, setR_ne, setL_ne, ne_eq, Nat.reduceEqDiff, not_false_eq_true, pk_us, pk_un]; done) | (simp (disch := omega) only [setR_at, setR_twice, setL_at, setL_twice, setR_2, setL_1, setR_ne, setL_ne, ne_eq, Nat.reduceEqDiff, not_false_eq_true, pk_us, pk_un, Option.toList_some, Option.toList_none, List.cons_append, List.nil_append]; done) | ((try simp (disch := omega) only [setR_at, setR_twice, setL_at, setL_twice, setR_2, setL_1, setR_ne, setL_ne, ne_eq, Nat.reduceEqDiff, not_false_eq_true, pk_us, pk_un]); refine Prod.ext (funext fun z => ?_) rfl; simp only [setR]; (repeat' split) <;> first | with_reducible rfl | (exfalso; omega)) | rfl) ?_
      refine aw_top C (mRow true (σ.1 j) r 30 (a + t) q) (mRow_t hI (by omega) (by omega)) ?_
      refine aw_ist (pc := 81) (k := q) C (q) (setR (setR (setR σ 5 (f)) 6 (upd g q (mRow true (σ.1 j) r 30 (a + t) q))) 7 (upd h (((a + t) * 4) + q) (nI (bpS f (σ.1 j) r (a + t) q 9)))) sh4 dX1_atBest_81 rfl (by omega) rfl (by first | with_reducible rfl | (simp (disch := omega) only [setR_at, setR_twice, setL_at, setL_twice, setR_2, setL_1, setR_ne, setL_ne, ne_eq, Nat.reduceEqDiff, not_false_eq_true, pk_us, pk_un]; done) | (simp (disch := omega) only [setR_at, setR_twice, setL_at, setL_twice, setR_2, setL_1, setR_ne, setL_ne, ne_eq, Nat.reduceEqDiff, not_false_eq_true, pk_us, pk_un, Option.toList_some, Option.toList_none, List.cons_append, List.nil_append]; done) | ((try simp (disch := omega) only [setR_at, setR_twice, setL_at, setL_twice, setR_2, setL_1, setR_ne, setL_ne, ne_eq, Nat.reduceEqDiff, not_false_eq_true, pk_us, pk_un]); refine Prod.ext (funext fun z => ?_) rfl; simp only [setR]; (repeat' split) <;> first | with_reducible rfl | (exfalso; omega)) | rfl) ?_
      refine aw_iincN (pc := 82) C 1 q [(7, .int (nI (q + 1))), (8, .int (nI (bpS f (σ.1 j) r (a + t) q 9))), (6, .int (nI (a + t))), (5, .ref (29 + 16 * j + 2 * r)), (0, .ref 2), (1, .ref (25 + 16 * j)), (2, .int (nI r)), (3, .int (nI a)), (4, .int (nI s))] dX1_atBest_82 rfl rfl rfl (Nat.le_of_ble_eq_true rfl) rfl ?_
      refine aw_goto (pc := 85) C 29 dX1_atBest_85 (by decide) ?_
      refine aw_lvs C [0, 2, 3, 4, 5, 6, 7, 8] [(7, .int (nI (q + 1))), (6, .int (nI (a + t))), (5, .ref (29 + 16 * j + 2 * r)), (0, .ref 2), (1, .ref (25 + 16 * j)), (2, .int (nI r)), (3, .int (nI a)), (4, .int (nI s))] rfl ?_
      exact aw_conv (σ' := setR (setR (setR σ 5 (f)) 6 (upd g q (mRow true (σ.1 j) r 30 (a + t) q))) 7 (upd h (((a + t) * 4) + q) (nI (bpS f (σ.1 j) r (a + t) q 9)))) (lv' := [(7, .int (nI (q + 1))), (6, .int (nI (a + t))), (5, .ref (29 + 16 * j + 2 * r)), (0, .ref 2), (1, .ref (25 + 16 * j)), (2, .int (nI r)), (3, .int (nI a)), (4, .int (nI s))]) rfl rfl rfl (ih29 _ _ (HInv.put hJ rfl) (CInv2.put hD (by omega) (mPc_t hI (by omega))))
