/-! the reference: load, judge, images, counts -/
theorem c_X9_load (σ : St) (n : Nat) (hn : σ.1 20 2 = nI n) (hz : n ≤ 6) (hsh : ShOk (σ.1 30) (σ.1 31)) (s r : Int32) : AMet Y_X9_load [.ref 73, .int s, .int r] σ (PM σ (sLoad (σ.1 20) n (σ.1 30) (σ.1 31) (σ.1 32) s r)) := by
  refine am_intro (by decide +kernel) (Nat.le_of_ble_eq_true rfl) (fun K C => ?_)
  refine aw_iload_n (pc := 0) C 1 dX9_load_0 rfl ?_
  refine aw_cSI (pc := 1) C (c_X9_isSheet _ s ) lk_X9_324 dX9_load_1 (by decide) (Nat.le_of_ble_eq_true rfl) rfl rfl ?_
  refine aw_if_neB (pc := 4) C 14 dX9_load_4 (by decide) (fun h4 => ?_) (fun h4 => ?_)
  · obtain ⟨ss, rfl, hss0, hss⟩ := rg 0 3 h4 (by omega) (by omega)
    refine aw_aload_n (pc := 14) C 0 dX9_load_14 rfl ?_
    refine aw_getR (pc := 15) C fl_X9_37 sh73 rfl dX9_load_15 ?_
    refine aw_iload_n (pc := 18) C 1 dX9_load_18 rfl ?_
    refine aw_ild (pc := 19) (k := ss) C (ss) (σ.1 30 ss) sh83 dX9_load_19 rfl (by omega) rfl rfl ?_
    refine aw_if_ne (pc := 20) C 31 dX9_load_20 (by decide) (fun h20 => ?_) (fun h20 => ?_)
    · refine aw_aload_n (pc := 31) C 0 dX9_load_31 rfl ?_
      refine aw_iload_n (pc := 32) C 2 dX9_load_32 rfl ?_
      refine aw_cVI (pc := 33) C (c_X9_isRunner _ n hn hz r ) lk_X9_91 sh73 rfl dX9_load_33 (by decide) (Nat.le_of_ble_eq_true rfl) rfl rfl ?_
      refine aw_if_neB (pc := 36) C 46 dX9_load_36 (by decide) (fun h36 => ?_) (fun h36 => ?_)
      · obtain ⟨z, hz4, ez⟩ := (hsh ss (by omega)).2
        obtain ⟨rr, rfl, hrr⟩ := rgR h36 hz
        refine aw_iconst (pc := 46) (v := 0) C dX9_load_46 rfl ?_
        refine aw_istore_n (pc := 47) C [(3, .int 0), (0, .ref 73), (1, .int (nI ss)), (2, .int (nI rr))] dX9_load_47 (Nat.le_of_ble_eq_true rfl) rfl ?_
        refine aw_lvs C [0, 1, 2, 3] [(3, .int 0), (0, .ref 73), (1, .int (nI ss)), (2, .int (nI rr))] rfl ?_
        refine aw_conv (σ' := setR σ 20 (ldM (σ.1 20) rr (fun k => σ.1 32 (40 * ss + k)) 0)) (lv' := [(3, .int (nI 0)), (0, .ref 73), (1, .int (nI ss)), (2, .int (nI rr))]) (by rw [ldM_0, setR_same]) rfl rfl ?_
        refine loop_dn (P := fun d => d ≤ 40 → ∀ (j : Nat) (hj : j + d = 40) (hN : ldC (fun k => σ.1 32 (40 * ss + k)) z 40 0 = ldC (fun k => σ.1 32 (40 * ss + k)) z d j), AW _ K _ (setR σ 20 (ldM (σ.1 20) rr (fun k => σ.1 32 (40 * ss + k)) j)) 48 [(3, .int (nI j)), (0, .ref 73), (1, .int (nI ss)), (2, .int (nI rr))] []) ?_ ?_ 40 (by omega) 0 rfl rfl
        · intro hk48 j hj hN
          refine aw_iload_n (pc := 48) C 0 dX9_load_48 rfl ?_
          refine aw_aload_n (pc := 49) C 1 dX9_load_49 rfl ?_
          refine aw_getR (pc := 50) C fl_X9_40 sh73 rfl dX9_load_50 ?_
          refine aw_iload_n (pc := 53) C 2 dX9_load_53 rfl ?_
          refine aw_ild (pc := 54) (k := ss) C (ss) (σ.1 31 ss) sh84 dX9_load_54 rfl (by omega) rfl (by first | rfl | (simp (disch := omega) only [setR_at, setR_twice, setL_at, setL_twice, setR_2, setL_1, setR_ne, setL_ne, ne_eq, Nat.reduceEqDiff, not_false_eq_true, pk_us, pk_un]; done) | ((try simp (disch := omega) only [setR_at, setR_twice, setL_at, setL_twice, setR_2, setL_1, setR_ne, setL_ne, ne_eq, Nat.reduceEqDiff, not_false_eq_true, pk_us, pk_un]); refine Prod.ext (funext fun z => ?_) rfl; simp only [setR]; (repeat' split) <;> first | rfl | (exfalso; omega))) ?_
          refine aw_top C (nI (z)) ez ?_
          refine aw_icmp_geN (pc := 55) C j z 108 rfl rfl (by omega) (by omega) dX9_load_55 (by decide) (fun h55 => ?_) (fun h55 => absurd h55 (by omega))
          have hE : ldC (fun k => σ.1 32 (40 * ss + k)) z 40 0 = j := hN
          refine aw_iload_n (pc := 108) C 0 dX9_load_108 rfl ?_
          exact aw_iretP (pc := 109) C rfl dX9_load_109 (pm_of (an' := .inr (nI j, ldM (σ.1 20) rr (fun k => σ.1 32 (40 * ss + k)) j)) (by rw [sLoad, if_pos h4, cl_nI (show ss < 2147483648 by omega), if_neg h20, if_pos h36, ez, cl_nI (show z < 2147483648 by omega), cl_nI (show rr < 2147483648 by omega), hE]) rfl rfl)
        · intro d ih48 hk48 j hj hN
          refine aw_iload_n (pc := 48) C 0 dX9_load_48 rfl ?_
          refine aw_aload_n (pc := 49) C 1 dX9_load_49 rfl ?_
          refine aw_getR (pc := 50) C fl_X9_40 sh73 rfl dX9_load_50 ?_
          refine aw_iload_n (pc := 53) C 2 dX9_load_53 rfl ?_
          refine aw_ild (pc := 54) (k := ss) C (ss) (σ.1 31 ss) sh84 dX9_load_54 rfl (by omega) rfl (by first | rfl | (simp (disch := omega) only [setR_at, setR_twice, setL_at, setL_twice, setR_2, setL_1, setR_ne, setL_ne, ne_eq, Nat.reduceEqDiff, not_false_eq_true, pk_us, pk_un]; done) | ((try simp (disch := omega) only [setR_at, setR_twice, setL_at, setL_twice, setR_2, setL_1, setR_ne, setL_ne, ne_eq, Nat.reduceEqDiff, not_false_eq_true, pk_us, pk_un]); refine Prod.ext (funext fun z => ?_) rfl; simp only [setR]; (repeat' split) <;> first | rfl | (exfalso; omega))) ?_
          refine aw_top C (nI (z)) ez ?_
          refine aw_icmp_geN (pc := 55) C j z 108 rfl rfl (by omega) (by omega) dX9_load_55 (by decide) (fun h55 => ?_) (fun h55 => ?_)
          · have hE : ldC (fun k => σ.1 32 (40 * ss + k)) z 40 0 = j := hN.trans (ldC_n (fun q => absurd q.1 (by omega)))
            refine aw_iload_n (pc := 108) C 0 dX9_load_108 rfl ?_
            exact aw_iretP (pc := 109) C rfl dX9_load_109 (pm_of (an' := .inr (nI j, ldM (σ.1 20) rr (fun k => σ.1 32 (40 * ss + k)) j)) (by rw [sLoad, if_pos h4, cl_nI (show ss < 2147483648 by omega), if_neg h20, if_pos h36, ez, cl_nI (show z < 2147483648 by omega), cl_nI (show rr < 2147483648 by omega), hE]) rfl rfl)
          · refine aw_iload_n (pc := 58) C 0 dX9_load_58 rfl ?_
            refine aw_cSI (pc := 59) C (c_X9_isYard _ (nI (j)) ) lk_X9_66 dX9_load_59 (by decide) (Nat.le_of_ble_eq_true rfl) rfl rfl ?_
            refine aw_conv (σ' := setR σ 20 (ldM (σ.1 20) rr (fun k => σ.1 32 (40 * ss + k)) j)) (st' := [.int (b2i (0 ≤ (nI (j)) ∧ (nI (j)) ≤ 29))]) (by first | rfl | (simp (disch := omega) only [setR_at, setR_twice, setL_at, setL_twice, setR_2, setL_1, setR_ne, setL_ne, ne_eq, Nat.reduceEqDiff, not_false_eq_true, pk_us, pk_un]; done) | ((try simp (disch := omega) only [setR_at, setR_twice, setL_at, setL_twice, setR_2, setL_1, setR_ne, setL_ne, ne_eq, Nat.reduceEqDiff, not_false_eq_true, pk_us, pk_un]); refine Prod.ext (funext fun z => ?_) rfl; simp only [setR]; (repeat' split) <;> first | rfl | (exfalso; omega))) rfl (by first | rfl | (simp (disch := omega) only [setR_at, setR_twice, setL_at, setL_twice, setR_2, setL_1, setR_ne, setL_ne, ne_eq, Nat.reduceEqDiff, not_false_eq_true, pk_us, pk_un]; done) | ((try simp (disch := omega) only [setR_at, setR_twice, setL_at, setL_twice, setR_2, setL_1, setR_ne, setL_ne, ne_eq, Nat.reduceEqDiff, not_false_eq_true, pk_us, pk_un]); refine Prod.ext (funext fun z => ?_) rfl; simp only [setR]; (repeat' split) <;> first | rfl | (exfalso; omega))) ?_
            refine aw_if_eqB (pc := 62) C 108 dX9_load_62 (by decide) (fun h62 => ?_) (fun h62 => ?_)
            · have hE : ldC (fun k => σ.1 32 (40 * ss + k)) z 40 0 = j := hN.trans (ldC_n (fun q => h62 ((yard_nat (by omega)).mpr q.2.1)))
              refine aw_iload_n (pc := 108) C 0 dX9_load_108 rfl ?_
              exact aw_iretP (pc := 109) C rfl dX9_load_109 (pm_of (an' := .inr (nI j, ldM (σ.1 20) rr (fun k => σ.1 32 (40 * ss + k)) j)) (by rw [sLoad, if_pos h4, cl_nI (show ss < 2147483648 by omega), if_neg h20, if_pos h36, ez, cl_nI (show z < 2147483648 by omega), cl_nI (show rr < 2147483648 by omega), hE]) rfl rfl)
            · refine aw_aload_n (pc := 65) C 1 dX9_load_65 rfl ?_
              refine aw_getR (pc := 66) C fl_X9_43 sh73 rfl dX9_load_66 ?_
              refine aw_bipush (pc := 69) (v := 40) C dX9_load_69 rfl ?_
              refine aw_iload_n (pc := 71) C 2 dX9_load_71 rfl ?_
              refine aw_imulN (pc := 72) C 40 ss rfl rfl dX9_load_72 ?_
              refine aw_iload_n (pc := 73) C 0 dX9_load_73 rfl ?_
              refine aw_iaddN (pc := 74) C (40 * ss) j rfl rfl dX9_load_74 ?_
              refine aw_ild (pc := 75) (k := (40 * ss) + j) C ((40 * ss) + j) (σ.1 32 ((40 * ss) + j)) sh85 dX9_load_75 rfl (by omega) rfl (by first | rfl | (simp (disch := omega) only [setR_at, setR_twice, setL_at, setL_twice, setR_2, setL_1, setR_ne, setL_ne, ne_eq, Nat.reduceEqDiff, not_false_eq_true, pk_us, pk_un]; done) | ((try simp (disch := omega) only [setR_at, setR_twice, setL_at, setL_twice, setR_2, setL_1, setR_ne, setL_ne, ne_eq, Nat.reduceEqDiff, not_false_eq_true, pk_us, pk_un]); refine Prod.ext (funext fun z => ?_) rfl; simp only [setR]; (repeat' split) <;> first | rfl | (exfalso; omega))) ?_
              refine aw_cSI (pc := 76) C (c_X9_isPace _ (σ.1 32 ((40 * ss) + j)) ) lk_X9_107 dX9_load_76 (by decide) (Nat.le_of_ble_eq_true rfl) rfl rfl ?_
              refine aw_conv (σ' := setR σ 20 (ldM (σ.1 20) rr (fun k => σ.1 32 (40 * ss + k)) j)) (st' := [.int (b2i (1 ≤ (σ.1 32 ((40 * ss) + j)) ∧ (σ.1 32 ((40 * ss) + j)) ≤ 9))]) (by first | rfl | (simp (disch := omega) only [setR_at, setR_twice, setL_at, setL_twice, setR_2, setL_1, setR_ne, setL_ne, ne_eq, Nat.reduceEqDiff, not_false_eq_true, pk_us, pk_un]; done) | ((try simp (disch := omega) only [setR_at, setR_twice, setL_at, setL_twice, setR_2, setL_1, setR_ne, setL_ne, ne_eq, Nat.reduceEqDiff, not_false_eq_true, pk_us, pk_un]); refine Prod.ext (funext fun z => ?_) rfl; simp only [setR]; (repeat' split) <;> first | rfl | (exfalso; omega))) rfl (by first | rfl | (simp (disch := omega) only [setR_at, setR_twice, setL_at, setL_twice, setR_2, setL_1, setR_ne, setL_ne, ne_eq, Nat.reduceEqDiff, not_false_eq_true, pk_us, pk_un]; done) | ((try simp (disch := omega) only [setR_at, setR_twice, setL_at, setL_twice, setR_2, setL_1, setR_ne, setL_ne, ne_eq, Nat.reduceEqDiff, not_false_eq_true, pk_us, pk_un]); refine Prod.ext (funext fun z => ?_) rfl; simp only [setR]; (repeat' split) <;> first | rfl | (exfalso; omega))) ?_
              refine aw_if_eqB (pc := 79) C 108 dX9_load_79 (by decide) (fun h79 => ?_) (fun h79 => ?_)
              · have hE : ldC (fun k => σ.1 32 (40 * ss + k)) z 40 0 = j := hN.trans (ldC_n (fun q => h79 q.2.2))
                refine aw_iload_n (pc := 108) C 0 dX9_load_108 rfl ?_
                exact aw_iretP (pc := 109) C rfl dX9_load_109 (pm_of (an' := .inr (nI j, ldM (σ.1 20) rr (fun k => σ.1 32 (40 * ss + k)) j)) (by rw [sLoad, if_pos h4, cl_nI (show ss < 2147483648 by omega), if_neg h20, if_pos h36, ez, cl_nI (show z < 2147483648 by omega), cl_nI (show rr < 2147483648 by omega), hE]) rfl rfl)
              · refine aw_aload_n (pc := 82) C 1 dX9_load_82 rfl ?_
                refine aw_iload_n (pc := 83) C 3 dX9_load_83 rfl ?_
                refine aw_bipush (pc := 84) (v := 7) C dX9_load_84 rfl ?_
                refine aw_iload_n (pc := 86) C 0 dX9_load_86 rfl ?_
                refine aw_iaddN (pc := 87) C 7 j rfl rfl dX9_load_87 ?_
                refine aw_aload_n (pc := 88) C 1 dX9_load_88 rfl ?_
                refine aw_getR (pc := 89) C fl_X9_43 sh73 rfl dX9_load_89 ?_
                refine aw_bipush (pc := 92) (v := 40) C dX9_load_92 rfl ?_
                refine aw_iload_n (pc := 94) C 2 dX9_load_94 rfl ?_
                refine aw_imulN (pc := 95) C 40 ss rfl rfl dX9_load_95 ?_
                refine aw_iload_n (pc := 96) C 0 dX9_load_96 rfl ?_
                refine aw_iaddN (pc := 97) C (40 * ss) j rfl rfl dX9_load_97 ?_
                refine aw_ild (pc := 98) (k := (40 * ss) + j) C ((40 * ss) + j) (σ.1 32 ((40 * ss) + j)) sh85 dX9_load_98 rfl (by omega) rfl (by first | rfl | (simp (disch := omega) only [setR_at, setR_twice, setL_at, setL_twice, setR_2, setL_1, setR_ne, setL_ne, ne_eq, Nat.reduceEqDiff, not_false_eq_true, pk_us, pk_un]; done) | ((try simp (disch := omega) only [setR_at, setR_twice, setL_at, setL_twice, setR_2, setL_1, setR_ne, setL_ne, ne_eq, Nat.reduceEqDiff, not_false_eq_true, pk_us, pk_un]); refine Prod.ext (funext fun z => ?_) rfl; simp only [setR]; (repeat' split) <;> first | rfl | (exfalso; omega))) ?_
                refine aw_cV0 (pc := 99) C (c_X9_makes _ rr (7 + j) (σ.1 32 ((40 * ss) + j)) (by omega)) lk_X9_77 sh73 rfl dX9_load_99 (by decide) (Nat.le_of_ble_eq_true rfl) rfl rfl ?_
                refine aw_conv (σ' := setR σ 20 (upd (ldM (σ.1 20) rr (fun k => σ.1 32 (40 * ss + k)) j) (33 + 37 * rr + (7 + j)) (σ.1 32 ((40 * ss) + j)))) (st' := []) (by first | rfl | (simp (disch := omega) only [setR_at, setR_twice, setL_at, setL_twice, setR_2, setL_1, setR_ne, setL_ne, ne_eq, Nat.reduceEqDiff, not_false_eq_true, pk_us, pk_un]; done) | ((try simp (disch := omega) only [setR_at, setR_twice, setL_at, setL_twice, setR_2, setL_1, setR_ne, setL_ne, ne_eq, Nat.reduceEqDiff, not_false_eq_true, pk_us, pk_un]); refine Prod.ext (funext fun z => ?_) rfl; simp only [setR]; (repeat' split) <;> first | rfl | (exfalso; omega))) rfl (by first | rfl | (simp (disch := omega) only [setR_at, setR_twice, setL_at, setL_twice, setR_2, setL_1, setR_ne, setL_ne, ne_eq, Nat.reduceEqDiff, not_false_eq_true, pk_us, pk_un]; done) | ((try simp (disch := omega) only [setR_at, setR_twice, setL_at, setL_twice, setR_2, setL_1, setR_ne, setL_ne, ne_eq, Nat.reduceEqDiff, not_false_eq_true, pk_us, pk_un]); refine Prod.ext (funext fun z => ?_) rfl; simp only [setR]; (repeat' split) <;> first | rfl | (exfalso; omega))) ?_
                refine aw_conv (σ' := setR σ 20 (ldM (σ.1 20) rr (fun k => σ.1 32 (40 * ss + k)) (j + 1))) (congrArg (setR σ 20) (ldM_s (f := (fun k => σ.1 32 (40 * ss + k))))) rfl rfl ?_
                refine aw_iincN (pc := 102) C 0 j [(3, .int (nI (j + 1))), (0, .ref 73), (1, .int (nI ss)), (2, .int (nI rr))] dX9_load_102 rfl rfl rfl (Nat.le_of_ble_eq_true rfl) rfl ?_
                refine aw_goto (pc := 105) C 48 dX9_load_105 (by decide) ?_
                refine aw_lvs C [0, 1, 2, 3] [(3, .int (nI (j + 1))), (0, .ref 73), (1, .int (nI ss)), (2, .int (nI rr))] rfl ?_
                exact aw_conv (σ' := setR σ 20 (ldM (σ.1 20) rr (fun k => σ.1 32 (40 * ss + k)) (j + 1))) (lv' := [(3, .int (nI (j + 1))), (0, .ref 73), (1, .int (nI ss)), (2, .int (nI rr))]) rfl rfl rfl (ih48 (by omega) (j + 1) (by omega) (hN.trans (ldC_y ⟨h55, (yard_nat (by omega)).mp h62, h79⟩)))
      · refine aw_aload_n (pc := 39) C 0 dX9_load_39 rfl ?_
        refine aw_ldc (pc := 40) C dX9_load_40 kc_X9_46 ?_
        refine aw_cVI (pc := 42) C (c_X9_finds _ (-100000001) 0 (by decide) (by decide)) lk_X9_48 sh73 rfl dX9_load_42 (by decide) (Nat.le_of_ble_eq_true rfl) rfl rfl ?_
        exact aw_iretP (pc := 45) C rfl dX9_load_45 (pm_of (an' := .inl 0) (by rw [sLoad, if_pos h4, cl_nI (show ss < 2147483648 by omega), if_neg h20, if_neg h36]) rfl rfl)
    · refine aw_aload_n (pc := 23) C 0 dX9_load_23 rfl ?_
      refine aw_ldcw (pc := 24) C dX9_load_24 kc_X9_319 ?_
      refine aw_cVI (pc := 27) C (c_X9_finds _ (-100000006) 5 (by decide) (by decide)) lk_X9_48 sh73 rfl dX9_load_27 (by decide) (Nat.le_of_ble_eq_true rfl) rfl rfl ?_
      exact aw_iretP (pc := 30) C rfl dX9_load_30 (pm_of (an' := .inl 5) (by rw [sLoad, if_pos h4, cl_nI (show ss < 2147483648 by omega), if_pos h20]) rfl rfl)
  · refine aw_aload_n (pc := 7) C 0 dX9_load_7 rfl ?_
    refine aw_ldc (pc := 8) C dX9_load_8 kc_X9_46 ?_
    refine aw_cVI (pc := 10) C (c_X9_finds _ (-100000001) 0 (by decide) (by decide)) lk_X9_48 sh73 rfl dX9_load_10 (by decide) (Nat.le_of_ble_eq_true rfl) rfl rfl ?_
    exact aw_iretP (pc := 13) C rfl dX9_load_13 (pm_of (an' := .inl 0) (by rw [sLoad, if_neg (fun z => h4 z)]) rfl rfl)
theorem c_X9_judge (σ : St) (n : Nat) (hok : Ok n (σ.1 20)) (hsh : ShOk (σ.1 30) (σ.1 31)) (s : Int32) : AMet Y_X9_judge [.ref 73, .int s] σ (PM σ (sJudge (σ.1 20) n (σ.1 30) (σ.1 31) (σ.1 32) s)) := by
  refine am_intro (by decide +kernel) (Nat.le_of_ble_eq_true rfl) (fun K C => ?_)
  have hz := hok.1
  have hn := hok.2.1
  refine aw_iload_n (pc := 0) C 1 dX9_judge_0 rfl ?_
  refine aw_cSI (pc := 1) C (c_X9_isSheet _ s ) lk_X9_324 dX9_judge_1 (by decide) (Nat.le_of_ble_eq_true rfl) rfl rfl ?_
  refine aw_if_neB (pc := 4) C 14 dX9_judge_4 (by decide) (fun h4 => ?_) (fun h4 => ?_)
  · obtain ⟨ss, rfl, hss0, hss⟩ := rg 0 3 h4 (by omega) (by omega)
    refine aw_aload_n (pc := 14) C 0 dX9_judge_14 rfl ?_
    refine aw_getR (pc := 15) C fl_X9_37 sh73 rfl dX9_judge_15 ?_
    refine aw_iload_n (pc := 18) C 1 dX9_judge_18 rfl ?_
    refine aw_ild (pc := 19) (k := ss) C (ss) (σ.1 30 ss) sh83 dX9_judge_19 rfl (by omega) rfl rfl ?_
    refine aw_if_ne (pc := 20) C 31 dX9_judge_20 (by decide) (fun h20 => ?_) (fun h20 => ?_)
    · obtain ⟨z, hz4, ez⟩ := (hsh ss (by omega)).2
      refine aw_aload_n (pc := 31) C 0 dX9_judge_31 rfl ?_
      refine aw_getR (pc := 32) C fl_X9_9 sh73 rfl dX9_judge_32 ?_
      refine aw_aload_n (pc := 35) C 0 dX9_judge_35 rfl ?_
      refine aw_getR (pc := 36) C fl_X9_16 sh73 rfl dX9_judge_36 ?_
      refine aw_cS0 (pc := 39) C (c_X9_row_74_76 _  ) lk_X9_166 dX9_judge_39 (by decide) (Nat.le_of_ble_eq_true rfl) rfl rfl ?_
      refine aw_iconst (pc := 42) (v := 0) C dX9_judge_42 rfl ?_
      refine aw_istore_n (pc := 43) C [(2, .int 0), (0, .ref 73), (1, .int (nI ss))] dX9_judge_43 (Nat.le_of_ble_eq_true rfl) rfl ?_
      refine aw_aload_n (pc := 44) C 1 dX9_judge_44 rfl ?_
      refine aw_cVI (pc := 45) C (c_X9_runsNext _ n (by simp (disch := omega) only [setR_at, setR_twice, setL_at, setL_twice, setR_2, setL_1, setR_ne, setL_ne, ne_eq, Nat.reduceEqDiff, not_false_eq_true, pk_us, pk_un]; exact hn) hz ) lk_X9_139 sh73 rfl dX9_judge_45 (by decide) (Nat.le_of_ble_eq_true rfl) rfl rfl ?_
      refine aw_conv (σ' := setR σ 22 (σ.1 20)) (st' := [.int (oI (nxt (σ.1 20) n))]) (by first | rfl | (simp (disch := omega) only [setR_at, setR_twice, setL_at, setL_twice, setR_2, setL_1, setR_ne, setL_ne, ne_eq, Nat.reduceEqDiff, not_false_eq_true, pk_us, pk_un]; done) | ((try simp (disch := omega) only [setR_at, setR_twice, setL_at, setL_twice, setR_2, setL_1, setR_ne, setL_ne, ne_eq, Nat.reduceEqDiff, not_false_eq_true, pk_us, pk_un]); refine Prod.ext (funext fun z => ?_) rfl; simp only [setR]; (repeat' split) <;> first | rfl | (exfalso; omega))) rfl (by first | rfl | (simp (disch := omega) only [setR_at, setR_twice, setL_at, setL_twice, setR_2, setL_1, setR_ne, setL_ne, ne_eq, Nat.reduceEqDiff, not_false_eq_true, pk_us, pk_un]; done) | ((try simp (disch := omega) only [setR_at, setR_twice, setL_at, setL_twice, setR_2, setL_1, setR_ne, setL_ne, ne_eq, Nat.reduceEqDiff, not_false_eq_true, pk_us, pk_un]); refine Prod.ext (funext fun z => ?_) rfl; simp only [setR]; (repeat' split) <;> first | rfl | (exfalso; omega))) ?_
      refine aw_istore_n (pc := 48) C [(3, .int (oI (nxt (σ.1 20) n))), (2, .int 0), (0, .ref 73), (1, .int (nI ss))] dX9_judge_48 (Nat.le_of_ble_eq_true rfl) rfl ?_
      refine aw_lvs C [0, 1, 2, 3] [(3, .int (oI (nxt (σ.1 20) n))), (2, .int 0), (0, .ref 73), (1, .int (nI ss))] rfl ?_
      refine aw_conv (σ' := setR (setR σ 22 (σ.1 20)) 20 (goM n (σ.1 20) 0)) (lv' := [(3, .int (oI (nxt (goM n (σ.1 20) 0) n))), (2, .int (nI 0)), (0, .ref 73), (1, .int (nI ss))]) (setR_same (setR σ 22 (σ.1 20)) 20).symm rfl rfl ?_
      refine loop_dn (P := fun d => d ≤ 40 → ∀ (j : Nat) (hj : j + d = 40) (hN : jdC n (σ.1 20) (fun k => σ.1 32 (40 * ss + k)) z 40 0 = jdC n (σ.1 20) (fun k => σ.1 32 (40 * ss + k)) z d j), AW _ K _ (setR (setR σ 22 (σ.1 20)) 20 (goM n (σ.1 20) j)) 49 [(3, .int (oI (nxt (goM n (σ.1 20) j) n))), (2, .int (nI j)), (0, .ref 73), (1, .int (nI ss))] []) ?_ ?_ 40 (by omega) 0 rfl rfl
      · intro hk49 j hj hN
        refine aw_iload_n (pc := 49) C 1 dX9_judge_49 rfl ?_
        have hokk := hok.go j
        refine aw_aload_n (pc := 50) C 2 dX9_judge_50 rfl ?_
        refine aw_getR (pc := 51) C fl_X9_40 sh73 rfl dX9_judge_51 ?_
        refine aw_iload_n (pc := 54) C 3 dX9_judge_54 rfl ?_
        refine aw_ild (pc := 55) (k := ss) C (ss) (σ.1 31 ss) sh84 dX9_judge_55 rfl (by omega) rfl (by first | rfl | (simp (disch := omega) only [setR_at, setR_twice, setL_at, setL_twice, setR_2, setL_1, setR_ne, setL_ne, ne_eq, Nat.reduceEqDiff, not_false_eq_true, pk_us, pk_un]; done) | ((try simp (disch := omega) only [setR_at, setR_twice, setL_at, setL_twice, setR_2, setL_1, setR_ne, setL_ne, ne_eq, Nat.reduceEqDiff, not_false_eq_true, pk_us, pk_un]); refine Prod.ext (funext fun z => ?_) rfl; simp only [setR]; (repeat' split) <;> first | rfl | (exfalso; omega))) ?_
        refine aw_top C (nI (z)) ez ?_
        refine aw_icmp_geN (pc := 56) C j z 95 rfl rfl (by omega) (by omega) dX9_judge_56 (by decide) (fun h56 => ?_) (fun h56 => absurd h56 (by omega))
        have hE : jdC n (σ.1 20) (fun k => σ.1 32 (40 * ss + k)) z 40 0 = j := hN
        refine aw_aload_n (pc := 95) C 2 dX9_judge_95 rfl ?_
        refine aw_getR (pc := 96) C fl_X9_16 sh73 rfl dX9_judge_96 ?_
        refine aw_aload_n (pc := 99) C 2 dX9_judge_99 rfl ?_
        refine aw_getR (pc := 100) C fl_X9_9 sh73 rfl dX9_judge_100 ?_
        refine aw_cS0 (pc := 103) C (c_X9_row_76_74 _  ) lk_X9_166 dX9_judge_103 (by decide) (Nat.le_of_ble_eq_true rfl) rfl rfl ?_
        refine aw_conv (σ' := setR (setR σ 22 (σ.1 20)) 20 (σ.1 20)) (st' := []) (by first | rfl | (simp (disch := omega) only [setR_at, setR_twice, setL_at, setL_twice, setR_2, setL_1, setR_ne, setL_ne, ne_eq, Nat.reduceEqDiff, not_false_eq_true, pk_us, pk_un]; done) | ((try simp (disch := omega) only [setR_at, setR_twice, setL_at, setL_twice, setR_2, setL_1, setR_ne, setL_ne, ne_eq, Nat.reduceEqDiff, not_false_eq_true, pk_us, pk_un]); refine Prod.ext (funext fun z => ?_) rfl; simp only [setR]; (repeat' split) <;> first | rfl | (exfalso; omega))) rfl (by first | rfl | (simp (disch := omega) only [setR_at, setR_twice, setL_at, setL_twice, setR_2, setL_1, setR_ne, setL_ne, ne_eq, Nat.reduceEqDiff, not_false_eq_true, pk_us, pk_un]; done) | ((try simp (disch := omega) only [setR_at, setR_twice, setL_at, setL_twice, setR_2, setL_1, setR_ne, setL_ne, ne_eq, Nat.reduceEqDiff, not_false_eq_true, pk_us, pk_un]); refine Prod.ext (funext fun z => ?_) rfl; simp only [setR]; (repeat' split) <;> first | rfl | (exfalso; omega))) ?_
        refine aw_iload_n (pc := 106) C 1 dX9_judge_106 rfl ?_
        refine aw_aload_n (pc := 107) C 2 dX9_judge_107 rfl ?_
        refine aw_getR (pc := 108) C fl_X9_40 sh73 rfl dX9_judge_108 ?_
        refine aw_iload_n (pc := 111) C 3 dX9_judge_111 rfl ?_
        refine aw_ild (pc := 112) (k := ss) C (ss) (σ.1 31 ss) sh84 dX9_judge_112 rfl (by omega) rfl (by first | rfl | (simp (disch := omega) only [setR_at, setR_twice, setL_at, setL_twice, setR_2, setL_1, setR_ne, setL_ne, ne_eq, Nat.reduceEqDiff, not_false_eq_true, pk_us, pk_un]; done) | ((try simp (disch := omega) only [setR_at, setR_twice, setL_at, setL_twice, setR_2, setL_1, setR_ne, setL_ne, ne_eq, Nat.reduceEqDiff, not_false_eq_true, pk_us, pk_un]); refine Prod.ext (funext fun z => ?_) rfl; simp only [setR]; (repeat' split) <;> first | rfl | (exfalso; omega))) ?_
        refine aw_top C (nI (z)) ez ?_
        refine aw_icmp_neN (pc := 113) C j z 120 rfl rfl (by omega) (by omega) dX9_judge_113 (by decide) (fun h113 => ?_) (fun h113 => ?_)
        · refine aw_iconst (pc := 120) (v := 1) C dX9_judge_120 rfl ?_
          refine aw_iload_n (pc := 121) C 1 dX9_judge_121 rfl ?_
          refine aw_iaddN (pc := 122) C 1 j rfl rfl dX9_judge_122 ?_
          exact aw_iretP (pc := 123) C rfl dX9_judge_123 (pm_scr (an' := .inr (jdA j z, σ.1 20)) (by rw [sJudge, if_pos h4, cl_nI (show ss < 2147483648 by omega), if_neg h20, ez, cl_nI (show z < 2147483648 by omega), hE]) (if_neg h113).symm (fun r hr => by simp only [anS, setR]; (repeat' split) <;> first | rfl | (subst_vars; first | rfl | exact absurd (by decide) hr)) rfl)
        · refine aw_iconst (pc := 116) (v := 0) C dX9_judge_116 rfl ?_
          refine aw_goto (pc := 117) C 123 dX9_judge_117 (by decide) ?_
          exact aw_iretP (pc := 123) C rfl dX9_judge_123 (pm_scr (an' := .inr (jdA j z, σ.1 20)) (by rw [sJudge, if_pos h4, cl_nI (show ss < 2147483648 by omega), if_neg h20, ez, cl_nI (show z < 2147483648 by omega), hE]) (if_pos h113).symm (fun r hr => by simp only [anS, setR]; (repeat' split) <;> first | rfl | (subst_vars; first | rfl | exact absurd (by decide) hr)) rfl)
      · intro d ih49 hk49 j hj hN
        refine aw_iload_n (pc := 49) C 1 dX9_judge_49 rfl ?_
        have hokk := hok.go j
        refine aw_aload_n (pc := 50) C 2 dX9_judge_50 rfl ?_
        refine aw_getR (pc := 51) C fl_X9_40 sh73 rfl dX9_judge_51 ?_
        refine aw_iload_n (pc := 54) C 3 dX9_judge_54 rfl ?_
        refine aw_ild (pc := 55) (k := ss) C (ss) (σ.1 31 ss) sh84 dX9_judge_55 rfl (by omega) rfl (by first | rfl | (simp (disch := omega) only [setR_at, setR_twice, setL_at, setL_twice, setR_2, setL_1, setR_ne, setL_ne, ne_eq, Nat.reduceEqDiff, not_false_eq_true, pk_us, pk_un]; done) | ((try simp (disch := omega) only [setR_at, setR_twice, setL_at, setL_twice, setR_2, setL_1, setR_ne, setL_ne, ne_eq, Nat.reduceEqDiff, not_false_eq_true, pk_us, pk_un]); refine Prod.ext (funext fun z => ?_) rfl; simp only [setR]; (repeat' split) <;> first | rfl | (exfalso; omega))) ?_
        refine aw_top C (nI (z)) ez ?_
        refine aw_icmp_geN (pc := 56) C j z 95 rfl rfl (by omega) (by omega) dX9_judge_56 (by decide) (fun h56 => ?_) (fun h56 => ?_)
        · have hE : jdC n (σ.1 20) (fun k => σ.1 32 (40 * ss + k)) z 40 0 = j := hN.trans (jdC_n (fun q => absurd q.1 (by omega)))
          refine aw_aload_n (pc := 95) C 2 dX9_judge_95 rfl ?_
          refine aw_getR (pc := 96) C fl_X9_16 sh73 rfl dX9_judge_96 ?_
          refine aw_aload_n (pc := 99) C 2 dX9_judge_99 rfl ?_
          refine aw_getR (pc := 100) C fl_X9_9 sh73 rfl dX9_judge_100 ?_
          refine aw_cS0 (pc := 103) C (c_X9_row_76_74 _  ) lk_X9_166 dX9_judge_103 (by decide) (Nat.le_of_ble_eq_true rfl) rfl rfl ?_
          refine aw_conv (σ' := setR (setR σ 22 (σ.1 20)) 20 (σ.1 20)) (st' := []) (by first | rfl | (simp (disch := omega) only [setR_at, setR_twice, setL_at, setL_twice, setR_2, setL_1, setR_ne, setL_ne, ne_eq, Nat.reduceEqDiff, not_false_eq_true, pk_us, pk_un]; done) | ((try simp (disch := omega) only [setR_at, setR_twice, setL_at, setL_twice, setR_2, setL_1, setR_ne, setL_ne, ne_eq, Nat.reduceEqDiff, not_false_eq_true, pk_us, pk_un]); refine Prod.ext (funext fun z => ?_) rfl; simp only [setR]; (repeat' split) <;> first | rfl | (exfalso; omega))) rfl (by first | rfl | (simp (disch := omega) only [setR_at, setR_twice, setL_at, setL_twice, setR_2, setL_1, setR_ne, setL_ne, ne_eq, Nat.reduceEqDiff, not_false_eq_true, pk_us, pk_un]; done) | ((try simp (disch := omega) only [setR_at, setR_twice, setL_at, setL_twice, setR_2, setL_1, setR_ne, setL_ne, ne_eq, Nat.reduceEqDiff, not_false_eq_true, pk_us, pk_un]); refine Prod.ext (funext fun z => ?_) rfl; simp only [setR]; (repeat' split) <;> first | rfl | (exfalso; omega))) ?_
          refine aw_iload_n (pc := 106) C 1 dX9_judge_106 rfl ?_
          refine aw_aload_n (pc := 107) C 2 dX9_judge_107 rfl ?_
          refine aw_getR (pc := 108) C fl_X9_40 sh73 rfl dX9_judge_108 ?_
          refine aw_iload_n (pc := 111) C 3 dX9_judge_111 rfl ?_
          refine aw_ild (pc := 112) (k := ss) C (ss) (σ.1 31 ss) sh84 dX9_judge_112 rfl (by omega) rfl (by first | rfl | (simp (disch := omega) only [setR_at, setR_twice, setL_at, setL_twice, setR_2, setL_1, setR_ne, setL_ne, ne_eq, Nat.reduceEqDiff, not_false_eq_true, pk_us, pk_un]; done) | ((try simp (disch := omega) only [setR_at, setR_twice, setL_at, setL_twice, setR_2, setL_1, setR_ne, setL_ne, ne_eq, Nat.reduceEqDiff, not_false_eq_true, pk_us, pk_un]); refine Prod.ext (funext fun z => ?_) rfl; simp only [setR]; (repeat' split) <;> first | rfl | (exfalso; omega))) ?_
          refine aw_top C (nI (z)) ez ?_
          refine aw_icmp_neN (pc := 113) C j z 120 rfl rfl (by omega) (by omega) dX9_judge_113 (by decide) (fun h113 => ?_) (fun h113 => ?_)
          · refine aw_iconst (pc := 120) (v := 1) C dX9_judge_120 rfl ?_
            refine aw_iload_n (pc := 121) C 1 dX9_judge_121 rfl ?_
            refine aw_iaddN (pc := 122) C 1 j rfl rfl dX9_judge_122 ?_
            exact aw_iretP (pc := 123) C rfl dX9_judge_123 (pm_scr (an' := .inr (jdA j z, σ.1 20)) (by rw [sJudge, if_pos h4, cl_nI (show ss < 2147483648 by omega), if_neg h20, ez, cl_nI (show z < 2147483648 by omega), hE]) (if_neg h113).symm (fun r hr => by simp only [anS, setR]; (repeat' split) <;> first | rfl | (subst_vars; first | rfl | exact absurd (by decide) hr)) rfl)
          · refine aw_iconst (pc := 116) (v := 0) C dX9_judge_116 rfl ?_
            refine aw_goto (pc := 117) C 123 dX9_judge_117 (by decide) ?_
            exact aw_iretP (pc := 123) C rfl dX9_judge_123 (pm_scr (an' := .inr (jdA j z, σ.1 20)) (by rw [sJudge, if_pos h4, cl_nI (show ss < 2147483648 by omega), if_neg h20, ez, cl_nI (show z < 2147483648 by omega), hE]) (if_pos h113).symm (fun r hr => by simp only [anS, setR]; (repeat' split) <;> first | rfl | (subst_vars; first | rfl | exact absurd (by decide) hr)) rfl)
        · rcases hb : nxt (goM n (σ.1 20) j) n with _ | b
          · refine aw_lvs C [0, 1, 2, 3] [(3, .int ((-1))), (2, .int (nI j)), (0, .ref 73), (1, .int (nI ss))] rfl ?_
            refine aw_iload_n (pc := 59) C 0 dX9_judge_59 rfl ?_
            refine aw_if_lt (pc := 60) C 95 dX9_judge_60 (by decide) (fun h60 => ?_) (fun h60 => absurd h60 (by decide))
            have hE : jdC n (σ.1 20) (fun k => σ.1 32 (40 * ss + k)) z 40 0 = j := hN.trans (jdC_n (fun q => q.2.1 hb))
            refine aw_aload_n (pc := 95) C 2 dX9_judge_95 rfl ?_
            refine aw_getR (pc := 96) C fl_X9_16 sh73 rfl dX9_judge_96 ?_
            refine aw_aload_n (pc := 99) C 2 dX9_judge_99 rfl ?_
            refine aw_getR (pc := 100) C fl_X9_9 sh73 rfl dX9_judge_100 ?_
            refine aw_cS0 (pc := 103) C (c_X9_row_76_74 _  ) lk_X9_166 dX9_judge_103 (by decide) (Nat.le_of_ble_eq_true rfl) rfl rfl ?_
            refine aw_conv (σ' := setR (setR σ 22 (σ.1 20)) 20 (σ.1 20)) (st' := []) (by first | rfl | (simp (disch := omega) only [setR_at, setR_twice, setL_at, setL_twice, setR_2, setL_1, setR_ne, setL_ne, ne_eq, Nat.reduceEqDiff, not_false_eq_true, pk_us, pk_un]; done) | ((try simp (disch := omega) only [setR_at, setR_twice, setL_at, setL_twice, setR_2, setL_1, setR_ne, setL_ne, ne_eq, Nat.reduceEqDiff, not_false_eq_true, pk_us, pk_un]); refine Prod.ext (funext fun z => ?_) rfl; simp only [setR]; (repeat' split) <;> first | rfl | (exfalso; omega))) rfl (by first | rfl | (simp (disch := omega) only [setR_at, setR_twice, setL_at, setL_twice, setR_2, setL_1, setR_ne, setL_ne, ne_eq, Nat.reduceEqDiff, not_false_eq_true, pk_us, pk_un]; done) | ((try simp (disch := omega) only [setR_at, setR_twice, setL_at, setL_twice, setR_2, setL_1, setR_ne, setL_ne, ne_eq, Nat.reduceEqDiff, not_false_eq_true, pk_us, pk_un]); refine Prod.ext (funext fun z => ?_) rfl; simp only [setR]; (repeat' split) <;> first | rfl | (exfalso; omega))) ?_
            refine aw_iload_n (pc := 106) C 1 dX9_judge_106 rfl ?_
            refine aw_aload_n (pc := 107) C 2 dX9_judge_107 rfl ?_
            refine aw_getR (pc := 108) C fl_X9_40 sh73 rfl dX9_judge_108 ?_
            refine aw_iload_n (pc := 111) C 3 dX9_judge_111 rfl ?_
            refine aw_ild (pc := 112) (k := ss) C (ss) (σ.1 31 ss) sh84 dX9_judge_112 rfl (by omega) rfl (by first | rfl | (simp (disch := omega) only [setR_at, setR_twice, setL_at, setL_twice, setR_2, setL_1, setR_ne, setL_ne, ne_eq, Nat.reduceEqDiff, not_false_eq_true, pk_us, pk_un]; done) | ((try simp (disch := omega) only [setR_at, setR_twice, setL_at, setL_twice, setR_2, setL_1, setR_ne, setL_ne, ne_eq, Nat.reduceEqDiff, not_false_eq_true, pk_us, pk_un]); refine Prod.ext (funext fun z => ?_) rfl; simp only [setR]; (repeat' split) <;> first | rfl | (exfalso; omega))) ?_
            refine aw_top C (nI (z)) ez ?_
            refine aw_icmp_neN (pc := 113) C j z 120 rfl rfl (by omega) (by omega) dX9_judge_113 (by decide) (fun h113 => ?_) (fun h113 => ?_)
            · refine aw_iconst (pc := 120) (v := 1) C dX9_judge_120 rfl ?_
              refine aw_iload_n (pc := 121) C 1 dX9_judge_121 rfl ?_
              refine aw_iaddN (pc := 122) C 1 j rfl rfl dX9_judge_122 ?_
              exact aw_iretP (pc := 123) C rfl dX9_judge_123 (pm_scr (an' := .inr (jdA j z, σ.1 20)) (by rw [sJudge, if_pos h4, cl_nI (show ss < 2147483648 by omega), if_neg h20, ez, cl_nI (show z < 2147483648 by omega), hE]) (if_neg h113).symm (fun r hr => by simp only [anS, setR]; (repeat' split) <;> first | rfl | (subst_vars; first | rfl | exact absurd (by decide) hr)) rfl)
            · refine aw_iconst (pc := 116) (v := 0) C dX9_judge_116 rfl ?_
              refine aw_goto (pc := 117) C 123 dX9_judge_117 (by decide) ?_
              exact aw_iretP (pc := 123) C rfl dX9_judge_123 (pm_scr (an' := .inr (jdA j z, σ.1 20)) (by rw [sJudge, if_pos h4, cl_nI (show ss < 2147483648 by omega), if_neg h20, ez, cl_nI (show z < 2147483648 by omega), hE]) (if_pos h113).symm (fun r hr => by simp only [anS, setR]; (repeat' split) <;> first | rfl | (subst_vars; first | rfl | exact absurd (by decide) hr)) rfl)
          · have hbl := nxt_lt hb
            obtain ⟨y, hy3, hy⟩ := hokk.yard hbl.1 hbl.2
            refine aw_lvs C [0, 1, 2, 3] [(3, .int (nI b)), (2, .int (nI j)), (0, .ref 73), (1, .int (nI ss))] rfl ?_
            refine aw_iload_n (pc := 59) C 0 dX9_judge_59 rfl ?_
            refine aw_if_lt (pc := 60) C 95 dX9_judge_60 (by decide) (fun h60 => absurd h60 (nI_pos (by omega))) (fun h60 => ?_)
            refine aw_aload_n (pc := 63) C 2 dX9_judge_63 rfl ?_
            refine aw_getR (pc := 64) C fl_X9_43 sh73 rfl dX9_judge_64 ?_
            refine aw_bipush (pc := 67) (v := 40) C dX9_judge_67 rfl ?_
            refine aw_iload_n (pc := 69) C 3 dX9_judge_69 rfl ?_
            refine aw_imulN (pc := 70) C 40 ss rfl rfl dX9_judge_70 ?_
            refine aw_iload_n (pc := 71) C 1 dX9_judge_71 rfl ?_
            refine aw_iaddN (pc := 72) C (40 * ss) j rfl rfl dX9_judge_72 ?_
            refine aw_ild (pc := 73) (k := (40 * ss) + j) C ((40 * ss) + j) (σ.1 32 ((40 * ss) + j)) sh85 dX9_judge_73 rfl (by omega) rfl (by first | rfl | (simp (disch := omega) only [setR_at, setR_twice, setL_at, setL_twice, setR_2, setL_1, setR_ne, setL_ne, ne_eq, Nat.reduceEqDiff, not_false_eq_true, pk_us, pk_un]; done) | ((try simp (disch := omega) only [setR_at, setR_twice, setL_at, setL_twice, setR_2, setL_1, setR_ne, setL_ne, ne_eq, Nat.reduceEqDiff, not_false_eq_true, pk_us, pk_un]); refine Prod.ext (funext fun z => ?_) rfl; simp only [setR]; (repeat' split) <;> first | rfl | (exfalso; omega))) ?_
            refine aw_iload_n (pc := 74) C 0 dX9_judge_74 rfl ?_
            refine aw_icmp_ne (pc := 75) C 95 dX9_judge_75 (by decide) (fun h75 => ?_) (fun h75 => ?_)
            · have hE : jdC n (σ.1 20) (fun k => σ.1 32 (40 * ss + k)) z 40 0 = j := hN.trans (jdC_n (fun q => h75 (by have := q.2.2; rw [hb] at this; exact this)))
              refine aw_aload_n (pc := 95) C 2 dX9_judge_95 rfl ?_
              refine aw_getR (pc := 96) C fl_X9_16 sh73 rfl dX9_judge_96 ?_
              refine aw_aload_n (pc := 99) C 2 dX9_judge_99 rfl ?_
              refine aw_getR (pc := 100) C fl_X9_9 sh73 rfl dX9_judge_100 ?_
              refine aw_cS0 (pc := 103) C (c_X9_row_76_74 _  ) lk_X9_166 dX9_judge_103 (by decide) (Nat.le_of_ble_eq_true rfl) rfl rfl ?_
              refine aw_conv (σ' := setR (setR σ 22 (σ.1 20)) 20 (σ.1 20)) (st' := []) (by first | rfl | (simp (disch := omega) only [setR_at, setR_twice, setL_at, setL_twice, setR_2, setL_1, setR_ne, setL_ne, ne_eq, Nat.reduceEqDiff, not_false_eq_true, pk_us, pk_un]; done) | ((try simp (disch := omega) only [setR_at, setR_twice, setL_at, setL_twice, setR_2, setL_1, setR_ne, setL_ne, ne_eq, Nat.reduceEqDiff, not_false_eq_true, pk_us, pk_un]); refine Prod.ext (funext fun z => ?_) rfl; simp only [setR]; (repeat' split) <;> first | rfl | (exfalso; omega))) rfl (by first | rfl | (simp (disch := omega) only [setR_at, setR_twice, setL_at, setL_twice, setR_2, setL_1, setR_ne, setL_ne, ne_eq, Nat.reduceEqDiff, not_false_eq_true, pk_us, pk_un]; done) | ((try simp (disch := omega) only [setR_at, setR_twice, setL_at, setL_twice, setR_2, setL_1, setR_ne, setL_ne, ne_eq, Nat.reduceEqDiff, not_false_eq_true, pk_us, pk_un]); refine Prod.ext (funext fun z => ?_) rfl; simp only [setR]; (repeat' split) <;> first | rfl | (exfalso; omega))) ?_
              refine aw_iload_n (pc := 106) C 1 dX9_judge_106 rfl ?_
              refine aw_aload_n (pc := 107) C 2 dX9_judge_107 rfl ?_
              refine aw_getR (pc := 108) C fl_X9_40 sh73 rfl dX9_judge_108 ?_
              refine aw_iload_n (pc := 111) C 3 dX9_judge_111 rfl ?_
              refine aw_ild (pc := 112) (k := ss) C (ss) (σ.1 31 ss) sh84 dX9_judge_112 rfl (by omega) rfl (by first | rfl | (simp (disch := omega) only [setR_at, setR_twice, setL_at, setL_twice, setR_2, setL_1, setR_ne, setL_ne, ne_eq, Nat.reduceEqDiff, not_false_eq_true, pk_us, pk_un]; done) | ((try simp (disch := omega) only [setR_at, setR_twice, setL_at, setL_twice, setR_2, setL_1, setR_ne, setL_ne, ne_eq, Nat.reduceEqDiff, not_false_eq_true, pk_us, pk_un]); refine Prod.ext (funext fun z => ?_) rfl; simp only [setR]; (repeat' split) <;> first | rfl | (exfalso; omega))) ?_
              refine aw_top C (nI (z)) ez ?_
              refine aw_icmp_neN (pc := 113) C j z 120 rfl rfl (by omega) (by omega) dX9_judge_113 (by decide) (fun h113 => ?_) (fun h113 => ?_)
              · refine aw_iconst (pc := 120) (v := 1) C dX9_judge_120 rfl ?_
                refine aw_iload_n (pc := 121) C 1 dX9_judge_121 rfl ?_
                refine aw_iaddN (pc := 122) C 1 j rfl rfl dX9_judge_122 ?_
                exact aw_iretP (pc := 123) C rfl dX9_judge_123 (pm_scr (an' := .inr (jdA j z, σ.1 20)) (by rw [sJudge, if_pos h4, cl_nI (show ss < 2147483648 by omega), if_neg h20, ez, cl_nI (show z < 2147483648 by omega), hE]) (if_neg h113).symm (fun r hr => by simp only [anS, setR]; (repeat' split) <;> first | rfl | (subst_vars; first | rfl | exact absurd (by decide) hr)) rfl)
              · refine aw_iconst (pc := 116) (v := 0) C dX9_judge_116 rfl ?_
                refine aw_goto (pc := 117) C 123 dX9_judge_117 (by decide) ?_
                exact aw_iretP (pc := 123) C rfl dX9_judge_123 (pm_scr (an' := .inr (jdA j z, σ.1 20)) (by rw [sJudge, if_pos h4, cl_nI (show ss < 2147483648 by omega), if_neg h20, ez, cl_nI (show z < 2147483648 by omega), hE]) (if_pos h113).symm (fun r hr => by simp only [anS, setR]; (repeat' split) <;> first | rfl | (subst_vars; first | rfl | exact absurd (by decide) hr)) rfl)
            · refine aw_aload_n (pc := 78) C 2 dX9_judge_78 rfl ?_
              refine aw_iload_n (pc := 79) C 0 dX9_judge_79 rfl ?_
              refine aw_cVI (pc := 80) C (c_X9_step _ n (by first | rfl | (simp (disch := omega) only [setR_at, setR_twice, setL_at, setL_twice, setR_2, setL_1, setR_ne, setL_ne, ne_eq, Nat.reduceEqDiff, not_false_eq_true, pk_us, pk_un]; exact hokk.2.1)) hz b (by omega) y (by simp (disch := omega) only [setR_at, setR_twice, setL_at, setL_twice, setR_2, setL_1, setR_ne, setL_ne, ne_eq, Nat.reduceEqDiff, not_false_eq_true, pk_us, pk_un]; exact hy) hy3) lk_X9_149 sh73 rfl dX9_judge_80 (by decide) (Nat.le_of_ble_eq_true rfl) rfl rfl ?_
              refine aw_conv (σ' := setR (setR σ 22 (σ.1 20)) 20 (stepM (goM n (σ.1 20) j) n b)) (st' := [.int (stepD (goM n (σ.1 20) j) n b)]) (by first | rfl | (simp (disch := omega) only [setR_at, setR_twice, setL_at, setL_twice, setR_2, setL_1, setR_ne, setL_ne, ne_eq, Nat.reduceEqDiff, not_false_eq_true, pk_us, pk_un]; done) | ((try simp (disch := omega) only [setR_at, setR_twice, setL_at, setL_twice, setR_2, setL_1, setR_ne, setL_ne, ne_eq, Nat.reduceEqDiff, not_false_eq_true, pk_us, pk_un]); refine Prod.ext (funext fun z => ?_) rfl; simp only [setR]; (repeat' split) <;> first | rfl | (exfalso; omega))) rfl (by first | rfl | (simp (disch := omega) only [setR_at, setR_twice, setL_at, setL_twice, setR_2, setL_1, setR_ne, setL_ne, ne_eq, Nat.reduceEqDiff, not_false_eq_true, pk_us, pk_un]; done) | ((try simp (disch := omega) only [setR_at, setR_twice, setL_at, setL_twice, setR_2, setL_1, setR_ne, setL_ne, ne_eq, Nat.reduceEqDiff, not_false_eq_true, pk_us, pk_un]); refine Prod.ext (funext fun z => ?_) rfl; simp only [setR]; (repeat' split) <;> first | rfl | (exfalso; omega))) ?_
              refine aw_pop (pc := 83) C dX9_judge_83 rfl ?_
              refine aw_conv (σ' := setR (setR σ 22 (σ.1 20)) 20 (goM n (σ.1 20) (j + 1))) (congrArg (setR _ 20) (goM_s hb).symm) rfl rfl ?_
              have hokj := hok.go (j + 1)
              refine aw_aload_n (pc := 84) C 2 dX9_judge_84 rfl ?_
              refine aw_cVI (pc := 85) C (c_X9_runsNext _ n (by first | rfl | (simp (disch := omega) only [setR_at, setR_twice, setL_at, setL_twice, setR_2, setL_1, setR_ne, setL_ne, ne_eq, Nat.reduceEqDiff, not_false_eq_true, pk_us, pk_un]; exact hokj.2.1)) hz ) lk_X9_139 sh73 rfl dX9_judge_85 (by decide) (Nat.le_of_ble_eq_true rfl) rfl rfl ?_
              refine aw_conv (σ' := setR (setR σ 22 (σ.1 20)) 20 (goM n (σ.1 20) (j + 1))) (st' := [.int (oI (nxt (goM n (σ.1 20) (j + 1)) n))]) (by first | rfl | (simp (disch := omega) only [setR_at, setR_twice, setL_at, setL_twice, setR_2, setL_1, setR_ne, setL_ne, ne_eq, Nat.reduceEqDiff, not_false_eq_true, pk_us, pk_un]; done) | ((try simp (disch := omega) only [setR_at, setR_twice, setL_at, setL_twice, setR_2, setL_1, setR_ne, setL_ne, ne_eq, Nat.reduceEqDiff, not_false_eq_true, pk_us, pk_un]); refine Prod.ext (funext fun z => ?_) rfl; simp only [setR]; (repeat' split) <;> first | rfl | (exfalso; omega))) rfl (by first | rfl | (simp (disch := omega) only [setR_at, setR_twice, setL_at, setL_twice, setR_2, setL_1, setR_ne, setL_ne, ne_eq, Nat.reduceEqDiff, not_false_eq_true, pk_us, pk_un]; done) | ((try simp (disch := omega) only [setR_at, setR_twice, setL_at, setL_twice, setR_2, setL_1, setR_ne, setL_ne, ne_eq, Nat.reduceEqDiff, not_false_eq_true, pk_us, pk_un]); refine Prod.ext (funext fun z => ?_) rfl; simp only [setR]; (repeat' split) <;> first | rfl | (exfalso; omega))) ?_
              refine aw_istore_n (pc := 88) C [(3, .int (oI (nxt (goM n (σ.1 20) (j + 1)) n))), (2, .int (nI j)), (0, .ref 73), (1, .int (nI ss))] dX9_judge_88 (Nat.le_of_ble_eq_true rfl) rfl ?_
              refine aw_iincN (pc := 89) C 1 j [(2, .int (nI (j + 1))), (3, .int (oI (nxt (goM n (σ.1 20) (j + 1)) n))), (0, .ref 73), (1, .int (nI ss))] dX9_judge_89 rfl rfl rfl (Nat.le_of_ble_eq_true rfl) rfl ?_
              refine aw_goto (pc := 92) C 49 dX9_judge_92 (by decide) ?_
              refine aw_lvs C [1, 0, 2, 3] [(3, .int (oI (nxt (goM n (σ.1 20) (j + 1)) n))), (2, .int (nI (j + 1))), (0, .ref 73), (1, .int (nI ss))] rfl ?_
              exact aw_conv (σ' := setR (setR σ 22 (σ.1 20)) 20 (goM n (σ.1 20) (j + 1))) (lv' := [(3, .int (oI (nxt (goM n (σ.1 20) (j + 1)) n))), (2, .int (nI (j + 1))), (0, .ref 73), (1, .int (nI ss))]) rfl rfl rfl (ih49 (by omega) (j + 1) (by omega) (hN.trans (jdC_y ⟨h56, (by rw [hb]; exact fun q => by cases q), (by rw [hb]; exact h75)⟩)))
    · refine aw_aload_n (pc := 23) C 0 dX9_judge_23 rfl ?_
      refine aw_ldcw (pc := 24) C dX9_judge_24 kc_X9_319 ?_
      refine aw_cVI (pc := 27) C (c_X9_finds _ (-100000006) 5 (by decide) (by decide)) lk_X9_48 sh73 rfl dX9_judge_27 (by decide) (Nat.le_of_ble_eq_true rfl) rfl rfl ?_
      exact aw_iretP (pc := 30) C rfl dX9_judge_30 (pm_of (an' := .inl 5) (by rw [sJudge, if_pos h4, cl_nI (show ss < 2147483648 by omega), if_pos h20]) rfl rfl)
  · refine aw_aload_n (pc := 7) C 0 dX9_judge_7 rfl ?_
    refine aw_ldc (pc := 8) C dX9_judge_8 kc_X9_46 ?_
    refine aw_cVI (pc := 10) C (c_X9_finds _ (-100000001) 0 (by decide) (by decide)) lk_X9_48 sh73 rfl dX9_judge_10 (by decide) (Nat.le_of_ble_eq_true rfl) rfl rfl ?_
    exact aw_iretP (pc := 13) C rfl dX9_judge_13 (pm_of (an' := .inl 0) (by rw [sJudge, if_neg (fun z => h4 z)]) rfl rfl)
theorem c_X9_image (σ : St) : AMet Y_X9_image [.ref 73] σ (fz (some (.int 1)) (setR (setR σ 21 (σ.1 20)) 23 (upd (σ.1 23) 0 1))) := by
  refine am_intro (by decide +kernel) (Nat.le_of_ble_eq_true rfl) (fun K C => ?_)
  refine aw_aload_n (pc := 0) C 0 dX9_image_0 rfl ?_
  refine aw_getR (pc := 1) C fl_X9_9 sh73 rfl dX9_image_1 ?_
  refine aw_aload_n (pc := 4) C 0 dX9_image_4 rfl ?_
  refine aw_getR (pc := 5) C fl_X9_13 sh73 rfl dX9_image_5 ?_
  refine aw_cS0 (pc := 8) C (c_X9_row_74_75 _  ) lk_X9_166 dX9_image_8 (by decide) (Nat.le_of_ble_eq_true rfl) rfl rfl ?_
  refine aw_aload_n (pc := 11) C 0 dX9_image_11 rfl ?_
  refine aw_iconst (pc := 12) (v := 1) C dX9_image_12 rfl ?_
  refine aw_pstZ (pc := 13) C (setR (setR σ 21 (σ.1 20)) 23 (upd (σ.1 23) 0 (1))) fp_X9_328 sh73 rfl rfl rfl dX9_image_13 (by first | rfl | (simp (disch := omega) only [setR_at, setR_twice, setL_at, setL_twice, setR_2, setL_1, setR_ne, setL_ne, ne_eq, Nat.reduceEqDiff, not_false_eq_true, pk_us, pk_un]; done) | ((try simp (disch := omega) only [setR_at, setR_twice, setL_at, setL_twice, setR_2, setL_1, setR_ne, setL_ne, ne_eq, Nat.reduceEqDiff, not_false_eq_true, pk_us, pk_un]); refine Prod.ext (funext fun z => ?_) rfl; simp only [setR]; (repeat' split) <;> first | rfl | (exfalso; omega))) ?_
  refine aw_iconst (pc := 16) (v := 1) C dX9_image_16 rfl ?_
  exact aw_iret (pc := 17) C rfl dX9_image_17 rfl rfl
theorem c_X9_undo (σ : St) : AMet Y_X9_undo [.ref 73] σ (PM σ (if σ.1 23 0 = 0 then .inl 3 else .inr (σ.1 21 2, σ.1 21))) := by
  refine am_intro (by decide +kernel) (Nat.le_of_ble_eq_true rfl) (fun K C => ?_)
  refine aw_aload_n (pc := 0) C 0 dX9_undo_0 rfl ?_
  refine aw_gld (pc := 1) C (σ.1 23 0) fl_X9_328 sh73 rfl dX9_undo_1 rfl ?_
  refine aw_if_ne (pc := 4) C 14 dX9_undo_4 (by decide) (fun h4 => ?_) (fun h4 => ?_)
  · refine aw_aload_n (pc := 14) C 0 dX9_undo_14 rfl ?_
    refine aw_getR (pc := 15) C fl_X9_13 sh73 rfl dX9_undo_15 ?_
    refine aw_aload_n (pc := 18) C 0 dX9_undo_18 rfl ?_
    refine aw_getR (pc := 19) C fl_X9_9 sh73 rfl dX9_undo_19 ?_
    refine aw_cS0 (pc := 22) C (c_X9_row_75_74 _  ) lk_X9_166 dX9_undo_22 (by decide) (Nat.le_of_ble_eq_true rfl) rfl rfl ?_
    refine aw_aload_n (pc := 25) C 0 dX9_undo_25 rfl ?_
    refine aw_getR (pc := 26) C fl_X9_9 sh73 rfl dX9_undo_26 ?_
    refine aw_iconst (pc := 29) (v := 2) C dX9_undo_29 rfl ?_
    refine aw_ild (pc := 30) (k := 2) C (2) (σ.1 21 2) sh74 dX9_undo_30 rfl (by omega) rfl (by first | rfl | (simp (disch := omega) only [setR_at, setR_twice, setL_at, setL_twice, setR_2, setL_1, setR_ne, setL_ne, ne_eq, Nat.reduceEqDiff, not_false_eq_true, pk_us, pk_un]; done) | ((try simp (disch := omega) only [setR_at, setR_twice, setL_at, setL_twice, setR_2, setL_1, setR_ne, setL_ne, ne_eq, Nat.reduceEqDiff, not_false_eq_true, pk_us, pk_un]); refine Prod.ext (funext fun z => ?_) rfl; simp only [setR]; (repeat' split) <;> first | rfl | (exfalso; omega))) ?_
    exact aw_iretP (pc := 31) C rfl dX9_undo_31 (pm_of (an' := .inr (σ.1 21 2, σ.1 21)) (by rw [if_neg h4]) rfl rfl)
  · refine aw_aload_n (pc := 7) C 0 dX9_undo_7 rfl ?_
    refine aw_ldc (pc := 8) C dX9_undo_8 kc_X9_47 ?_
    refine aw_cVI (pc := 10) C (c_X9_finds _ (-100000004) 3 (by decide) (by decide)) lk_X9_48 sh73 rfl dX9_undo_10 (by decide) (Nat.le_of_ble_eq_true rfl) rfl rfl ?_
    exact aw_iretP (pc := 13) C rfl dX9_undo_13 (pm_of (an' := .inl 3) (by rw [if_pos h4]) rfl rfl)
theorem c_X9_tear (σ : St) : AMet Y_X9_tear [.ref 73] σ (fz (some (.int (sTear (σ.1 23 0)))) (setR σ 23 (upd (σ.1 23) 0 0))) := by
  refine am_intro (by decide +kernel) (Nat.le_of_ble_eq_true rfl) (fun K C => ?_)
  refine aw_aload_n (pc := 0) C 0 dX9_tear_0 rfl ?_
  refine aw_gld (pc := 1) C (σ.1 23 0) fl_X9_328 sh73 rfl dX9_tear_1 rfl ?_
  refine aw_if_eq (pc := 4) C 11 dX9_tear_4 (by decide) (fun h4 => ?_) (fun h4 => ?_)
  · refine aw_iconst (pc := 11) (v := 0) C dX9_tear_11 rfl ?_
    refine aw_istore_n (pc := 12) C [(1, .int 0), (0, .ref 73)] dX9_tear_12 (Nat.le_of_ble_eq_true rfl) rfl ?_
    refine aw_aload_n (pc := 13) C 1 dX9_tear_13 rfl ?_
    refine aw_iconst (pc := 14) (v := 0) C dX9_tear_14 rfl ?_
    refine aw_pstZ (pc := 15) C (setR σ 23 (upd (σ.1 23) 0 (0))) fp_X9_328 sh73 rfl rfl rfl dX9_tear_15 rfl ?_
    refine aw_iload_n (pc := 18) C 0 dX9_tear_18 rfl ?_
    exact aw_iret (pc := 19) C rfl dX9_tear_19 (if_pos h4).symm rfl
  · refine aw_iconst (pc := 7) (v := 1) C dX9_tear_7 rfl ?_
    refine aw_goto (pc := 8) C 12 dX9_tear_8 (by decide) ?_
    refine aw_istore_n (pc := 12) C [(1, .int 1), (0, .ref 73)] dX9_tear_12 (Nat.le_of_ble_eq_true rfl) rfl ?_
    refine aw_aload_n (pc := 13) C 1 dX9_tear_13 rfl ?_
    refine aw_iconst (pc := 14) (v := 0) C dX9_tear_14 rfl ?_
    refine aw_pstZ (pc := 15) C (setR σ 23 (upd (σ.1 23) 0 (0))) fp_X9_328 sh73 rfl rfl rfl dX9_tear_15 rfl ?_
    refine aw_iload_n (pc := 18) C 0 dX9_tear_18 rfl ?_
    exact aw_iret (pc := 19) C rfl dX9_tear_19 (if_neg h4).symm rfl
theorem c_X9_allDrops (σ : St) (n : Nat) (hn : σ.1 20 2 = nI n) (hz : n ≤ 6) : AMet Y_X9_allDrops [.ref 73] σ (fz (some (.int (adS (σ.1 20) n))) (σ)) := by
  refine am_intro (by decide +kernel) (Nat.le_of_ble_eq_true rfl) (fun K C => ?_)
  refine aw_iconst (pc := 0) (v := 0) C dX9_allDrops_0 rfl ?_
  refine aw_istore_n (pc := 1) C [(1, .int 0), (0, .ref 73)] dX9_allDrops_1 (Nat.le_of_ble_eq_true rfl) rfl ?_
  refine aw_iconst (pc := 2) (v := 0) C dX9_allDrops_2 rfl ?_
  refine aw_istore_n (pc := 3) C [(2, .int 0), (1, .int 0), (0, .ref 73)] dX9_allDrops_3 (Nat.le_of_ble_eq_true rfl) rfl ?_
  refine aw_lvs C [0, 1, 2] [(2, .int 0), (1, .int 0), (0, .ref 73)] rfl ?_
  refine aw_conv (σ' := σ) (lv' := [(2, .int (nI 0)), (1, .int (adS (σ.1 20) 0)), (0, .ref 73)]) rfl rfl rfl ?_
  refine loop_up (P := fun k => AW _ K _ (σ) 4 [(2, .int (nI k)), (1, .int (adS (σ.1 20) k)), (0, .ref 73)] []) n ?_ ?_ 0 (by omega) 
  · refine aw_iload_n (pc := 4) C 0 dX9_allDrops_4 rfl ?_
    refine aw_aload_n (pc := 5) C 2 dX9_allDrops_5 rfl ?_
    refine aw_getR (pc := 6) C fl_X9_9 sh73 rfl dX9_allDrops_6 ?_
    refine aw_iconst (pc := 9) (v := 2) C dX9_allDrops_9 rfl ?_
    refine aw_ild (pc := 10) (k := 2) C (2) (σ.1 20 2) sh74 dX9_allDrops_10 rfl (by omega) rfl rfl ?_
    refine aw_top C (nI (n)) hn ?_
    refine aw_icmp_geN (pc := 11) C n n 30 rfl rfl (by omega) (by omega) dX9_allDrops_11 (by decide) (fun h11 => ?_) (fun h11 => absurd h11 (by omega))
    refine aw_iload_n (pc := 30) C 1 dX9_allDrops_30 rfl ?_
    exact aw_iret (pc := 31) C rfl dX9_allDrops_31 rfl rfl
  · intro k hk4 ih4 
    refine aw_iload_n (pc := 4) C 0 dX9_allDrops_4 rfl ?_
    refine aw_aload_n (pc := 5) C 2 dX9_allDrops_5 rfl ?_
    refine aw_getR (pc := 6) C fl_X9_9 sh73 rfl dX9_allDrops_6 ?_
    refine aw_iconst (pc := 9) (v := 2) C dX9_allDrops_9 rfl ?_
    refine aw_ild (pc := 10) (k := 2) C (2) (σ.1 20 2) sh74 dX9_allDrops_10 rfl (by omega) rfl rfl ?_
    refine aw_top C (nI (n)) hn ?_
    refine aw_icmp_geN (pc := 11) C k n 30 rfl rfl (by omega) (by omega) dX9_allDrops_11 (by decide) (fun h11 => absurd h11 (by omega)) (fun h11 => ?_)
    refine aw_iload_n (pc := 14) C 1 dX9_allDrops_14 rfl ?_
    refine aw_aload_n (pc := 15) C 2 dX9_allDrops_15 rfl ?_
    refine aw_iload_n (pc := 16) C 0 dX9_allDrops_16 rfl ?_
    refine aw_bipush (pc := 17) (v := 6) C dX9_allDrops_17 rfl ?_
    refine aw_cVI (pc := 19) C (c_X9_is _ k 6 (by omega)) lk_X9_62 sh73 rfl dX9_allDrops_19 (by decide) (Nat.le_of_ble_eq_true rfl) rfl rfl ?_
    refine aw_iadd (pc := 22) C dX9_allDrops_22 ?_
    refine aw_istore_n (pc := 23) C [(1, .int ((adS (σ.1 20) k) + (σ.1 20 (33 + 37 * k + 6)))), (2, .int (nI k)), (0, .ref 73)] dX9_allDrops_23 (Nat.le_of_ble_eq_true rfl) rfl ?_
    refine aw_iincN (pc := 24) C 1 k [(2, .int (nI (k + 1))), (1, .int ((adS (σ.1 20) k) + (σ.1 20 (33 + 37 * k + 6)))), (0, .ref 73)] dX9_allDrops_24 rfl rfl rfl (Nat.le_of_ble_eq_true rfl) rfl ?_
    refine aw_goto (pc := 27) C 4 dX9_allDrops_27 (by decide) ?_
    refine aw_lvs C [0, 1, 2] [(2, .int (nI (k + 1))), (1, .int ((adS (σ.1 20) k) + (σ.1 20 (33 + 37 * k + 6)))), (0, .ref 73)] rfl ?_
    exact aw_conv (σ' := σ) (lv' := [(2, .int (nI (k + 1))), (1, .int (adS (σ.1 20) (k + 1))), (0, .ref 73)]) rfl rfl rfl ih4
theorem c_X9_holding (σ : St) : AMet Y_X9_holding [.ref 73] σ (fz (some (.int (hgS (σ.1 20) 10))) (σ)) := by
  refine am_intro (by decide +kernel) (Nat.le_of_ble_eq_true rfl) (fun K C => ?_)
  refine aw_iconst (pc := 0) (v := 0) C dX9_holding_0 rfl ?_
  refine aw_istore_n (pc := 1) C [(1, .int 0), (0, .ref 73)] dX9_holding_1 (Nat.le_of_ble_eq_true rfl) rfl ?_
  refine aw_iconst (pc := 2) (v := 0) C dX9_holding_2 rfl ?_
  refine aw_istore_n (pc := 3) C [(2, .int 0), (1, .int 0), (0, .ref 73)] dX9_holding_3 (Nat.le_of_ble_eq_true rfl) rfl ?_
  refine aw_lvs C [0, 1, 2] [(2, .int 0), (1, .int 0), (0, .ref 73)] rfl ?_
  refine aw_conv (σ' := σ) (lv' := [(2, .int (nI 0)), (1, .int (hgS (σ.1 20) 0)), (0, .ref 73)]) rfl rfl rfl ?_
  refine loop_up (P := fun k => AW _ K _ (σ) 4 [(2, .int (nI k)), (1, .int (hgS (σ.1 20) k)), (0, .ref 73)] []) 10 ?_ ?_ 0 (by omega) 
  · refine aw_iload_n (pc := 4) C 0 dX9_holding_4 rfl ?_
    refine aw_bipush (pc := 5) (v := 10) C dX9_holding_5 rfl ?_
    refine aw_icmp_geN (pc := 7) C 10 10 37 rfl rfl (by omega) (by omega) dX9_holding_7 (by decide) (fun h7 => ?_) (fun h7 => absurd h7 (by omega))
    refine aw_iload_n (pc := 37) C 1 dX9_holding_37 rfl ?_
    exact aw_iret (pc := 38) C rfl dX9_holding_38 rfl rfl
  · intro k hk4 ih4 
    refine aw_iload_n (pc := 4) C 0 dX9_holding_4 rfl ?_
    refine aw_bipush (pc := 5) (v := 10) C dX9_holding_5 rfl ?_
    refine aw_icmp_geN (pc := 7) C k 10 37 rfl rfl (by omega) (by omega) dX9_holding_7 (by decide) (fun h7 => absurd h7 (by omega)) (fun h7 => ?_)
    refine aw_iload_n (pc := 10) C 1 dX9_holding_10 rfl ?_
    refine aw_aload_n (pc := 11) C 2 dX9_holding_11 rfl ?_
    refine aw_getR (pc := 12) C fl_X9_9 sh73 rfl dX9_holding_12 ?_
    refine aw_sipush (pc := 15) (v := 255) C dX9_holding_15 rfl ?_
    refine aw_iload_n (pc := 18) C 0 dX9_holding_18 rfl ?_
    refine aw_iaddN (pc := 19) C 255 k rfl rfl dX9_holding_19 ?_
    refine aw_ild (pc := 20) (k := 255 + k) C (255 + k) (σ.1 20 (255 + k)) sh74 dX9_holding_20 rfl (by omega) rfl rfl ?_
    refine aw_if_ge (pc := 21) C 28 dX9_holding_21 (by decide) (fun h21 => ?_) (fun h21 => ?_)
    · refine aw_iconst (pc := 28) (v := 1) C dX9_holding_28 rfl ?_
      refine aw_iadd (pc := 29) C dX9_holding_29 ?_
      refine aw_istore_n (pc := 30) C [(1, .int ((hgS (σ.1 20) k) + 1)), (2, .int (nI k)), (0, .ref 73)] dX9_holding_30 (Nat.le_of_ble_eq_true rfl) rfl ?_
      refine aw_iincN (pc := 31) C 1 k [(2, .int (nI (k + 1))), (1, .int ((hgS (σ.1 20) k) + 1)), (0, .ref 73)] dX9_holding_31 rfl rfl rfl (Nat.le_of_ble_eq_true rfl) rfl ?_
      refine aw_goto (pc := 34) C 4 dX9_holding_34 (by decide) ?_
      refine aw_lvs C [0, 1, 2] [(2, .int (nI (k + 1))), (1, .int ((hgS (σ.1 20) k) + 1)), (0, .ref 73)] rfl ?_
      exact aw_conv (σ' := σ) (lv' := [(2, .int (nI (k + 1))), (1, .int (hgS (σ.1 20) (k + 1))), (0, .ref 73)]) rfl (by rw [hgS, if_neg (Int32.not_lt.mpr h21)]) rfl ih4
    · refine aw_iconst (pc := 24) (v := 0) C dX9_holding_24 rfl ?_
      refine aw_goto (pc := 25) C 29 dX9_holding_25 (by decide) ?_
      refine aw_iadd (pc := 29) C dX9_holding_29 ?_
      refine aw_istore_n (pc := 30) C [(1, .int ((hgS (σ.1 20) k) + 0)), (2, .int (nI k)), (0, .ref 73)] dX9_holding_30 (Nat.le_of_ble_eq_true rfl) rfl ?_
      refine aw_iincN (pc := 31) C 1 k [(2, .int (nI (k + 1))), (1, .int ((hgS (σ.1 20) k) + 0)), (0, .ref 73)] dX9_holding_31 rfl rfl rfl (Nat.le_of_ble_eq_true rfl) rfl ?_
      refine aw_goto (pc := 34) C 4 dX9_holding_34 (by decide) ?_
      refine aw_lvs C [0, 1, 2] [(2, .int (nI (k + 1))), (1, .int ((hgS (σ.1 20) k) + 0)), (0, .ref 73)] rfl ?_
      exact aw_conv (σ' := σ) (lv' := [(2, .int (nI (k + 1))), (1, .int (hgS (σ.1 20) (k + 1))), (0, .ref 73)]) rfl (by rw [hgS, if_pos (Int32.not_le.mp h21)]) rfl ih4
theorem c_X9_count (σ : St) (n : Nat) (hn : σ.1 20 2 = nI n) (hz : n ≤ 6) (t : Nat) (ht : σ.1 23 1 = nI t) (w : Int32) : AMet Y_X9_count [.ref 73, .int w] σ (PM σ (sCount (σ.1 20) n t w)) := by
  refine am_intro (by decide +kernel) (Nat.le_of_ble_eq_true rfl) (fun K C => ?_)
  refine aw_iload_n (pc := 0) C 1 dX9_count_0 rfl ?_
  by_cases h1_0 : w = 0
  · refine aw_tableIn (pc := 1) C 48 dX9_count_1 (by rw [h1_0]; decide) (by rw [h1_0]; decide) (by rw [h1_0]; rfl) (by decide) ?_
    refine aw_aload_n (pc := 48) C 0 dX9_count_48 rfl ?_
    refine aw_getR (pc := 49) C fl_X9_9 sh73 rfl dX9_count_49 ?_
    refine aw_iconst (pc := 52) (v := 2) C dX9_count_52 rfl ?_
    refine aw_ild (pc := 53) (k := 2) C (2) (σ.1 20 2) sh74 dX9_count_53 rfl (by omega) rfl rfl ?_
    refine aw_top C (nI (n)) hn ?_
    exact aw_iretP (pc := 54) C rfl dX9_count_54 (pm_of (an' := .inr (nI (n), σ.1 20)) (by rw [sCount, if_pos h1_0]) rfl (setR_same _ 20).symm)
  by_cases h1_1 : w = 1
  · refine aw_tableIn (pc := 1) C 55 dX9_count_1 (by rw [h1_1]; decide) (by rw [h1_1]; decide) (by rw [h1_1]; rfl) (by decide) ?_
    refine aw_aload_n (pc := 55) C 0 dX9_count_55 rfl ?_
    refine aw_cVI (pc := 56) C (c_X9_home _ n hn hz ) lk_X9_157 sh73 rfl dX9_count_56 (by decide) (Nat.le_of_ble_eq_true rfl) rfl rfl ?_
    refine aw_cSI (pc := 59) C (c_X9_many _ (homeS (σ.1 20) n) ) lk_X9_160 dX9_count_59 (by decide) (Nat.le_of_ble_eq_true rfl) rfl rfl ?_
    exact aw_iretP (pc := 62) C rfl dX9_count_62 (pm_of (an' := .inr (manyS (homeS (σ.1 20) n) 6, σ.1 20)) (by rw [sCount, if_neg h1_0, if_pos h1_1]) rfl (setR_same _ 20).symm)
  by_cases h1_2 : w = 2
  · refine aw_tableIn (pc := 1) C 63 dX9_count_1 (by rw [h1_2]; decide) (by rw [h1_2]; decide) (by rw [h1_2]; rfl) (by decide) ?_
    refine aw_aload_n (pc := 63) C 0 dX9_count_63 rfl ?_
    refine aw_cVI (pc := 64) C (c_X9_allDrops _ n hn hz ) lk_X9_331 sh73 rfl dX9_count_64 (by decide) (Nat.le_of_ble_eq_true rfl) rfl rfl ?_
    exact aw_iretP (pc := 67) C rfl dX9_count_67 (pm_of (an' := .inr (adS (σ.1 20) n, σ.1 20)) (by rw [sCount, if_neg h1_0, if_neg h1_1, if_pos h1_2]) rfl (setR_same _ 20).symm)
  by_cases h1_3 : w = 3
  · refine aw_tableIn (pc := 1) C 68 dX9_count_1 (by rw [h1_3]; decide) (by rw [h1_3]; decide) (by rw [h1_3]; rfl) (by decide) ?_
    refine aw_aload_n (pc := 68) C 0 dX9_count_68 rfl ?_
    refine aw_cVI (pc := 69) C (c_X9_grass _  ) lk_X9_221 sh73 rfl dX9_count_69 (by decide) (Nat.le_of_ble_eq_true rfl) rfl rfl ?_
    exact aw_iretP (pc := 72) C rfl dX9_count_72 (pm_of (an' := .inr (grS (σ.1 20) 30, σ.1 20)) (by rw [sCount, if_neg h1_0, if_neg h1_1, if_neg h1_2, if_pos h1_3]) rfl (setR_same _ 20).symm)
  by_cases h1_4 : w = 4
  · refine aw_tableIn (pc := 1) C 73 dX9_count_1 (by rw [h1_4]; decide) (by rw [h1_4]; decide) (by rw [h1_4]; rfl) (by decide) ?_
    refine aw_aload_n (pc := 73) C 0 dX9_count_73 rfl ?_
    refine aw_getR (pc := 74) C fl_X9_9 sh73 rfl dX9_count_74 ?_
    refine aw_iconst (pc := 77) (v := 0) C dX9_count_77 rfl ?_
    refine aw_ild (pc := 78) (k := 0) C (0) (σ.1 20 0) sh74 dX9_count_78 rfl (by omega) rfl rfl ?_
    exact aw_iretP (pc := 79) C rfl dX9_count_79 (pm_of (an' := .inr (σ.1 20 0, σ.1 20)) (by rw [sCount, if_neg h1_0, if_neg h1_1, if_neg h1_2, if_neg h1_3, if_pos h1_4]) rfl (setR_same _ 20).symm)
  by_cases h1_5 : w = 5
  · refine aw_tableIn (pc := 1) C 80 dX9_count_1 (by rw [h1_5]; decide) (by rw [h1_5]; decide) (by rw [h1_5]; rfl) (by decide) ?_
    refine aw_aload_n (pc := 80) C 0 dX9_count_80 rfl ?_
    refine aw_gld (pc := 81) C (σ.1 23 1) fl_X9_224 sh73 rfl dX9_count_81 rfl ?_
    refine aw_top C (nI (t)) ht ?_
    exact aw_iretP (pc := 84) C rfl dX9_count_84 (pm_of (an' := .inr (nI (t), σ.1 20)) (by rw [sCount, if_neg h1_0, if_neg h1_1, if_neg h1_2, if_neg h1_3, if_neg h1_4, if_pos h1_5]) rfl (setR_same _ 20).symm)
  by_cases h1_6 : w = 6
  · refine aw_tableIn (pc := 1) C 85 dX9_count_1 (by rw [h1_6]; decide) (by rw [h1_6]; decide) (by rw [h1_6]; rfl) (by decide) ?_
    refine aw_aload_n (pc := 85) C 0 dX9_count_85 rfl ?_
    refine aw_getR (pc := 86) C fl_X9_9 sh73 rfl dX9_count_86 ?_
    refine aw_iconst (pc := 89) (v := 1) C dX9_count_89 rfl ?_
    refine aw_ild (pc := 90) (k := 1) C (1) (σ.1 20 1) sh74 dX9_count_90 rfl (by omega) rfl rfl ?_
    exact aw_iretP (pc := 91) C rfl dX9_count_91 (pm_of (an' := .inr (σ.1 20 1, σ.1 20)) (by rw [sCount, if_neg h1_0, if_neg h1_1, if_neg h1_2, if_neg h1_3, if_neg h1_4, if_neg h1_5, if_pos h1_6]) rfl (setR_same _ 20).symm)
  by_cases h1_7 : w = 7
  · refine aw_tableIn (pc := 1) C 92 dX9_count_1 (by rw [h1_7]; decide) (by rw [h1_7]; decide) (by rw [h1_7]; rfl) (by decide) ?_
    refine aw_aload_n (pc := 92) C 0 dX9_count_92 rfl ?_
    refine aw_cVI (pc := 93) C (c_X9_holding _  ) lk_X9_334 sh73 rfl dX9_count_93 (by decide) (Nat.le_of_ble_eq_true rfl) rfl rfl ?_
    exact aw_iretP (pc := 96) C rfl dX9_count_96 (pm_of (an' := .inr (hgS (σ.1 20) 10, σ.1 20)) (by rw [sCount, if_neg h1_0, if_neg h1_1, if_neg h1_2, if_neg h1_3, if_neg h1_4, if_neg h1_5, if_neg h1_6, if_pos h1_7]) rfl (setR_same _ 20).symm)
  refine aw_tableOut (pc := 1) C 97 dX9_count_1 (by have q0 := lv_neT (k := 0) h1_0 (a := 0) (by decide); have q1 := lv_neT (k := 1) h1_1 (a := 1) (by decide); have q2 := lv_neT (k := 2) h1_2 (a := 2) (by decide); have q3 := lv_neT (k := 3) h1_3 (a := 3) (by decide); have q4 := lv_neT (k := 4) h1_4 (a := 4) (by decide); have q5 := lv_neT (k := 5) h1_5 (a := 5) (by decide); have q6 := lv_neT (k := 6) h1_6 (a := 6) (by decide); have q7 := lv_neT (k := 7) h1_7 (a := 7) (by decide); omega) (by decide) ?_
  refine aw_aload_n (pc := 97) C 0 dX9_count_97 rfl ?_
  refine aw_ldc (pc := 98) C dX9_count_98 kc_X9_46 ?_
  refine aw_cVI (pc := 100) C (c_X9_finds _ (-100000001) 0 (by decide) (by decide)) lk_X9_48 sh73 rfl dX9_count_100 (by decide) (Nat.le_of_ble_eq_true rfl) rfl rfl ?_
  exact aw_iretP (pc := 103) C rfl dX9_count_103 (pm_of (an' := .inl 0) (by rw [sCount, if_neg h1_0, if_neg h1_1, if_neg h1_2, if_neg h1_3, if_neg h1_4, if_neg h1_5, if_neg h1_6, if_neg h1_7]) rfl rfl)
theorem c_X9_status (σ : St) (w : Int32) : AMet Y_X9_status [.ref 73, .int w] σ (PM σ (sStatus (σ.1 20) (σ.1 24) w)) := by
  refine am_intro (by decide +kernel) (Nat.le_of_ble_eq_true rfl) (fun K C => ?_)
  refine aw_iload_n (pc := 0) C 1 dX9_status_0 rfl ?_
  refine aw_i2l (pc := 1) C dX9_status_1 ?_
  refine aw_ldc2 (pc := 2) C dX9_status_2 kc_X9_129 ?_
  refine aw_ldc2 (pc := 5) C dX9_status_5 kc_X9_60 ?_
  refine aw_cSI (pc := 8) C (c_X9_in _ w (-1) 6 _ _ _ rfl (by decide) (by decide)) lk_X9_54 dX9_status_8 (by decide) (Nat.le_of_ble_eq_true rfl) rfl rfl ?_
  refine aw_if_neB (pc := 11) C 21 dX9_status_11 (by decide) (fun h11 => ?_) (fun h11 => ?_)
  · refine aw_iconst (pc := 21) (v := 0) C dX9_status_21 rfl ?_
    refine aw_istore_n (pc := 22) C [(2, .int 0), (0, .ref 73), (1, .int w)] dX9_status_22 (Nat.le_of_ble_eq_true rfl) rfl ?_
    refine aw_iconst (pc := 23) (v := 0) C dX9_status_23 rfl ?_
    refine aw_istore_n (pc := 24) C [(3, .int 0), (2, .int 0), (0, .ref 73), (1, .int w)] dX9_status_24 (Nat.le_of_ble_eq_true rfl) rfl ?_
    refine aw_lvs C [0, 1, 2, 3] [(3, .int 0), (2, .int 0), (0, .ref 73), (1, .int w)] rfl ?_
    refine aw_conv (σ' := σ) (lv' := [(3, .int (nI 0)), (2, .int (stS (σ.1 24) w 0)), (0, .ref 73), (1, .int w)]) rfl rfl rfl ?_
    refine loop_up (P := fun k => AW _ K _ (σ) 25 [(3, .int (nI k)), (2, .int (stS (σ.1 24) w k)), (0, .ref 73), (1, .int w)] []) 7 ?_ ?_ 0 (by omega) 
    · refine aw_iload_n (pc := 25) C 0 dX9_status_25 rfl ?_
      refine aw_bipush (pc := 26) (v := 7) C dX9_status_26 rfl ?_
      refine aw_icmp_geN (pc := 28) C 7 7 59 rfl rfl (by omega) (by omega) dX9_status_28 (by decide) (fun h28 => ?_) (fun h28 => absurd h28 (by omega))
      refine aw_iload_n (pc := 59) C 1 dX9_status_59 rfl ?_
      exact aw_iretP (pc := 60) C rfl dX9_status_60 (pm_of (an' := .inr (stS (σ.1 24) w 7, σ.1 20)) (by rw [sStatus, if_pos h11]) rfl (setR_same _ 20).symm)
    · intro k hk25 ih25 
      refine aw_iload_n (pc := 25) C 0 dX9_status_25 rfl ?_
      refine aw_bipush (pc := 26) (v := 7) C dX9_status_26 rfl ?_
      refine aw_icmp_geN (pc := 28) C k 7 59 rfl rfl (by omega) (by omega) dX9_status_28 (by decide) (fun h28 => absurd h28 (by omega)) (fun h28 => ?_)
      refine aw_iload_n (pc := 31) C 1 dX9_status_31 rfl ?_
      refine aw_iload_n (pc := 32) C 3 dX9_status_32 rfl ?_
      refine aw_if_lt (pc := 33) C 41 dX9_status_33 (by decide) (fun h33 => ?_) (fun h33 => ?_)
      · refine aw_aload_n (pc := 41) C 2 dX9_status_41 rfl ?_
        refine aw_getR (pc := 42) C fl_X9_19 sh73 rfl dX9_status_42 ?_
        refine aw_iload_n (pc := 45) C 0 dX9_status_45 rfl ?_
        refine aw_ild (pc := 46) (k := k) C (k) (σ.1 24 k) sh77 dX9_status_46 rfl (by omega) rfl rfl ?_
        refine aw_goto (pc := 47) C 51 dX9_status_47 (by decide) ?_
        refine aw_iadd (pc := 51) C dX9_status_51 ?_
        refine aw_istore_n (pc := 52) C [(2, .int ((stS (σ.1 24) w k) + (σ.1 24 k))), (3, .int (nI k)), (0, .ref 73), (1, .int w)] dX9_status_52 (Nat.le_of_ble_eq_true rfl) rfl ?_
        refine aw_iincN (pc := 53) C 1 k [(3, .int (nI (k + 1))), (2, .int ((stS (σ.1 24) w k) + (σ.1 24 k))), (0, .ref 73), (1, .int w)] dX9_status_53 rfl rfl rfl (Nat.le_of_ble_eq_true rfl) rfl ?_
        refine aw_goto (pc := 56) C 25 dX9_status_56 (by decide) ?_
        refine aw_lvs C [0, 1, 2, 3] [(3, .int (nI (k + 1))), (2, .int ((stS (σ.1 24) w k) + (σ.1 24 k))), (0, .ref 73), (1, .int w)] rfl ?_
        exact aw_conv (σ' := σ) (lv' := [(3, .int (nI (k + 1))), (2, .int (stS (σ.1 24) w (k + 1))), (0, .ref 73), (1, .int w)]) rfl (by rw [stS, if_pos (Or.inl h33)]) rfl ih25
      · refine aw_iload_n (pc := 36) C 3 dX9_status_36 rfl ?_
        refine aw_iload_n (pc := 37) C 0 dX9_status_37 rfl ?_
        refine aw_icmp_ne (pc := 38) C 50 dX9_status_38 (by decide) (fun h38 => ?_) (fun h38 => ?_)
        · refine aw_iconst (pc := 50) (v := 0) C dX9_status_50 rfl ?_
          refine aw_iadd (pc := 51) C dX9_status_51 ?_
          refine aw_istore_n (pc := 52) C [(2, .int ((stS (σ.1 24) w k) + 0)), (3, .int (nI k)), (0, .ref 73), (1, .int w)] dX9_status_52 (Nat.le_of_ble_eq_true rfl) rfl ?_
          refine aw_iincN (pc := 53) C 1 k [(3, .int (nI (k + 1))), (2, .int ((stS (σ.1 24) w k) + 0)), (0, .ref 73), (1, .int w)] dX9_status_53 rfl rfl rfl (Nat.le_of_ble_eq_true rfl) rfl ?_
          refine aw_goto (pc := 56) C 25 dX9_status_56 (by decide) ?_
          refine aw_lvs C [0, 1, 2, 3] [(3, .int (nI (k + 1))), (2, .int ((stS (σ.1 24) w k) + 0)), (0, .ref 73), (1, .int w)] rfl ?_
          exact aw_conv (σ' := σ) (lv' := [(3, .int (nI (k + 1))), (2, .int (stS (σ.1 24) w (k + 1))), (0, .ref 73), (1, .int w)]) rfl (by rw [stS, if_neg (fun z => z.elim h33 h38)]) rfl ih25
        · refine aw_aload_n (pc := 41) C 2 dX9_status_41 rfl ?_
          refine aw_getR (pc := 42) C fl_X9_19 sh73 rfl dX9_status_42 ?_
          refine aw_iload_n (pc := 45) C 0 dX9_status_45 rfl ?_
          refine aw_ild (pc := 46) (k := k) C (k) (σ.1 24 k) sh77 dX9_status_46 rfl (by omega) rfl rfl ?_
          refine aw_goto (pc := 47) C 51 dX9_status_47 (by decide) ?_
          refine aw_iadd (pc := 51) C dX9_status_51 ?_
          refine aw_istore_n (pc := 52) C [(2, .int ((stS (σ.1 24) w k) + (σ.1 24 k))), (3, .int (nI k)), (0, .ref 73), (1, .int w)] dX9_status_52 (Nat.le_of_ble_eq_true rfl) rfl ?_
          refine aw_iincN (pc := 53) C 1 k [(3, .int (nI (k + 1))), (2, .int ((stS (σ.1 24) w k) + (σ.1 24 k))), (0, .ref 73), (1, .int w)] dX9_status_53 rfl rfl rfl (Nat.le_of_ble_eq_true rfl) rfl ?_
          refine aw_goto (pc := 56) C 25 dX9_status_56 (by decide) ?_
          refine aw_lvs C [0, 1, 2, 3] [(3, .int (nI (k + 1))), (2, .int ((stS (σ.1 24) w k) + (σ.1 24 k))), (0, .ref 73), (1, .int w)] rfl ?_
          exact aw_conv (σ' := σ) (lv' := [(3, .int (nI (k + 1))), (2, .int (stS (σ.1 24) w (k + 1))), (0, .ref 73), (1, .int w)]) rfl (by rw [stS, if_pos (Or.inr h38)]) rfl ih25
  · refine aw_aload_n (pc := 14) C 0 dX9_status_14 rfl ?_
    refine aw_ldc (pc := 15) C dX9_status_15 kc_X9_46 ?_
    refine aw_cVI (pc := 17) C (c_X9_finds _ (-100000001) 0 (by decide) (by decide)) lk_X9_48 sh73 rfl dX9_status_17 (by decide) (Nat.le_of_ble_eq_true rfl) rfl rfl ?_
    exact aw_iretP (pc := 20) C rfl dX9_status_20 (pm_of (an' := .inl 0) (by rw [sStatus, if_neg (fun z => h11 (z))]) rfl rfl)
