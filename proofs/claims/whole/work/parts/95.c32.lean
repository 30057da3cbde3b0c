/-! the class: load, judge -/
theorem mn30x {z : Nat} (hz : z ≤ 40) : ∃ mo, mnI (nI z) 30 = nI mo ∧ mo ≤ z ∧ mo ≤ 30 ∧ (z ≤ mo ∨ 30 ≤ mo) := by
  refine ⟨_, mn30 hz, ?_⟩
  split <;> omega
theorem c_X8_load (σ : St) (n : Nat) (hok : Ok n (σ.1 0)) (hsh : CShOk (Ph σ)) (s r : Int32) : AMet Y_X8_load [.ref 0, .int s, .int r] σ (PC σ (ksLoad (σ.1 0) n (Ph σ) s r)) := by
  refine am_intro (by decide +kernel) (Nat.le_of_ble_eq_true rfl) (fun K C => ?_)
  have hz := hok.1
  have hn := hok.2.1
  refine aw_iload_n (pc := 0) C 1 dX8_load_0 rfl ?_
  refine aw_cSI (pc := 1) C (c_X8_isSheet _ s ) lk_X8_255 dX8_load_1 (by decide) (Nat.le_of_ble_eq_true rfl) rfl rfl ?_
  refine aw_if_neB (pc := 4) C 13 dX8_load_4 (by decide) (fun h4 => ?_) (fun h4 => ?_)
  · obtain ⟨ss, rfl, hss0, hss⟩ := rg 0 3 h4 (by omega) (by omega)
    refine aw_aload_n (pc := 13) C 0 dX8_load_13 rfl ?_
    refine aw_getR (pc := 14) C fl_X8_61 sh0 rfl dX8_load_14 ?_
    refine aw_iload_n (pc := 17) C 1 dX8_load_17 rfl ?_
    refine aw_aald (pc := 18) (k := ss) C sh16 dX8_load_18 rfl (by omega) ?_
    refine aw_astore_n (pc := 19) C [(3, .ref (17 + 2 * ss)), (0, .ref 0), (1, .int (nI ss)), (2, .int r)] dX8_load_19 (Nat.le_of_ble_eq_true rfl) rfl ?_
    refine aw_aload_n (pc := 20) C 0 dX8_load_20 rfl ?_
    refine aw_cVI (pc := 21) C (c_X5_isMissing _ ss (by omega) ) lk_X8_262 (shS (by omega)) rfl dX8_load_21 (by decide) (Nat.le_of_ble_eq_true rfl) rfl rfl ?_
    refine aw_if_eqB (pc := 24) C 33 dX8_load_24 (by decide) (fun h24 => ?_) (fun h24 => ?_)
    · refine aw_aload_n (pc := 33) C 1 dX8_load_33 rfl ?_
      refine aw_iload_n (pc := 34) C 3 dX8_load_34 rfl ?_
      refine aw_cVI (pc := 35) C (c_X8_isRunner _ n hn hz r ) lk_X8_96 sh0 rfl dX8_load_35 (by decide) (Nat.le_of_ble_eq_true rfl) rfl rfl ?_
      refine aw_if_neB (pc := 38) C 47 dX8_load_38 (by decide) (fun h38 => ?_) (fun h38 => ?_)
      · obtain ⟨z, hz4, ez⟩ := hsh ss (by omega)
        obtain ⟨rr, rfl, hrr⟩ := rgR h38 hz
        refine aw_aload_n (pc := 47) C 0 dX8_load_47 rfl ?_
        refine aw_gld (pc := 48) C ((σ.1 (14 + ss)) 41) fl_X8_261 (shS (by omega)) rfl dX8_load_48 rfl ?_
        refine aw_top C (nI (z)) ez ?_
        refine aw_bipush (pc := 51) (v := 30) C dX8_load_51 rfl ?_
        refine aw_mmin (pc := 53) C lk_X8_282 (by decide) (Nat.le_of_ble_eq_true rfl) dX8_load_53 ?_
        obtain ⟨mo, emo, hmo1, hmo2, hmo3⟩ := mn30x hz4
        refine aw_top C (nI (mo)) emo ?_
        refine aw_istore (pc := 56) C [(4, .int (nI mo)), (3, .ref (17 + 2 * ss)), (0, .ref 0), (1, .int (nI ss)), (2, .int (nI rr))] dX8_load_56 (Nat.le_of_ble_eq_true rfl) rfl ?_
        refine aw_iconst (pc := 58) (v := 0) C dX8_load_58 rfl ?_
        refine aw_istore (pc := 59) C [(5, .int 0), (4, .int (nI mo)), (3, .ref (17 + 2 * ss)), (0, .ref 0), (1, .int (nI ss)), (2, .int (nI rr))] dX8_load_59 (Nat.le_of_ble_eq_true rfl) rfl ?_
        refine aw_lvs C [0, 1, 2, 3, 4, 5] [(5, .int 0), (4, .int (nI mo)), (3, .ref (17 + 2 * ss)), (0, .ref 0), (1, .int (nI ss)), (2, .int (nI rr))] rfl ?_
        refine aw_conv (σ' := setR σ 0 (ldM (σ.1 0) rr (σ.1 (14 + ss)) 0)) (lv' := [(5, .int (nI 0)), (4, .int (nI mo)), (3, .ref (17 + 2 * ss)), (0, .ref 0), (1, .int (nI ss)), (2, .int (nI rr))]) (by rw [ldM_0, setR_same]) rfl rfl ?_
        refine loop_dn (P := fun d => d ≤ 40 → ∀ (j : Nat) (hj : j + d = 40) (hN : ldC (σ.1 (14 + ss)) z 40 0 = ldC (σ.1 (14 + ss)) z d j), AW _ K _ (setR σ 0 (ldM (σ.1 0) rr (σ.1 (14 + ss)) j)) 61 [(5, .int (nI j)), (4, .int (nI mo)), (3, .ref (17 + 2 * ss)), (0, .ref 0), (1, .int (nI ss)), (2, .int (nI rr))] []) ?_ ?_ 40 (by omega) 0 rfl rfl
        · intro hk61 j hj hN
          refine aw_iload (pc := 61) C 0 dX8_load_61 rfl ?_
          refine aw_iload (pc := 63) C 1 dX8_load_63 rfl ?_
          refine aw_icmp_geN (pc := 65) C j mo 109 rfl rfl (by omega) (by omega) dX8_load_65 (by decide) (fun h65 => ?_) (fun h65 => absurd h65 (by omega))
          have hE : ldC (σ.1 (14 + ss)) z 40 0 = j := hN
          refine aw_iload (pc := 109) C 0 dX8_load_109 rfl ?_
          exact aw_iretP (pc := 111) C rfl dX8_load_111 (pc_of (an' := .inr (nI j, ldM (σ.1 0) rr (σ.1 (14 + ss)) j)) (by rw [ksLoad, if_pos h4, cl_nI (show ss < 2147483648 by omega), if_neg (show ¬ Ph σ ss 40 = 0 from h24), if_pos h38, show Ph σ ss 41 = nI z from ez, cl_nI (show z < 2147483648 by omega), cl_nI (show rr < 2147483648 by omega), show ldC (Ph σ ss) z 40 0 = j from hE]) rfl rfl)
        · intro d ih61 hk61 j hj hN
          refine aw_iload (pc := 61) C 0 dX8_load_61 rfl ?_
          refine aw_iload (pc := 63) C 1 dX8_load_63 rfl ?_
          refine aw_icmp_geN (pc := 65) C j mo 109 rfl rfl (by omega) (by omega) dX8_load_65 (by decide) (fun h65 => ?_) (fun h65 => ?_)
          · have hE : ldC (σ.1 (14 + ss)) z 40 0 = j := hN.trans (ldC_n (fun q => by have q1 := q.1; have q2 := q.2.1; omega))
            refine aw_iload (pc := 109) C 0 dX8_load_109 rfl ?_
            exact aw_iretP (pc := 111) C rfl dX8_load_111 (pc_of (an' := .inr (nI j, ldM (σ.1 0) rr (σ.1 (14 + ss)) j)) (by rw [ksLoad, if_pos h4, cl_nI (show ss < 2147483648 by omega), if_neg (show ¬ Ph σ ss 40 = 0 from h24), if_pos h38, show Ph σ ss 41 = nI z from ez, cl_nI (show z < 2147483648 by omega), cl_nI (show rr < 2147483648 by omega), show ldC (Ph σ ss) z 40 0 = j from hE]) rfl rfl)
          · have hjz : j < z ∧ j < 30 := by omega
            refine aw_aload_n (pc := 68) C 2 dX8_load_68 rfl ?_
            refine aw_getR (pc := 69) C fl_X8_273 (shS (by omega)) rfl dX8_load_69 ?_
            refine aw_iload (pc := 72) C 0 dX8_load_72 rfl ?_
            refine aw_ild (pc := 74) (k := j) C (j) ((σ.1 (14 + ss)) j) (shN (by omega)) dX8_load_74 rfl (by omega) rfl (by first | with_reducible rfl | (simp (disch := omega) only [setR_at, setR_twice, setL_at, setL_twice, setR_2, setL_1, setR_ne, setL_ne, ne_eq, Nat.reduceEqDiff, not_false_eq_true, pk_us, pk_un]; done) | (simp (disch := omega) only [setR_at, setR_twice, setL_at, setL_twice, setR_2, setL_1, setR_ne, setL_ne, ne_eq, Nat.reduceEqDiff, not_false_eq_true, pk_us, pk_un, Option.toList_some, Option.toList_none, List.cons_append, List.nil_append]; done) | ((try simp (disch := omega) only [setR_at, setR_twice, setL_at, setL_twice, setR_2, setL_1, setR_ne, setL_ne, ne_eq, Nat.reduceEqDiff, not_false_eq_true, pk_us, pk_un]); refine Prod.ext (funext fun z => ?_) rfl; simp only [setR]; (repeat' split) <;> first | with_reducible rfl | (exfalso; omega)) | (simp (disch := omega) only [setR_at, setR_twice, setL_at, setL_twice, setR_2, setL_1, setR_ne, setL_ne, ne_eq, Nat.reduceEqDiff, not_false_eq_true, pk_us, pk_un, setL_010, Option.toList_some, Option.toList_none, List.cons_append, List.nil_append]; done) | rfl) ?_
            refine aw_cSI (pc := 75) C (c_X8_isPace _ ((σ.1 (14 + ss)) j) ) lk_X8_115 dX8_load_75 (by decide) (Nat.le_of_ble_eq_true rfl) rfl rfl ?_
            refine aw_conv (σ' := setR σ 0 (ldM (σ.1 0) rr (σ.1 (14 + ss)) j)) (st' := [.int (b2i (1 ≤ ((σ.1 (14 + ss)) j) ∧ ((σ.1 (14 + ss)) j) ≤ 9))]) (by first | with_reducible rfl | (simp (disch := omega) only [setR_at, setR_twice, setL_at, setL_twice, setR_2, setL_1, setR_ne, setL_ne, ne_eq, Nat.reduceEqDiff, not_false_eq_true, pk_us, pk_un]; done) | (simp (disch := omega) only [setR_at, setR_twice, setL_at, setL_twice, setR_2, setL_1, setR_ne, setL_ne, ne_eq, Nat.reduceEqDiff, not_false_eq_true, pk_us, pk_un, Option.toList_some, Option.toList_none, List.cons_append, List.nil_append]; done) | ((try simp (disch := omega) only [setR_at, setR_twice, setL_at, setL_twice, setR_2, setL_1, setR_ne, setL_ne, ne_eq, Nat.reduceEqDiff, not_false_eq_true, pk_us, pk_un]); refine Prod.ext (funext fun z => ?_) rfl; simp only [setR]; (repeat' split) <;> first | with_reducible rfl | (exfalso; omega)) | (simp (disch := omega) only [setR_at, setR_twice, setL_at, setL_twice, setR_2, setL_1, setR_ne, setL_ne, ne_eq, Nat.reduceEqDiff, not_false_eq_true, pk_us, pk_un, setL_010, Option.toList_some, Option.toList_none, List.cons_append, List.nil_append]; done) | rfl) rfl (by first | with_reducible rfl | (simp (disch := omega) only [setR_at, setR_twice, setL_at, setL_twice, setR_2, setL_1, setR_ne, setL_ne, ne_eq, Nat.reduceEqDiff, not_false_eq_true, pk_us, pk_un]; done) | (simp (disch := omega) only [setR_at, setR_twice, setL_at, setL_twice, setR_2, setL_1, setR_ne, setL_ne, ne_eq, Nat.reduceEqDiff, not_false_eq_true, pk_us, pk_un, Option.toList_some, Option.toList_none, List.cons_append, List.nil_append]; done) | ((try simp (disch := omega) only [setR_at, setR_twice, setL_at, setL_twice, setR_2, setL_1, setR_ne, setL_ne, ne_eq, Nat.reduceEqDiff, not_false_eq_true, pk_us, pk_un]); refine Prod.ext (funext fun z => ?_) rfl; simp only [setR]; (repeat' split) <;> first | with_reducible rfl | (exfalso; omega)) | (simp (disch := omega) only [setR_at, setR_twice, setL_at, setL_twice, setR_2, setL_1, setR_ne, setL_ne, ne_eq, Nat.reduceEqDiff, not_false_eq_true, pk_us, pk_un, setL_010, Option.toList_some, Option.toList_none, List.cons_append, List.nil_append]; done) | rfl) ?_
            refine aw_if_eqB (pc := 78) C 109 dX8_load_78 (by decide) (fun h78 => ?_) (fun h78 => ?_)
            · have hE : ldC (σ.1 (14 + ss)) z 40 0 = j := hN.trans (ldC_n (fun q => h78 q.2.2))
              refine aw_iload (pc := 109) C 0 dX8_load_109 rfl ?_
              exact aw_iretP (pc := 111) C rfl dX8_load_111 (pc_of (an' := .inr (nI j, ldM (σ.1 0) rr (σ.1 (14 + ss)) j)) (by rw [ksLoad, if_pos h4, cl_nI (show ss < 2147483648 by omega), if_neg (show ¬ Ph σ ss 40 = 0 from h24), if_pos h38, show Ph σ ss 41 = nI z from ez, cl_nI (show z < 2147483648 by omega), cl_nI (show rr < 2147483648 by omega), show ldC (Ph σ ss) z 40 0 = j from hE]) rfl rfl)
            · refine aw_aload_n (pc := 81) C 3 dX8_load_81 rfl ?_
              refine aw_getR (pc := 82) C fl_X8_16 sh0 rfl dX8_load_82 ?_
              refine aw_getR (pc := 85) C fl_X8_99 (shM (by decide : 0 < 3)) rfl dX8_load_85 ?_
              refine aw_iload_n (pc := 88) C 5 dX8_load_88 rfl ?_
              refine aw_aald (pc := 89) (k := rr) C (shRs (by decide : 0 < 3)) dX8_load_89 rfl (by omega) ?_
              refine aw_getR (pc := 90) C fl_X8_118 (shR (by decide : 0 < 3) (by omega)) rfl dX8_load_90 ?_
              refine aw_iload (pc := 93) C 0 dX8_load_93 rfl ?_
              refine aw_aload_n (pc := 95) C 2 dX8_load_95 rfl ?_
              refine aw_getR (pc := 96) C fl_X8_273 (shS (by omega)) rfl dX8_load_96 ?_
              refine aw_iload (pc := 99) C 0 dX8_load_99 rfl ?_
              refine aw_ild (pc := 101) (k := j) C (j) ((σ.1 (14 + ss)) j) (shN (by omega)) dX8_load_101 rfl (by omega) rfl (by first | with_reducible rfl | (simp (disch := omega) only [setR_at, setR_twice, setL_at, setL_twice, setR_2, setL_1, setR_ne, setL_ne, ne_eq, Nat.reduceEqDiff, not_false_eq_true, pk_us, pk_un]; done) | (simp (disch := omega) only [setR_at, setR_twice, setL_at, setL_twice, setR_2, setL_1, setR_ne, setL_ne, ne_eq, Nat.reduceEqDiff, not_false_eq_true, pk_us, pk_un, Option.toList_some, Option.toList_none, List.cons_append, List.nil_append]; done) | ((try simp (disch := omega) only [setR_at, setR_twice, setL_at, setL_twice, setR_2, setL_1, setR_ne, setL_ne, ne_eq, Nat.reduceEqDiff, not_false_eq_true, pk_us, pk_un]); refine Prod.ext (funext fun z => ?_) rfl; simp only [setR]; (repeat' split) <;> first | with_reducible rfl | (exfalso; omega)) | (simp (disch := omega) only [setR_at, setR_twice, setL_at, setL_twice, setR_2, setL_1, setR_ne, setL_ne, ne_eq, Nat.reduceEqDiff, not_false_eq_true, pk_us, pk_un, setL_010, Option.toList_some, Option.toList_none, List.cons_append, List.nil_append]; done) | rfl) ?_
              refine aw_ist (pc := 102) (k := j) C (33 + 37 * rr + (7 + j)) (setR σ 0 (upd (ldM (σ.1 0) rr (σ.1 (14 + ss)) j) (33 + 37 * rr + (7 + j)) ((σ.1 (14 + ss)) j))) (shP (by decide : 0 < 3) (by omega)) dX8_load_102 rfl (by omega) (by omega) (by first | with_reducible rfl | (simp (disch := omega) only [setR_at, setR_twice, setL_at, setL_twice, setR_2, setL_1, setR_ne, setL_ne, ne_eq, Nat.reduceEqDiff, not_false_eq_true, pk_us, pk_un]; done) | (simp (disch := omega) only [setR_at, setR_twice, setL_at, setL_twice, setR_2, setL_1, setR_ne, setL_ne, ne_eq, Nat.reduceEqDiff, not_false_eq_true, pk_us, pk_un, Option.toList_some, Option.toList_none, List.cons_append, List.nil_append]; done) | ((try simp (disch := omega) only [setR_at, setR_twice, setL_at, setL_twice, setR_2, setL_1, setR_ne, setL_ne, ne_eq, Nat.reduceEqDiff, not_false_eq_true, pk_us, pk_un]); refine Prod.ext (funext fun z => ?_) rfl; simp only [setR]; (repeat' split) <;> first | with_reducible rfl | (exfalso; omega)) | (simp (disch := omega) only [setR_at, setR_twice, setL_at, setL_twice, setR_2, setL_1, setR_ne, setL_ne, ne_eq, Nat.reduceEqDiff, not_false_eq_true, pk_us, pk_un, setL_010, Option.toList_some, Option.toList_none, List.cons_append, List.nil_append]; done) | rfl) ?_
              refine aw_conv (σ' := setR σ 0 (ldM (σ.1 0) rr (σ.1 (14 + ss)) (j + 1))) (congrArg (setR σ 0) (ldM_s (f := (σ.1 (14 + ss))))) rfl rfl ?_
              refine aw_iincN (pc := 103) C 0 j [(5, .int (nI (j + 1))), (4, .int (nI mo)), (3, .ref (17 + 2 * ss)), (0, .ref 0), (1, .int (nI ss)), (2, .int (nI rr))] dX8_load_103 rfl rfl rfl (Nat.le_of_ble_eq_true rfl) rfl ?_
              refine aw_goto (pc := 106) C 61 dX8_load_106 (by decide) ?_
              refine aw_lvs C [0, 1, 2, 3, 4, 5] [(5, .int (nI (j + 1))), (4, .int (nI mo)), (3, .ref (17 + 2 * ss)), (0, .ref 0), (1, .int (nI ss)), (2, .int (nI rr))] rfl ?_
              exact aw_conv (σ' := setR σ 0 (ldM (σ.1 0) rr (σ.1 (14 + ss)) (j + 1))) (lv' := [(5, .int (nI (j + 1))), (4, .int (nI mo)), (3, .ref (17 + 2 * ss)), (0, .ref 0), (1, .int (nI ss)), (2, .int (nI rr))]) rfl rfl rfl (ih61 (by omega) (j + 1) (by omega) (hN.trans (ldC_y ⟨hjz.1, hjz.2, h78⟩)))
      · refine aw_aload_n (pc := 41) C 1 dX8_load_41 rfl ?_
        refine aw_iconst (pc := 42) (v := 0) C dX8_load_42 rfl ?_
        refine aw_cVI (pc := 43) C (c_X8_found _ 0 (by omega)) lk_X8_78 sh0 rfl dX8_load_43 (by decide) (Nat.le_of_ble_eq_true rfl) rfl rfl ?_
        exact aw_iretP (pc := 46) C rfl dX8_load_46 (pc_of (an' := .inl 0) (by rw [ksLoad, if_pos h4, cl_nI (show ss < 2147483648 by omega), if_neg (show ¬ Ph σ ss 40 = 0 from h24), if_neg h38]) rfl rfl)
    · refine aw_aload_n (pc := 27) C 1 dX8_load_27 rfl ?_
      refine aw_iconst (pc := 28) (v := 5) C dX8_load_28 rfl ?_
      refine aw_cVI (pc := 29) C (c_X8_found _ 5 (by omega)) lk_X8_78 sh0 rfl dX8_load_29 (by decide) (Nat.le_of_ble_eq_true rfl) rfl rfl ?_
      exact aw_iretP (pc := 32) C rfl dX8_load_32 (pc_of (an' := .inl 5) (by rw [ksLoad, if_pos h4, cl_nI (show ss < 2147483648 by omega), if_pos (show Ph σ ss 40 = 0 from h24)]) rfl rfl)
  · refine aw_aload_n (pc := 7) C 0 dX8_load_7 rfl ?_
    refine aw_iconst (pc := 8) (v := 0) C dX8_load_8 rfl ?_
    refine aw_cVI (pc := 9) C (c_X8_found _ 0 (by omega)) lk_X8_78 sh0 rfl dX8_load_9 (by decide) (Nat.le_of_ble_eq_true rfl) rfl rfl ?_
    exact aw_iretP (pc := 12) C rfl dX8_load_12 (pc_of (an' := .inl 0) (by rw [ksLoad, if_neg (fun z => h4 z)]) rfl rfl)
theorem c_X8_judge (σ : St) (n : Nat) (hok : Ok n (σ.1 0)) (hsh : CShOk (Ph σ)) (s : Int32) : AMet Y_X8_judge [.ref 0, .int s] σ (PC σ (ksJudge (σ.1 0) n (Ph σ) s)) := by
  refine am_intro (by decide +kernel) (Nat.le_of_ble_eq_true rfl) (fun K C => ?_)
  have hz := hok.1
  have hn := hok.2.1
  have hokt : Ok n (bcm (σ.1 2) (σ.1 0) n) := hok.agr Agr.bcm.sym
  refine aw_iload_n (pc := 0) C 1 dX8_judge_0 rfl ?_
  refine aw_cSI (pc := 1) C (c_X8_isSheet _ s ) lk_X8_255 dX8_judge_1 (by decide) (Nat.le_of_ble_eq_true rfl) rfl rfl ?_
  refine aw_if_neB (pc := 4) C 13 dX8_judge_4 (by decide) (fun h4 => ?_) (fun h4 => ?_)
  · obtain ⟨ss, rfl, hss0, hss⟩ := rg 0 3 h4 (by omega) (by omega)
    refine aw_aload_n (pc := 13) C 0 dX8_judge_13 rfl ?_
    refine aw_getR (pc := 14) C fl_X8_61 sh0 rfl dX8_judge_14 ?_
    refine aw_iload_n (pc := 17) C 1 dX8_judge_17 rfl ?_
    refine aw_aald (pc := 18) (k := ss) C sh16 dX8_judge_18 rfl (by omega) ?_
    refine aw_astore_n (pc := 19) C [(2, .ref (17 + 2 * ss)), (0, .ref 0), (1, .int (nI ss))] dX8_judge_19 (Nat.le_of_ble_eq_true rfl) rfl ?_
    refine aw_aload_n (pc := 20) C 0 dX8_judge_20 rfl ?_
    refine aw_cVI (pc := 21) C (c_X5_isMissing _ ss (by omega) ) lk_X8_262 (shS (by omega)) rfl dX8_judge_21 (by decide) (Nat.le_of_ble_eq_true rfl) rfl rfl ?_
    refine aw_if_eqB (pc := 24) C 33 dX8_judge_24 (by decide) (fun h24 => ?_) (fun h24 => ?_)
    · obtain ⟨z, hz4, ez⟩ := hsh ss (by omega)
      refine aw_aload_n (pc := 33) C 1 dX8_judge_33 rfl ?_
      refine aw_getR (pc := 34) C fl_X8_23 sh0 rfl dX8_judge_34 ?_
      refine aw_aload_n (pc := 37) C 1 dX8_judge_37 rfl ?_
      refine aw_getR (pc := 38) C fl_X8_16 sh0 rfl dX8_judge_38 ?_
      refine aw_cV0 (pc := 41) C (c_X2_become _ 2 (by decide : 2 < 3) 0 (by decide : 0 < 3) (by decide) n hn hz) lk_X8_151 (shM (by decide : 2 < 3)) rfl dX8_judge_41 (by decide) (Nat.le_of_ble_eq_true rfl) rfl rfl ?_
      refine aw_iconst (pc := 44) (v := 0) C dX8_judge_44 rfl ?_
      refine aw_istore_n (pc := 45) C [(3, .int 0), (2, .ref (17 + 2 * ss)), (0, .ref 0), (1, .int (nI ss))] dX8_judge_45 (Nat.le_of_ble_eq_true rfl) rfl ?_
      refine aw_lvs C [0, 1, 2, 3] [(3, .int 0), (2, .ref (17 + 2 * ss)), (0, .ref 0), (1, .int (nI ss))] rfl ?_
      refine aw_conv (σ' := setR σ 2 (goM n (bcm (σ.1 2) (σ.1 0) n) 0)) (lv' := [(3, .int (nI 0)), (2, .ref (17 + 2 * ss)), (0, .ref 0), (1, .int (nI ss))]) rfl rfl rfl ?_
      refine loop_dn (P := fun d => d ≤ 40 → ∀ (j : Nat) (hj : j + d = 40) (hjz : j ≤ z) (hN : jdC n (bcm (σ.1 2) (σ.1 0) n) (σ.1 (14 + ss)) z 40 0 = jdC n (bcm (σ.1 2) (σ.1 0) n) (σ.1 (14 + ss)) z d j), AW _ K _ (setR σ 2 (goM n (bcm (σ.1 2) (σ.1 0) n) j)) 46 [(3, .int (nI j)), (2, .ref (17 + 2 * ss)), (0, .ref 0), (1, .int (nI ss))] []) ?_ ?_ 40 (by omega) 0 rfl (by omega) rfl
      · intro hk46 j hj hjz hN
        refine aw_iload_n (pc := 46) C 0 dX8_judge_46 rfl ?_
        refine aw_aload_n (pc := 47) C 1 dX8_judge_47 rfl ?_
        refine aw_gld (pc := 48) C ((σ.1 (14 + ss)) 41) fl_X8_261 (shS (by omega)) rfl dX8_judge_48 (by first | with_reducible rfl | (simp (disch := omega) only [setR_at, setR_twice, setL_at, setL_twice, setR_2, setL_1, setR_ne, setL_ne, ne_eq, Nat.reduceEqDiff, not_false_eq_true, pk_us, pk_un]; done) | (simp (disch := omega) only [setR_at, setR_twice, setL_at, setL_twice, setR_2, setL_1, setR_ne, setL_ne, ne_eq, Nat.reduceEqDiff, not_false_eq_true, pk_us, pk_un, Option.toList_some, Option.toList_none, List.cons_append, List.nil_append]; done) | ((try simp (disch := omega) only [setR_at, setR_twice, setL_at, setL_twice, setR_2, setL_1, setR_ne, setL_ne, ne_eq, Nat.reduceEqDiff, not_false_eq_true, pk_us, pk_un]); refine Prod.ext (funext fun z => ?_) rfl; simp only [setR]; (repeat' split) <;> first | with_reducible rfl | (exfalso; omega)) | (simp (disch := omega) only [setR_at, setR_twice, setL_at, setL_twice, setR_2, setL_1, setR_ne, setL_ne, ne_eq, Nat.reduceEqDiff, not_false_eq_true, pk_us, pk_un, setL_010, Option.toList_some, Option.toList_none, List.cons_append, List.nil_append]; done) | rfl) ?_
        refine aw_top C (nI (z)) ez ?_
        refine aw_icmp_geN (pc := 51) C j z 99 rfl rfl (by omega) (by omega) dX8_judge_51 (by decide) (fun h51 => ?_) (fun h51 => absurd h51 (by omega))
        refine aw_iconst (pc := 99) (v := 0) C dX8_judge_99 rfl ?_
        exact aw_iretP (pc := 100) C rfl dX8_judge_100 (pc_scr (an' := .inr (jdA z z, σ.1 0)) (by have hE : jdC n (σ.1 0) (Ph σ ss) z 40 0 = z := (jd_agr (Agr.bcm (μ := σ.1 2)) hok).symm.trans (hN.trans (show j = z by omega)); rw [ksJudge, if_pos h4, cl_nI (show ss < 2147483648 by omega), if_neg (show ¬ Ph σ ss 40 = 0 from h24), show Ph σ ss 41 = nI z from ez, cl_nI (show z < 2147483648 by omega), hE]) (if_pos rfl).symm (fun r hr => by simp only [anS, setR]; (repeat' split) <;> first | rfl | (subst_vars; first | rfl | exact absurd (by decide) hr)))
      · intro d ih46 hk46 j hj hjz hN
        refine aw_iload_n (pc := 46) C 0 dX8_judge_46 rfl ?_
        refine aw_aload_n (pc := 47) C 1 dX8_judge_47 rfl ?_
        refine aw_gld (pc := 48) C ((σ.1 (14 + ss)) 41) fl_X8_261 (shS (by omega)) rfl dX8_judge_48 (by first | with_reducible rfl | (simp (disch := omega) only [setR_at, setR_twice, setL_at, setL_twice, setR_2, setL_1, setR_ne, setL_ne, ne_eq, Nat.reduceEqDiff, not_false_eq_true, pk_us, pk_un]; done) | (simp (disch := omega) only [setR_at, setR_twice, setL_at, setL_twice, setR_2, setL_1, setR_ne, setL_ne, ne_eq, Nat.reduceEqDiff, not_false_eq_true, pk_us, pk_un, Option.toList_some, Option.toList_none, List.cons_append, List.nil_append]; done) | ((try simp (disch := omega) only [setR_at, setR_twice, setL_at, setL_twice, setR_2, setL_1, setR_ne, setL_ne, ne_eq, Nat.reduceEqDiff, not_false_eq_true, pk_us, pk_un]); refine Prod.ext (funext fun z => ?_) rfl; simp only [setR]; (repeat' split) <;> first | with_reducible rfl | (exfalso; omega)) | (simp (disch := omega) only [setR_at, setR_twice, setL_at, setL_twice, setR_2, setL_1, setR_ne, setL_ne, ne_eq, Nat.reduceEqDiff, not_false_eq_true, pk_us, pk_un, setL_010, Option.toList_some, Option.toList_none, List.cons_append, List.nil_append]; done) | rfl) ?_
        refine aw_top C (nI (z)) ez ?_
        refine aw_icmp_geN (pc := 51) C j z 99 rfl rfl (by omega) (by omega) dX8_judge_51 (by decide) (fun h51 => ?_) (fun h51 => ?_)
        · refine aw_iconst (pc := 99) (v := 0) C dX8_judge_99 rfl ?_
          exact aw_iretP (pc := 100) C rfl dX8_judge_100 (pc_scr (an' := .inr (jdA z z, σ.1 0)) (by have hE : jdC n (σ.1 0) (Ph σ ss) z 40 0 = z := (jd_agr (Agr.bcm (μ := σ.1 2)) hok).symm.trans ((hN.trans (jdC_n (fun q => absurd q.1 (by omega)))).trans (show j = z by omega)); rw [ksJudge, if_pos h4, cl_nI (show ss < 2147483648 by omega), if_neg (show ¬ Ph σ ss 40 = 0 from h24), show Ph σ ss 41 = nI z from ez, cl_nI (show z < 2147483648 by omega), hE]) (if_pos rfl).symm (fun r hr => by simp only [anS, setR]; (repeat' split) <;> first | rfl | (subst_vars; first | rfl | exact absurd (by decide) hr)))
        · have hokj : Ok n (goM n (bcm (σ.1 2) (σ.1 0) n) j) := hokt.go j
          refine aw_aload_n (pc := 54) C 2 dX8_judge_54 rfl ?_
          refine aw_getR (pc := 55) C fl_X8_23 sh0 rfl dX8_judge_55 ?_
          refine aw_cVI (pc := 58) C (c_X2_whoRuns _ 2 (by decide : 2 < 3) n (by simp (disch := omega) only [setR_at, setR_twice, setL_at, setL_twice, setR_2, setL_1, setR_ne, setL_ne, ne_eq, Nat.reduceEqDiff, not_false_eq_true, pk_us, pk_un]; exact hokj)) lk_X8_141 (shM (by decide : 2 < 3)) rfl dX8_judge_58 (by decide) (Nat.le_of_ble_eq_true rfl) rfl rfl ?_
          refine aw_conv (σ' := setR σ 2 (goM n (bcm (σ.1 2) (σ.1 0) n) j)) (st' := [.int (oI (nxt (goM n (bcm (σ.1 2) (σ.1 0) n) j) n))]) (by first | with_reducible rfl | (simp (disch := omega) only [setR_at, setR_twice, setL_at, setL_twice, setR_2, setL_1, setR_ne, setL_ne, ne_eq, Nat.reduceEqDiff, not_false_eq_true, pk_us, pk_un]; done) | (simp (disch := omega) only [setR_at, setR_twice, setL_at, setL_twice, setR_2, setL_1, setR_ne, setL_ne, ne_eq, Nat.reduceEqDiff, not_false_eq_true, pk_us, pk_un, Option.toList_some, Option.toList_none, List.cons_append, List.nil_append]; done) | ((try simp (disch := omega) only [setR_at, setR_twice, setL_at, setL_twice, setR_2, setL_1, setR_ne, setL_ne, ne_eq, Nat.reduceEqDiff, not_false_eq_true, pk_us, pk_un]); refine Prod.ext (funext fun z => ?_) rfl; simp only [setR]; (repeat' split) <;> first | with_reducible rfl | (exfalso; omega)) | (simp (disch := omega) only [setR_at, setR_twice, setL_at, setL_twice, setR_2, setL_1, setR_ne, setL_ne, ne_eq, Nat.reduceEqDiff, not_false_eq_true, pk_us, pk_un, setL_010, Option.toList_some, Option.toList_none, List.cons_append, List.nil_append]; done) | rfl) rfl (by first | with_reducible rfl | (simp (disch := omega) only [setR_at, setR_twice, setL_at, setL_twice, setR_2, setL_1, setR_ne, setL_ne, ne_eq, Nat.reduceEqDiff, not_false_eq_true, pk_us, pk_un]; done) | (simp (disch := omega) only [setR_at, setR_twice, setL_at, setL_twice, setR_2, setL_1, setR_ne, setL_ne, ne_eq, Nat.reduceEqDiff, not_false_eq_true, pk_us, pk_un, Option.toList_some, Option.toList_none, List.cons_append, List.nil_append]; done) | ((try simp (disch := omega) only [setR_at, setR_twice, setL_at, setL_twice, setR_2, setL_1, setR_ne, setL_ne, ne_eq, Nat.reduceEqDiff, not_false_eq_true, pk_us, pk_un]); refine Prod.ext (funext fun z => ?_) rfl; simp only [setR]; (repeat' split) <;> first | with_reducible rfl | (exfalso; omega)) | (simp (disch := omega) only [setR_at, setR_twice, setL_at, setL_twice, setR_2, setL_1, setR_ne, setL_ne, ne_eq, Nat.reduceEqDiff, not_false_eq_true, pk_us, pk_un, setL_010, Option.toList_some, Option.toList_none, List.cons_append, List.nil_append]; done) | rfl) ?_
          rcases hb : nxt (goM n (bcm (σ.1 2) (σ.1 0) n) j) n with _ | b
          · refine aw_top C ((-1)) rfl ?_
            refine aw_istore (pc := 61) C [(4, .int ((-1))), (3, .int (nI j)), (2, .ref (17 + 2 * ss)), (0, .ref 0), (1, .int (nI ss))] dX8_judge_61 (Nat.le_of_ble_eq_true rfl) rfl ?_
            refine aw_iload (pc := 63) C 0 dX8_judge_63 rfl ?_
            refine aw_if_lt (pc := 65) C 79 dX8_judge_65 (by decide) (fun h65 => ?_) (fun h65 => absurd h65 (by decide))
            refine aw_iconst (pc := 79) (v := 1) C dX8_judge_79 rfl ?_
            refine aw_iload_n (pc := 80) C 1 dX8_judge_80 rfl ?_
            refine aw_iaddN (pc := 81) C 1 j rfl rfl dX8_judge_81 ?_
            exact aw_iretP (pc := 82) C rfl dX8_judge_82 (pc_scr (an' := .inr (jdA j z, σ.1 0)) (by have hE : jdC n (σ.1 0) (Ph σ ss) z 40 0 = j := (jd_agr (Agr.bcm (μ := σ.1 2)) hok).symm.trans (hN.trans (jdC_n (fun q => q.2.1 hb))); rw [ksJudge, if_pos h4, cl_nI (show ss < 2147483648 by omega), if_neg (show ¬ Ph σ ss 40 = 0 from h24), show Ph σ ss 41 = nI z from ez, cl_nI (show z < 2147483648 by omega), hE]) (if_neg (by omega)).symm (fun r hr => by simp only [anS, setR]; (repeat' split) <;> first | rfl | (subst_vars; first | rfl | exact absurd (by decide) hr)))
          · have hbl := nxt_lt hb
            obtain ⟨y, hy3, hy⟩ := hokj.yard hbl.1 hbl.2
            refine aw_top C (nI (b)) rfl ?_
            refine aw_istore (pc := 61) C [(4, .int (nI b)), (3, .int (nI j)), (2, .ref (17 + 2 * ss)), (0, .ref 0), (1, .int (nI ss))] dX8_judge_61 (Nat.le_of_ble_eq_true rfl) rfl ?_
            refine aw_iload (pc := 63) C 0 dX8_judge_63 rfl ?_
            refine aw_if_lt (pc := 65) C 79 dX8_judge_65 (by decide) (fun h65 => absurd h65 (nI_pos (by omega))) (fun h65 => ?_)
            refine aw_iload (pc := 68) C 0 dX8_judge_68 rfl ?_
            refine aw_aload_n (pc := 70) C 2 dX8_judge_70 rfl ?_
            refine aw_getR (pc := 71) C fl_X8_273 (shS (by omega)) rfl dX8_judge_71 ?_
            refine aw_iload_n (pc := 74) C 1 dX8_judge_74 rfl ?_
            refine aw_ild (pc := 75) (k := j) C (j) ((σ.1 (14 + ss)) j) (shN (by omega)) dX8_judge_75 rfl (by omega) rfl (by first | with_reducible rfl | (simp (disch := omega) only [setR_at, setR_twice, setL_at, setL_twice, setR_2, setL_1, setR_ne, setL_ne, ne_eq, Nat.reduceEqDiff, not_false_eq_true, pk_us, pk_un]; done) | (simp (disch := omega) only [setR_at, setR_twice, setL_at, setL_twice, setR_2, setL_1, setR_ne, setL_ne, ne_eq, Nat.reduceEqDiff, not_false_eq_true, pk_us, pk_un, Option.toList_some, Option.toList_none, List.cons_append, List.nil_append]; done) | ((try simp (disch := omega) only [setR_at, setR_twice, setL_at, setL_twice, setR_2, setL_1, setR_ne, setL_ne, ne_eq, Nat.reduceEqDiff, not_false_eq_true, pk_us, pk_un]); refine Prod.ext (funext fun z => ?_) rfl; simp only [setR]; (repeat' split) <;> first | with_reducible rfl | (exfalso; omega)) | (simp (disch := omega) only [setR_at, setR_twice, setL_at, setL_twice, setR_2, setL_1, setR_ne, setL_ne, ne_eq, Nat.reduceEqDiff, not_false_eq_true, pk_us, pk_un, setL_010, Option.toList_some, Option.toList_none, List.cons_append, List.nil_append]; done) | rfl) ?_
            refine aw_icmp_eq (pc := 76) C 83 dX8_judge_76 (by decide) (fun h76 => ?_) (fun h76 => ?_)
            · refine aw_aload_n (pc := 83) C 3 dX8_judge_83 rfl ?_
              refine aw_getR (pc := 84) C fl_X8_23 sh0 rfl dX8_judge_84 ?_
              refine aw_iload (pc := 87) C 0 dX8_judge_87 rfl ?_
              refine aw_cVI (pc := 89) C (c_X2_step _ 2 (by decide : 2 < 3) n (by simp (disch := omega) only [setR_at, setR_twice, setL_at, setL_twice, setR_2, setL_1, setR_ne, setL_ne, ne_eq, Nat.reduceEqDiff, not_false_eq_true, pk_us, pk_un]; exact hokj) b (by omega) y (by simp (disch := omega) only [setR_at, setR_twice, setL_at, setL_twice, setR_2, setL_1, setR_ne, setL_ne, ne_eq, Nat.reduceEqDiff, not_false_eq_true, pk_us, pk_un]; exact hy) hy3) lk_X8_285 (shM (by decide : 2 < 3)) rfl dX8_judge_89 (by decide) (Nat.le_of_ble_eq_true rfl) rfl rfl ?_
              refine aw_conv (σ' := setR σ 2 (stepM (goM n (bcm (σ.1 2) (σ.1 0) n) j) n b)) (st' := [.int (stepD (goM n (bcm (σ.1 2) (σ.1 0) n) j) n b)]) (by first | with_reducible rfl | (simp (disch := omega) only [setR_at, setR_twice, setL_at, setL_twice, setR_2, setL_1, setR_ne, setL_ne, ne_eq, Nat.reduceEqDiff, not_false_eq_true, pk_us, pk_un]; done) | (simp (disch := omega) only [setR_at, setR_twice, setL_at, setL_twice, setR_2, setL_1, setR_ne, setL_ne, ne_eq, Nat.reduceEqDiff, not_false_eq_true, pk_us, pk_un, Option.toList_some, Option.toList_none, List.cons_append, List.nil_append]; done) | ((try simp (disch := omega) only [setR_at, setR_twice, setL_at, setL_twice, setR_2, setL_1, setR_ne, setL_ne, ne_eq, Nat.reduceEqDiff, not_false_eq_true, pk_us, pk_un]); refine Prod.ext (funext fun z => ?_) rfl; simp only [setR]; (repeat' split) <;> first | with_reducible rfl | (exfalso; omega)) | (simp (disch := omega) only [setR_at, setR_twice, setL_at, setL_twice, setR_2, setL_1, setR_ne, setL_ne, ne_eq, Nat.reduceEqDiff, not_false_eq_true, pk_us, pk_un, setL_010, Option.toList_some, Option.toList_none, List.cons_append, List.nil_append]; done) | rfl) rfl (by first | with_reducible rfl | (simp (disch := omega) only [setR_at, setR_twice, setL_at, setL_twice, setR_2, setL_1, setR_ne, setL_ne, ne_eq, Nat.reduceEqDiff, not_false_eq_true, pk_us, pk_un]; done) | (simp (disch := omega) only [setR_at, setR_twice, setL_at, setL_twice, setR_2, setL_1, setR_ne, setL_ne, ne_eq, Nat.reduceEqDiff, not_false_eq_true, pk_us, pk_un, Option.toList_some, Option.toList_none, List.cons_append, List.nil_append]; done) | ((try simp (disch := omega) only [setR_at, setR_twice, setL_at, setL_twice, setR_2, setL_1, setR_ne, setL_ne, ne_eq, Nat.reduceEqDiff, not_false_eq_true, pk_us, pk_un]); refine Prod.ext (funext fun z => ?_) rfl; simp only [setR]; (repeat' split) <;> first | with_reducible rfl | (exfalso; omega)) | (simp (disch := omega) only [setR_at, setR_twice, setL_at, setL_twice, setR_2, setL_1, setR_ne, setL_ne, ne_eq, Nat.reduceEqDiff, not_false_eq_true, pk_us, pk_un, setL_010, Option.toList_some, Option.toList_none, List.cons_append, List.nil_append]; done) | rfl) ?_
              refine aw_pop (pc := 92) C dX8_judge_92 rfl ?_
              refine aw_conv (σ' := setR σ 2 (goM n (bcm (σ.1 2) (σ.1 0) n) (j + 1))) (congrArg (setR σ 2) (goM_s hb).symm) rfl rfl ?_
              refine aw_iincN (pc := 93) C 1 j [(3, .int (nI (j + 1))), (4, .int (nI b)), (2, .ref (17 + 2 * ss)), (0, .ref 0), (1, .int (nI ss))] dX8_judge_93 rfl rfl rfl (Nat.le_of_ble_eq_true rfl) rfl ?_
              refine aw_goto (pc := 96) C 46 dX8_judge_96 (by decide) ?_
              refine aw_lvs C [0, 2, 3, 4] [(3, .int (nI (j + 1))), (2, .ref (17 + 2 * ss)), (0, .ref 0), (1, .int (nI ss))] rfl ?_
              exact aw_conv (σ' := setR σ 2 (goM n (bcm (σ.1 2) (σ.1 0) n) (j + 1))) (lv' := [(3, .int (nI (j + 1))), (2, .ref (17 + 2 * ss)), (0, .ref 0), (1, .int (nI ss))]) rfl rfl rfl (ih46 (by omega) (j + 1) (by omega) (by omega) (hN.trans (jdC_y ⟨h51, (by rw [hb]; exact fun q => by cases q), (by rw [hb]; exact h76.symm)⟩)))
            · refine aw_iconst (pc := 79) (v := 1) C dX8_judge_79 rfl ?_
              refine aw_iload_n (pc := 80) C 1 dX8_judge_80 rfl ?_
              refine aw_iaddN (pc := 81) C 1 j rfl rfl dX8_judge_81 ?_
              exact aw_iretP (pc := 82) C rfl dX8_judge_82 (pc_scr (an' := .inr (jdA j z, σ.1 0)) (by have hE : jdC n (σ.1 0) (Ph σ ss) z 40 0 = j := (jd_agr (Agr.bcm (μ := σ.1 2)) hok).symm.trans (hN.trans (jdC_n (fun q => h76 (by have := q.2.2; rw [hb] at this; exact this.symm)))); rw [ksJudge, if_pos h4, cl_nI (show ss < 2147483648 by omega), if_neg (show ¬ Ph σ ss 40 = 0 from h24), show Ph σ ss 41 = nI z from ez, cl_nI (show z < 2147483648 by omega), hE]) (if_neg (by omega)).symm (fun r hr => by simp only [anS, setR]; (repeat' split) <;> first | rfl | (subst_vars; first | rfl | exact absurd (by decide) hr)))
    · refine aw_aload_n (pc := 27) C 1 dX8_judge_27 rfl ?_
      refine aw_iconst (pc := 28) (v := 5) C dX8_judge_28 rfl ?_
      refine aw_cVI (pc := 29) C (c_X8_found _ 5 (by omega)) lk_X8_78 sh0 rfl dX8_judge_29 (by decide) (Nat.le_of_ble_eq_true rfl) rfl rfl ?_
      exact aw_iretP (pc := 32) C rfl dX8_judge_32 (pc_of (an' := .inl 5) (by rw [ksJudge, if_pos h4, cl_nI (show ss < 2147483648 by omega), if_pos (show Ph σ ss 40 = 0 from h24)]) rfl rfl)
  · refine aw_aload_n (pc := 7) C 0 dX8_judge_7 rfl ?_
    refine aw_iconst (pc := 8) (v := 0) C dX8_judge_8 rfl ?_
    refine aw_cVI (pc := 9) C (c_X8_found _ 0 (by omega)) lk_X8_78 sh0 rfl dX8_judge_9 (by decide) (Nat.le_of_ble_eq_true rfl) rfl rfl ?_
    exact aw_iretP (pc := 12) C rfl dX8_judge_12 (pc_of (an' := .inl 0) (by rw [ksJudge, if_neg (fun z => h4 z)]) rfl rfl)
