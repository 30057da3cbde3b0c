/-! the class: teams, paces: the calls -/
theorem c_X8_team (σ : St) (n : Nat) (hok : Ok n (σ.1 0)) (x : Int32) : AMet Y_X8_team [.ref 0, .int x] σ (PC σ (sTeam (σ.1 0) n x)) := by
  refine am_intro (by decide +kernel) (Nat.le_of_ble_eq_true rfl) (fun K C => ?_)
  have hz := hok.1
  have hn := hok.2.1
  refine aw_aload_n (pc := 0) C 0 dX8_team_0 rfl ?_
  refine aw_iload_n (pc := 1) C 1 dX8_team_1 rfl ?_
  refine aw_cVI (pc := 2) C (c_X8_isTeamSet _ n hn hz x ) lk_X8_215 sh0 rfl dX8_team_2 (by decide) (Nat.le_of_ble_eq_true rfl) rfl rfl ?_
  refine aw_if_neB (pc := 5) C 14 dX8_team_5 (by decide) (fun h5 => ?_) (fun h5 => ?_)
  · refine aw_aload_n (pc := 14) C 0 dX8_team_14 rfl ?_
    refine aw_getR (pc := 15) C fl_X8_43 sh0 rfl dX8_team_15 ?_
    refine aw_aload_n (pc := 18) C 0 dX8_team_18 rfl ?_
    refine aw_getR (pc := 19) C fl_X8_16 sh0 rfl dX8_team_19 ?_
    refine aw_aload_n (pc := 22) C 0 dX8_team_22 rfl ?_
    refine aw_getR (pc := 23) C fl_X8_29 sh0 rfl dX8_team_23 ?_
    refine aw_iload_n (pc := 26) C 1 dX8_team_26 rfl ?_
    refine aw_callV (pc := 27) C (c_X7_choose _  0 (by decide : 0 < 3) n hok x h5.1) lk_X8_218 sh9 rfl (by decide) rfl (Nat.le_of_ble_eq_true rfl) dX8_team_27 rfl (fun w s hq => ?_)
    obtain ⟨f27, g27, h27x, L27, M27, hQ27, rfl, rfl⟩ := hq
    refine aw_conv (σ' := setR (setR (setR (setR (setR σ 5 (f27)) 6 (g27)) 9 (h27x)) 10 (M27)) 8 (L27)) (st' := [.int (M27 0)]) (by first | with_reducible rfl | (simp (disch := omega) only [setR_at, setR_twice, setL_at, setL_twice, setR_2, setL_1, setR_ne, setL_ne, ne_eq, Nat.reduceEqDiff, not_false_eq_true, pk_us, pk_un]; done) | (simp (disch := omega) only [setR_at, setR_twice, setL_at, setL_twice, setR_2, setL_1, setR_ne, setL_ne, ne_eq, Nat.reduceEqDiff, not_false_eq_true, pk_us, pk_un, Option.toList_some, Option.toList_none, List.cons_append, List.nil_append]; done) | ((try simp (disch := omega) only [setR_at, setR_twice, setL_at, setL_twice, setR_2, setL_1, setR_ne, setL_ne, ne_eq, Nat.reduceEqDiff, not_false_eq_true, pk_us, pk_un]); refine Prod.ext (funext fun z => ?_) rfl; simp only [setR]; (repeat' split) <;> first | with_reducible rfl | (exfalso; omega)) | rfl) rfl (by first | with_reducible rfl | (simp (disch := omega) only [setR_at, setR_twice, setL_at, setL_twice, setR_2, setL_1, setR_ne, setL_ne, ne_eq, Nat.reduceEqDiff, not_false_eq_true, pk_us, pk_un]; done) | (simp (disch := omega) only [setR_at, setR_twice, setL_at, setL_twice, setR_2, setL_1, setR_ne, setL_ne, ne_eq, Nat.reduceEqDiff, not_false_eq_true, pk_us, pk_un, Option.toList_some, Option.toList_none, List.cons_append, List.nil_append]; done) | ((try simp (disch := omega) only [setR_at, setR_twice, setL_at, setL_twice, setR_2, setL_1, setR_ne, setL_ne, ne_eq, Nat.reduceEqDiff, not_false_eq_true, pk_us, pk_un]); refine Prod.ext (funext fun z => ?_) rfl; simp only [setR]; (repeat' split) <;> first | with_reducible rfl | (exfalso; omega)) | rfl) ?_
    obtain ⟨b, hb⟩ := team_ex (μ := σ.1 0) hz h5
    refine aw_top C (lsT (σ.1 0) (tmS (σ.1 0) x 216)) (((hQ27.2 b hb).1).trans (by rw [hb]; rfl)) ?_
    exact aw_iretP (pc := 30) C rfl dX8_team_30 (pc_scr (an' := .inr (lsT (σ.1 0) (tmS (σ.1 0) x 216), σ.1 0)) (by rw [sTeam, if_pos h5]) rfl (fun r hr => by simp only [anS, setR]; (repeat' split) <;> first | rfl | (subst_vars; first | rfl | exact absurd (by decide) hr)))
  · refine aw_aload_n (pc := 8) C 0 dX8_team_8 rfl ?_
    refine aw_iconst (pc := 9) (v := 0) C dX8_team_9 rfl ?_
    refine aw_cVI (pc := 10) C (c_X8_found _ 0 (by omega)) lk_X8_78 sh0 rfl dX8_team_10 (by decide) (Nat.le_of_ble_eq_true rfl) rfl rfl ?_
    exact aw_iretP (pc := 13) C rfl dX8_team_13 (pc_of (an' := .inl 0) (by rw [sTeam, if_neg (fun z => h5 (z))]) rfl rfl)
theorem c_X8_leg (σ : St) (n : Nat) (hok : Ok n (σ.1 0)) (x i : Int32) : AMet Y_X8_leg [.ref 0, .int x, .int i] σ (PC σ (sLeg (σ.1 0) n x i)) := by
  refine am_intro (by decide +kernel) (Nat.le_of_ble_eq_true rfl) (fun K C => ?_)
  have hz := hok.1
  have hn := hok.2.1
  refine aw_aload_n (pc := 0) C 0 dX8_leg_0 rfl ?_
  refine aw_iload_n (pc := 1) C 1 dX8_leg_1 rfl ?_
  refine aw_cVI (pc := 2) C (c_X8_isTeamSet _ n hn hz x ) lk_X8_215 sh0 rfl dX8_leg_2 (by decide) (Nat.le_of_ble_eq_true rfl) rfl rfl ?_
  refine aw_if_eqB (pc := 5) C 17 dX8_leg_5 (by decide) (fun h5 => ?_) (fun h5 => ?_)
  · refine aw_aload_n (pc := 17) C 0 dX8_leg_17 rfl ?_
    refine aw_iconst (pc := 18) (v := 0) C dX8_leg_18 rfl ?_
    refine aw_cVI (pc := 19) C (c_X8_found _ 0 (by omega)) lk_X8_78 sh0 rfl dX8_leg_19 (by decide) (Nat.le_of_ble_eq_true rfl) rfl rfl ?_
    exact aw_iretP (pc := 22) C rfl dX8_leg_22 (pc_of (an' := .inl 0) (by rw [sLeg, if_neg (fun z => h5 z.1)]) rfl rfl)
  · refine aw_iload_n (pc := 8) C 2 dX8_leg_8 rfl ?_
    refine aw_iconst (pc := 9) (v := 0) C dX8_leg_9 rfl ?_
    refine aw_iconst (pc := 10) (v := 2) C dX8_leg_10 rfl ?_
    refine aw_cSI (pc := 11) C (c_X8_within _ i 0 2 ) lk_X8_74 dX8_leg_11 (by decide) (Nat.le_of_ble_eq_true rfl) rfl rfl ?_
    refine aw_if_neB (pc := 14) C 23 dX8_leg_14 (by decide) (fun h14 => ?_) (fun h14 => ?_)
    · obtain ⟨ii, rfl, hii0, hii⟩ := rg 0 2 h14 (by omega) (by omega)
      refine aw_aload_n (pc := 23) C 0 dX8_leg_23 rfl ?_
      refine aw_getR (pc := 24) C fl_X8_43 sh0 rfl dX8_leg_24 ?_
      refine aw_aload_n (pc := 27) C 0 dX8_leg_27 rfl ?_
      refine aw_getR (pc := 28) C fl_X8_16 sh0 rfl dX8_leg_28 ?_
      refine aw_aload_n (pc := 31) C 0 dX8_leg_31 rfl ?_
      refine aw_getR (pc := 32) C fl_X8_29 sh0 rfl dX8_leg_32 ?_
      refine aw_iload_n (pc := 35) C 1 dX8_leg_35 rfl ?_
      refine aw_callV (pc := 36) C (c_X7_choose _  0 (by decide : 0 < 3) n hok x h5.1) lk_X8_218 sh9 rfl (by decide) rfl (Nat.le_of_ble_eq_true rfl) dX8_leg_36 rfl (fun w s hq => ?_)
      obtain ⟨f36, g36, h36x, L36, M36, hQ36, rfl, rfl⟩ := hq
      refine aw_conv (σ' := setR (setR (setR (setR (setR σ 5 (f36)) 6 (g36)) 9 (h36x)) 10 (M36)) 8 (L36)) (st' := [.int (M36 0)]) (by first | with_reducible rfl | (simp (disch := omega) only [setR_at, setR_twice, setL_at, setL_twice, setR_2, setL_1, setR_ne, setL_ne, ne_eq, Nat.reduceEqDiff, not_false_eq_true, pk_us, pk_un]; done) | (simp (disch := omega) only [setR_at, setR_twice, setL_at, setL_twice, setR_2, setL_1, setR_ne, setL_ne, ne_eq, Nat.reduceEqDiff, not_false_eq_true, pk_us, pk_un, Option.toList_some, Option.toList_none, List.cons_append, List.nil_append]; done) | ((try simp (disch := omega) only [setR_at, setR_twice, setL_at, setL_twice, setR_2, setL_1, setR_ne, setL_ne, ne_eq, Nat.reduceEqDiff, not_false_eq_true, pk_us, pk_un]); refine Prod.ext (funext fun z => ?_) rfl; simp only [setR]; (repeat' split) <;> first | with_reducible rfl | (exfalso; omega)) | rfl) rfl (by first | with_reducible rfl | (simp (disch := omega) only [setR_at, setR_twice, setL_at, setL_twice, setR_2, setL_1, setR_ne, setL_ne, ne_eq, Nat.reduceEqDiff, not_false_eq_true, pk_us, pk_un]; done) | (simp (disch := omega) only [setR_at, setR_twice, setL_at, setL_twice, setR_2, setL_1, setR_ne, setL_ne, ne_eq, Nat.reduceEqDiff, not_false_eq_true, pk_us, pk_un, Option.toList_some, Option.toList_none, List.cons_append, List.nil_append]; done) | ((try simp (disch := omega) only [setR_at, setR_twice, setL_at, setL_twice, setR_2, setL_1, setR_ne, setL_ne, ne_eq, Nat.reduceEqDiff, not_false_eq_true, pk_us, pk_un]); refine Prod.ext (funext fun z => ?_) rfl; simp only [setR]; (repeat' split) <;> first | with_reducible rfl | (exfalso; omega)) | rfl) ?_
      refine aw_pop (pc := 39) C dX8_leg_39 rfl ?_
      refine aw_aload_n (pc := 40) C 0 dX8_leg_40 rfl ?_
      refine aw_getR (pc := 41) C fl_X8_43 sh0 rfl dX8_leg_41 ?_
      refine aw_getR (pc := 44) C fl_X8_222 sh9 rfl dX8_leg_44 ?_
      refine aw_iload_n (pc := 47) C 2 dX8_leg_47 rfl ?_
      refine aw_ild (pc := 48) (k := ii) C (ii) (L36 ii) sh10 dX8_leg_48 rfl (by omega) rfl (by first | with_reducible rfl | (simp (disch := omega) only [setR_at, setR_twice, setL_at, setL_twice, setR_2, setL_1, setR_ne, setL_ne, ne_eq, Nat.reduceEqDiff, not_false_eq_true, pk_us, pk_un]; done) | (simp (disch := omega) only [setR_at, setR_twice, setL_at, setL_twice, setR_2, setL_1, setR_ne, setL_ne, ne_eq, Nat.reduceEqDiff, not_false_eq_true, pk_us, pk_un, Option.toList_some, Option.toList_none, List.cons_append, List.nil_append]; done) | ((try simp (disch := omega) only [setR_at, setR_twice, setL_at, setL_twice, setR_2, setL_1, setR_ne, setL_ne, ne_eq, Nat.reduceEqDiff, not_false_eq_true, pk_us, pk_un]); refine Prod.ext (funext fun z => ?_) rfl; simp only [setR]; (repeat' split) <;> first | with_reducible rfl | (exfalso; omega)) | rfl) ?_
      obtain ⟨b, hb⟩ := team_ex (μ := σ.1 0) hz h5
      refine aw_top C (tmL b ii) ((hQ36.2 b hb).2 ii (by omega)) ?_
      exact aw_iretP (pc := 49) C rfl dX8_leg_49 (pc_scr (an' := .inr (tmL b ii, σ.1 0)) (by rw [sLeg, if_pos ⟨h5, h14⟩, hb, cl_nI (show ii < 2147483648 by omega)]) rfl (fun r hr => by simp only [anS, setR]; (repeat' split) <;> first | rfl | (subst_vars; first | rfl | exact absurd (by decide) hr)))
    · refine aw_aload_n (pc := 17) C 0 dX8_leg_17 rfl ?_
      refine aw_iconst (pc := 18) (v := 0) C dX8_leg_18 rfl ?_
      refine aw_cVI (pc := 19) C (c_X8_found _ 0 (by omega)) lk_X8_78 sh0 rfl dX8_leg_19 (by decide) (Nat.le_of_ble_eq_true rfl) rfl rfl ?_
      exact aw_iretP (pc := 22) C rfl dX8_leg_22 (pc_of (an' := .inl 0) (by rw [sLeg, if_neg (fun z => h14 z.2)]) rfl rfl)
theorem c_X8_pace (σ : St) (n : Nat) (hok : Ok n (σ.1 0)) (r a b v : Int32) : AMet Y_X8_pace [.ref 0, .int r, .int a, .int b, .int v] σ (PC σ (sPace (σ.1 0) n r a b v)) := by
  refine am_intro (by decide +kernel) (Nat.le_of_ble_eq_true rfl) (fun K C => ?_)
  have hz := hok.1
  have hn := hok.2.1
  refine aw_aload_n (pc := 0) C 0 dX8_pace_0 rfl ?_
  refine aw_iload_n (pc := 1) C 1 dX8_pace_1 rfl ?_
  refine aw_cVI (pc := 2) C (c_X8_isRunner _ n hn hz r ) lk_X8_96 sh0 rfl dX8_pace_2 (by decide) (Nat.le_of_ble_eq_true rfl) rfl rfl ?_
  refine aw_if_eqB (pc := 5) C 35 dX8_pace_5 (by decide) (fun h5 => ?_) (fun h5 => ?_)
  · refine aw_aload_n (pc := 35) C 0 dX8_pace_35 rfl ?_
    refine aw_iconst (pc := 36) (v := 0) C dX8_pace_36 rfl ?_
    refine aw_cVI (pc := 37) C (c_X8_found _ 0 (by omega)) lk_X8_78 sh0 rfl dX8_pace_37 (by decide) (Nat.le_of_ble_eq_true rfl) rfl rfl ?_
    exact aw_iretP (pc := 40) C rfl dX8_pace_40 (pc_of (an' := .inl 0) (by rw [sPace, if_neg (fun z => h5 (z.1))]) rfl rfl)
  · refine aw_iload_n (pc := 8) C 2 dX8_pace_8 rfl ?_
    refine aw_cSI (pc := 9) C (c_X8_isYard _ a ) lk_X8_70 dX8_pace_9 (by decide) (Nat.le_of_ble_eq_true rfl) rfl rfl ?_
    refine aw_if_eqB (pc := 12) C 35 dX8_pace_12 (by decide) (fun h12 => ?_) (fun h12 => ?_)
    · refine aw_aload_n (pc := 35) C 0 dX8_pace_35 rfl ?_
      refine aw_iconst (pc := 36) (v := 0) C dX8_pace_36 rfl ?_
      refine aw_cVI (pc := 37) C (c_X8_found _ 0 (by omega)) lk_X8_78 sh0 rfl dX8_pace_37 (by decide) (Nat.le_of_ble_eq_true rfl) rfl rfl ?_
      exact aw_iretP (pc := 40) C rfl dX8_pace_40 (pc_of (an' := .inl 0) (by rw [sPace, if_neg (fun z => h12 (z.2.1))]) rfl rfl)
    · refine aw_iload_n (pc := 15) C 3 dX8_pace_15 rfl ?_
      refine aw_cSI (pc := 16) C (c_X8_isYard _ b ) lk_X8_70 dX8_pace_16 (by decide) (Nat.le_of_ble_eq_true rfl) rfl rfl ?_
      refine aw_if_eqB (pc := 19) C 35 dX8_pace_19 (by decide) (fun h19 => ?_) (fun h19 => ?_)
      · refine aw_aload_n (pc := 35) C 0 dX8_pace_35 rfl ?_
        refine aw_iconst (pc := 36) (v := 0) C dX8_pace_36 rfl ?_
        refine aw_cVI (pc := 37) C (c_X8_found _ 0 (by omega)) lk_X8_78 sh0 rfl dX8_pace_37 (by decide) (Nat.le_of_ble_eq_true rfl) rfl rfl ?_
        exact aw_iretP (pc := 40) C rfl dX8_pace_40 (pc_of (an' := .inl 0) (by rw [sPace, if_neg (fun z => h19 (z.2.2.1))]) rfl rfl)
      · refine aw_iload_n (pc := 22) C 3 dX8_pace_22 rfl ?_
        refine aw_iload_n (pc := 23) C 2 dX8_pace_23 rfl ?_
        refine aw_icmp_lt (pc := 24) C 35 dX8_pace_24 (by decide) (fun h24 => ?_) (fun h24 => ?_)
        · refine aw_aload_n (pc := 35) C 0 dX8_pace_35 rfl ?_
          refine aw_iconst (pc := 36) (v := 0) C dX8_pace_36 rfl ?_
          refine aw_cVI (pc := 37) C (c_X8_found _ 0 (by omega)) lk_X8_78 sh0 rfl dX8_pace_37 (by decide) (Nat.le_of_ble_eq_true rfl) rfl rfl ?_
          exact aw_iretP (pc := 40) C rfl dX8_pace_40 (pc_of (an' := .inl 0) (by rw [sPace, if_neg (fun z => z.2.2.2.1 h24)]) rfl rfl)
        · refine aw_iload (pc := 27) C 4 dX8_pace_27 rfl ?_
          refine aw_cSI (pc := 29) C (c_X8_isPace _ v ) lk_X8_115 dX8_pace_29 (by decide) (Nat.le_of_ble_eq_true rfl) rfl rfl ?_
          refine aw_if_neB (pc := 32) C 41 dX8_pace_32 (by decide) (fun h32 => ?_) (fun h32 => ?_)
          · obtain ⟨rr, rfl, hrr⟩ := rgR h5 hz
            obtain ⟨aa, rfl, haa0, haa⟩ := rg 0 29 h12 (by omega) (by omega)
            obtain ⟨bb, rfl, hbb0, hbb⟩ := rg 0 29 h19 (by omega) (by omega)
            have hab : aa ≤ bb := by rcases Nat.lt_or_ge bb aa with z | z; exact absurd (nI_lt z (by omega)) h24; exact z
            refine aw_aload_n (pc := 41) C 0 dX8_pace_41 rfl ?_
            refine aw_getR (pc := 42) C fl_X8_16 sh0 rfl dX8_pace_42 ?_
            refine aw_getR (pc := 45) C fl_X8_99 (shM (by decide : 0 < 3)) rfl dX8_pace_45 ?_
            refine aw_iload_n (pc := 48) C 1 dX8_pace_48 rfl ?_
            refine aw_aald (pc := 49) (k := rr) C (shRs (by decide : 0 < 3)) dX8_pace_49 rfl (by omega) ?_
            refine aw_getR (pc := 50) C fl_X8_118 (shR (by decide : 0 < 3) (by omega)) rfl dX8_pace_50 ?_
            refine aw_astore (pc := 53) C [(5, .ref (30 + 2 * rr)), (0, .ref 0), (1, .int (nI rr)), (2, .int (nI aa)), (3, .int (nI bb)), (4, .int v)] dX8_pace_53 (Nat.le_of_ble_eq_true rfl) rfl ?_
            refine aw_iconst (pc := 55) (v := 0) C dX8_pace_55 rfl ?_
            refine aw_istore (pc := 56) C [(6, .int 0), (5, .ref (30 + 2 * rr)), (0, .ref 0), (1, .int (nI rr)), (2, .int (nI aa)), (3, .int (nI bb)), (4, .int v)] dX8_pace_56 (Nat.le_of_ble_eq_true rfl) rfl ?_
            refine aw_iload_n (pc := 58) C 4 dX8_pace_58 rfl ?_
            refine aw_istore (pc := 59) C [(7, .int (nI aa)), (6, .int 0), (5, .ref (30 + 2 * rr)), (0, .ref 0), (1, .int (nI rr)), (2, .int (nI aa)), (3, .int (nI bb)), (4, .int v)] dX8_pace_59 (Nat.le_of_ble_eq_true rfl) rfl ?_
            refine aw_lvs C [0, 1, 2, 3, 4, 5, 6, 7] [(7, .int (nI aa)), (6, .int 0), (5, .ref (30 + 2 * rr)), (0, .ref 0), (1, .int (nI rr)), (2, .int (nI aa)), (3, .int (nI bb)), (4, .int v)] rfl ?_
            refine aw_conv (σ' := setR σ 0 (paceM (σ.1 0) rr aa v 0)) (lv' := [(7, .int (nI (aa + 0))), (6, .int (paceC (σ.1 0) rr aa v 0)), (5, .ref (30 + 2 * rr)), (0, .ref 0), (1, .int (nI rr)), (2, .int (nI aa)), (3, .int (nI bb)), (4, .int v)]) (setR_same σ 0).symm rfl rfl ?_
            refine loop_up (P := fun k => AW _ K _ (setR σ 0 (paceM (σ.1 0) rr aa v k)) 61 [(7, .int (nI (aa + k))), (6, .int (paceC (σ.1 0) rr aa v k)), (5, .ref (30 + 2 * rr)), (0, .ref 0), (1, .int (nI rr)), (2, .int (nI aa)), (3, .int (nI bb)), (4, .int v)] []) (bb + 1 - aa) ?_ ?_ 0 (by omega) 
            · refine aw_iload (pc := 61) C 0 dX8_pace_61 rfl ?_
              refine aw_iload_n (pc := 63) C 6 dX8_pace_63 rfl ?_
              refine aw_icmp_gtN (pc := 64) C (aa + (bb + 1 - aa)) bb 100 rfl rfl (by omega) (by omega) dX8_pace_64 (by decide) (fun h64 => ?_) (fun h64 => absurd h64 (by omega))
              refine aw_iload (pc := 100) C 1 dX8_pace_100 rfl ?_
              exact aw_iretP (pc := 102) C rfl dX8_pace_102 (pc_of (an' := .inr (paceC (σ.1 0) rr aa v (bb + 1 - aa), paceM (σ.1 0) rr aa v (bb + 1 - aa))) (by rw [sPace, if_pos ⟨h5, h12, h19, h24, h32⟩, cl_nI (show rr < 2147483648 by omega), cl_nI (show aa < 2147483648 by omega), cl_nI (show bb < 2147483648 by omega)]) rfl rfl)
            · intro k hk61 ih61 
              refine aw_iload (pc := 61) C 0 dX8_pace_61 rfl ?_
              refine aw_iload_n (pc := 63) C 6 dX8_pace_63 rfl ?_
              refine aw_icmp_gtN (pc := 64) C (aa + k) bb 100 rfl rfl (by omega) (by omega) dX8_pace_64 (by decide) (fun h64 => absurd h64 (by omega)) (fun h64 => ?_)
              refine aw_iload (pc := 67) C 1 dX8_pace_67 rfl ?_
              refine aw_aload (pc := 69) C 2 dX8_pace_69 rfl ?_
              refine aw_iload (pc := 71) C 0 dX8_pace_71 rfl ?_
              refine aw_ild (pc := 73) (k := aa + k) C (33 + 37 * rr + (7 + (aa + k))) ((paceM (σ.1 0) rr aa v k) (33 + 37 * rr + (7 + (aa + k)))) (shP (by decide : 0 < 3) (by omega)) dX8_pace_73 rfl (by omega) (by omega) (by first | with_reducible rfl | (simp (disch := omega) only [setR_at, setR_twice, setL_at, setL_twice, setR_2, setL_1, setR_ne, setL_ne, ne_eq, Nat.reduceEqDiff, not_false_eq_true, pk_us, pk_un]; done) | (simp (disch := omega) only [setR_at, setR_twice, setL_at, setL_twice, setR_2, setL_1, setR_ne, setL_ne, ne_eq, Nat.reduceEqDiff, not_false_eq_true, pk_us, pk_un, Option.toList_some, Option.toList_none, List.cons_append, List.nil_append]; done) | ((try simp (disch := omega) only [setR_at, setR_twice, setL_at, setL_twice, setR_2, setL_1, setR_ne, setL_ne, ne_eq, Nat.reduceEqDiff, not_false_eq_true, pk_us, pk_un]); refine Prod.ext (funext fun z => ?_) rfl; simp only [setR]; (repeat' split) <;> first | with_reducible rfl | (exfalso; omega)) | rfl) ?_
              refine aw_top C (σ.1 0 (33 + 37 * rr + 7 + (aa + k))) ((paceM_off (by omega)).trans (by rw [show 33 + 37 * rr + (7 + (aa + k)) = 33 + 37 * rr + 7 + (aa + k) by omega])) ?_
              refine aw_iload (pc := 74) C 7 dX8_pace_74 rfl ?_
              refine aw_icmp_ne (pc := 76) C 83 dX8_pace_76 (by decide) (fun h76 => ?_) (fun h76 => ?_)
              · refine aw_iconst (pc := 83) (v := 1) C dX8_pace_83 rfl ?_
                refine aw_iadd (pc := 84) C dX8_pace_84 ?_
                refine aw_istore (pc := 85) C [(6, .int ((paceC (σ.1 0) rr aa v k) + 1)), (7, .int (nI (aa + k))), (5, .ref (30 + 2 * rr)), (0, .ref 0), (1, .int (nI rr)), (2, .int (nI aa)), (3, .int (nI bb)), (4, .int v)] dX8_pace_85 (Nat.le_of_ble_eq_true rfl) rfl ?_
                refine aw_aload (pc := 87) C 2 dX8_pace_87 rfl ?_
                refine aw_iload (pc := 89) C 1 dX8_pace_89 rfl ?_
                refine aw_iload (pc := 91) C 7 dX8_pace_91 rfl ?_
                refine aw_ist (pc := 93) (k := aa + k) C (33 + 37 * rr + (7 + (aa + k))) (setR σ 0 (upd (paceM (σ.1 0) rr aa v k) (33 + 37 * rr + (7 + (aa + k))) (v))) (shP (by decide : 0 < 3) (by omega)) dX8_pace_93 rfl (by omega) (by omega) (by first | with_reducible rfl | (simp (disch := omega) only [setR_at, setR_twice, setL_at, setL_twice, setR_2, setL_1, setR_ne, setL_ne, ne_eq, Nat.reduceEqDiff, not_false_eq_true, pk_us, pk_un]; done) | (simp (disch := omega) only [setR_at, setR_twice, setL_at, setL_twice, setR_2, setL_1, setR_ne, setL_ne, ne_eq, Nat.reduceEqDiff, not_false_eq_true, pk_us, pk_un, Option.toList_some, Option.toList_none, List.cons_append, List.nil_append]; done) | ((try simp (disch := omega) only [setR_at, setR_twice, setL_at, setL_twice, setR_2, setL_1, setR_ne, setL_ne, ne_eq, Nat.reduceEqDiff, not_false_eq_true, pk_us, pk_un]); refine Prod.ext (funext fun z => ?_) rfl; simp only [setR]; (repeat' split) <;> first | with_reducible rfl | (exfalso; omega)) | rfl) ?_
                refine aw_iincN (pc := 94) C 1 (aa + k) [(7, .int (nI (aa + k + 1))), (6, .int ((paceC (σ.1 0) rr aa v k) + 1)), (5, .ref (30 + 2 * rr)), (0, .ref 0), (1, .int (nI rr)), (2, .int (nI aa)), (3, .int (nI bb)), (4, .int v)] dX8_pace_94 rfl rfl rfl (Nat.le_of_ble_eq_true rfl) rfl ?_
                refine aw_goto (pc := 97) C 61 dX8_pace_97 (by decide) ?_
                refine aw_lvs C [0, 1, 2, 3, 4, 5, 6, 7] [(7, .int (nI (aa + k + 1))), (6, .int ((paceC (σ.1 0) rr aa v k) + 1)), (5, .ref (30 + 2 * rr)), (0, .ref 0), (1, .int (nI rr)), (2, .int (nI aa)), (3, .int (nI bb)), (4, .int v)] rfl ?_
                exact aw_conv (σ' := setR σ 0 (paceM (σ.1 0) rr aa v (k + 1))) (lv' := [(7, .int (nI (aa + (k + 1)))), (6, .int (paceC (σ.1 0) rr aa v (k + 1))), (5, .ref (30 + 2 * rr)), (0, .ref 0), (1, .int (nI rr)), (2, .int (nI aa)), (3, .int (nI bb)), (4, .int v)]) (by rw [paceM, show 33 + 37 * rr + 7 + (aa + k) = 33 + 37 * rr + (7 + (aa + k)) by omega]) (by rw [paceC, if_neg h76]; rfl) rfl ih61
              · refine aw_iconst (pc := 79) (v := 0) C dX8_pace_79 rfl ?_
                refine aw_goto (pc := 80) C 84 dX8_pace_80 (by decide) ?_
                refine aw_iadd (pc := 84) C dX8_pace_84 ?_
                refine aw_istore (pc := 85) C [(6, .int ((paceC (σ.1 0) rr aa v k) + 0)), (7, .int (nI (aa + k))), (5, .ref (30 + 2 * rr)), (0, .ref 0), (1, .int (nI rr)), (2, .int (nI aa)), (3, .int (nI bb)), (4, .int v)] dX8_pace_85 (Nat.le_of_ble_eq_true rfl) rfl ?_
                refine aw_aload (pc := 87) C 2 dX8_pace_87 rfl ?_
                refine aw_iload (pc := 89) C 1 dX8_pace_89 rfl ?_
                refine aw_iload (pc := 91) C 7 dX8_pace_91 rfl ?_
                refine aw_ist (pc := 93) (k := aa + k) C (33 + 37 * rr + (7 + (aa + k))) (setR σ 0 (upd (paceM (σ.1 0) rr aa v k) (33 + 37 * rr + (7 + (aa + k))) (v))) (shP (by decide : 0 < 3) (by omega)) dX8_pace_93 rfl (by omega) (by omega) (by first | with_reducible rfl | (simp (disch := omega) only [setR_at, setR_twice, setL_at, setL_twice, setR_2, setL_1, setR_ne, setL_ne, ne_eq, Nat.reduceEqDiff, not_false_eq_true, pk_us, pk_un]; done) | (simp (disch := omega) only [setR_at, setR_twice, setL_at, setL_twice, setR_2, setL_1, setR_ne, setL_ne, ne_eq, Nat.reduceEqDiff, not_false_eq_true, pk_us, pk_un, Option.toList_some, Option.toList_none, List.cons_append, List.nil_append]; done) | ((try simp (disch := omega) only [setR_at, setR_twice, setL_at, setL_twice, setR_2, setL_1, setR_ne, setL_ne, ne_eq, Nat.reduceEqDiff, not_false_eq_true, pk_us, pk_un]); refine Prod.ext (funext fun z => ?_) rfl; simp only [setR]; (repeat' split) <;> first | with_reducible rfl | (exfalso; omega)) | rfl) ?_
                refine aw_iincN (pc := 94) C 1 (aa + k) [(7, .int (nI (aa + k + 1))), (6, .int ((paceC (σ.1 0) rr aa v k) + 0)), (5, .ref (30 + 2 * rr)), (0, .ref 0), (1, .int (nI rr)), (2, .int (nI aa)), (3, .int (nI bb)), (4, .int v)] dX8_pace_94 rfl rfl rfl (Nat.le_of_ble_eq_true rfl) rfl ?_
                refine aw_goto (pc := 97) C 61 dX8_pace_97 (by decide) ?_
                refine aw_lvs C [0, 1, 2, 3, 4, 5, 6, 7] [(7, .int (nI (aa + k + 1))), (6, .int ((paceC (σ.1 0) rr aa v k) + 0)), (5, .ref (30 + 2 * rr)), (0, .ref 0), (1, .int (nI rr)), (2, .int (nI aa)), (3, .int (nI bb)), (4, .int v)] rfl ?_
                exact aw_conv (σ' := setR σ 0 (paceM (σ.1 0) rr aa v (k + 1))) (lv' := [(7, .int (nI (aa + (k + 1)))), (6, .int (paceC (σ.1 0) rr aa v (k + 1))), (5, .ref (30 + 2 * rr)), (0, .ref 0), (1, .int (nI rr)), (2, .int (nI aa)), (3, .int (nI bb)), (4, .int v)]) (by rw [paceM, show 33 + 37 * rr + 7 + (aa + k) = 33 + 37 * rr + (7 + (aa + k)) by omega]) (by rw [paceC, if_pos h76]; rfl) rfl ih61
          · refine aw_aload_n (pc := 35) C 0 dX8_pace_35 rfl ?_
            refine aw_iconst (pc := 36) (v := 0) C dX8_pace_36 rfl ?_
            refine aw_cVI (pc := 37) C (c_X8_found _ 0 (by omega)) lk_X8_78 sh0 rfl dX8_pace_37 (by decide) (Nat.le_of_ble_eq_true rfl) rfl rfl ?_
            exact aw_iretP (pc := 40) C rfl dX8_pace_40 (pc_of (an' := .inl 0) (by rw [sPace, if_neg (fun z => h32 (z.2.2.2.2))]) rfl rfl)
theorem c_X8_wipe (σ : St) (t : Nat) (ht : σ.1 13 0 = nI t) : AMet Y_X8_wipe [.ref 0] σ (fz (some (.int (nI t))) (setR σ 13 (upd (σ.1 13) 0 0))) := by
  refine am_intro (by decide +kernel) (Nat.le_of_ble_eq_true rfl) (fun K C => ?_)
  refine aw_aload_n (pc := 0) C 0 dX8_wipe_0 rfl ?_
  refine aw_getR (pc := 1) C fl_X8_58 sh0 rfl dX8_wipe_1 ?_
  refine aw_gld (pc := 4) C (σ.1 13 0) fl_X8_237 sh13 rfl dX8_wipe_4 rfl ?_
  refine aw_istore_n (pc := 7) C [(1, .int (σ.1 13 0)), (0, .ref 0)] dX8_wipe_7 (Nat.le_of_ble_eq_true rfl) rfl ?_
  refine aw_aload_n (pc := 8) C 1 dX8_wipe_8 rfl ?_
  refine aw_getR (pc := 9) C fl_X8_58 sh0 rfl dX8_wipe_9 ?_
  refine aw_iconst (pc := 12) (v := 0) C dX8_wipe_12 rfl ?_
  refine aw_pst (pc := 13) C (setR σ 13 (upd (σ.1 13) 0 (0))) fp_X8_237 sh13 rfl dX8_wipe_13 rfl ?_
  refine aw_iload_n (pc := 16) C 0 dX8_wipe_16 rfl ?_
  exact aw_iret (pc := 17) C rfl dX8_wipe_17 ht rfl
