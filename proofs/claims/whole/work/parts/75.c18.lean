/-! the class: calls of the field, of RUNNERS, of the race -/
theorem c_X8_ground (σ : St) (n : Nat) (hok : Ok n (σ.1 0)) (yard v : Int32) : AMet Y_X8_ground [.ref 0, .int yard, .int v] σ (PC σ (sGround (σ.1 0) yard v)) := by
  refine am_intro (by decide +kernel) (Nat.le_of_ble_eq_true rfl) (fun K C => ?_)
  have hz := hok.1
  have hn := hok.2.1
  refine aw_iload_n (pc := 0) C 1 dX8_ground_0 rfl ?_
  refine aw_cSI (pc := 1) C (c_X8_isYard _ yard ) lk_X8_70 dX8_ground_1 (by decide) (Nat.le_of_ble_eq_true rfl) rfl rfl ?_
  refine aw_if_eqB (pc := 4) C 16 dX8_ground_4 (by decide) (fun h4 => ?_) (fun h4 => ?_)
  · refine aw_aload_n (pc := 16) C 0 dX8_ground_16 rfl ?_
    refine aw_iconst (pc := 17) (v := 0) C dX8_ground_17 rfl ?_
    refine aw_cVI (pc := 18) C (c_X8_found _ 0 (by omega)) lk_X8_78 sh0 rfl dX8_ground_18 (by decide) (Nat.le_of_ble_eq_true rfl) rfl rfl ?_
    exact aw_iretP (pc := 21) C rfl dX8_ground_21 (pc_of (an' := .inl 0) (by rw [sGround, if_neg (fun z => h4 (z.1))]) rfl rfl)
  · refine aw_iload_n (pc := 7) C 2 dX8_ground_7 rfl ?_
    refine aw_iconst (pc := 8) (v := 0) C dX8_ground_8 rfl ?_
    refine aw_iconst (pc := 9) (v := 4) C dX8_ground_9 rfl ?_
    refine aw_cSI (pc := 10) C (c_X8_within _ v 0 4 ) lk_X8_74 dX8_ground_10 (by decide) (Nat.le_of_ble_eq_true rfl) rfl rfl ?_
    refine aw_if_neB (pc := 13) C 22 dX8_ground_13 (by decide) (fun h13 => ?_) (fun h13 => ?_)
    · obtain ⟨y, rfl, hy0, hy⟩ := rg 0 29 h4 (by omega) (by omega)
      refine aw_aload_n (pc := 22) C 0 dX8_ground_22 rfl ?_
      refine aw_getR (pc := 23) C fl_X8_16 sh0 rfl dX8_ground_23 ?_
      refine aw_getR (pc := 26) C fl_X8_82 (shM (by decide : 0 < 3)) rfl dX8_ground_26 ?_
      refine aw_iload_n (pc := 29) C 1 dX8_ground_29 rfl ?_
      refine aw_ild (pc := 30) (k := y) C (3 + y) (σ.1 0 (3 + y)) (shG (by decide : 0 < 3)) dX8_ground_30 rfl (by omega) (by omega) rfl ?_
      refine aw_istore_n (pc := 31) C [(3, .int (σ.1 0 (3 + y))), (0, .ref 0), (1, .int (nI y)), (2, .int v)] dX8_ground_31 (Nat.le_of_ble_eq_true rfl) rfl ?_
      refine aw_aload_n (pc := 32) C 1 dX8_ground_32 rfl ?_
      refine aw_getR (pc := 33) C fl_X8_16 sh0 rfl dX8_ground_33 ?_
      refine aw_getR (pc := 36) C fl_X8_82 (shM (by decide : 0 < 3)) rfl dX8_ground_36 ?_
      refine aw_iload_n (pc := 39) C 2 dX8_ground_39 rfl ?_
      refine aw_iload_n (pc := 40) C 3 dX8_ground_40 rfl ?_
      refine aw_ist (pc := 41) (k := y) C (3 + y) (setR σ 0 (upd (σ.1 0) (3 + y) (v))) (shG (by decide : 0 < 3)) dX8_ground_41 rfl (by omega) (by omega) rfl ?_
      refine aw_iload_n (pc := 42) C 0 dX8_ground_42 rfl ?_
      exact aw_iretP (pc := 43) C rfl dX8_ground_43 (pc_of (an' := .inr (σ.1 0 (3 + y), upd (σ.1 0) (3 + y) (v))) (by rw [sGround, if_pos ⟨h4, h13⟩, cl_nI (show y < 2147483648 by omega)]) rfl rfl)
    · refine aw_aload_n (pc := 16) C 0 dX8_ground_16 rfl ?_
      refine aw_iconst (pc := 17) (v := 0) C dX8_ground_17 rfl ?_
      refine aw_cVI (pc := 18) C (c_X8_found _ 0 (by omega)) lk_X8_78 sh0 rfl dX8_ground_18 (by decide) (Nat.le_of_ble_eq_true rfl) rfl rfl ?_
      exact aw_iretP (pc := 21) C rfl dX8_ground_21 (pc_of (an' := .inl 0) (by rw [sGround, if_neg (fun z => h13 (z.2))]) rfl rfl)
theorem c_X8_pick (σ : St) (n : Nat) (hok : Ok n (σ.1 0)) (v : Int32) : AMet Y_X8_pick [.ref 0, .int v] σ (PC σ (sPick (σ.1 0) v)) := by
  refine am_intro (by decide +kernel) (Nat.le_of_ble_eq_true rfl) (fun K C => ?_)
  have hz := hok.1
  have hn := hok.2.1
  refine aw_iload_n (pc := 0) C 1 dX8_pick_0 rfl ?_
  refine aw_iconst (pc := 1) (v := 0) C dX8_pick_1 rfl ?_
  refine aw_bipush (pc := 2) (v := 99) C dX8_pick_2 rfl ?_
  refine aw_cSI (pc := 4) C (c_X8_within _ v 0 99 ) lk_X8_74 dX8_pick_4 (by decide) (Nat.le_of_ble_eq_true rfl) rfl rfl ?_
  refine aw_if_neB (pc := 7) C 16 dX8_pick_7 (by decide) (fun h7 => ?_) (fun h7 => ?_)
  · refine aw_aload_n (pc := 16) C 0 dX8_pick_16 rfl ?_
    refine aw_getR (pc := 17) C fl_X8_16 sh0 rfl dX8_pick_17 ?_
    refine aw_gld (pc := 20) C (σ.1 0 0) fl_X8_85 (shM (by decide : 0 < 3)) rfl dX8_pick_20 rfl ?_
    refine aw_istore_n (pc := 23) C [(2, .int (σ.1 0 0)), (0, .ref 0), (1, .int v)] dX8_pick_23 (Nat.le_of_ble_eq_true rfl) rfl ?_
    refine aw_aload_n (pc := 24) C 1 dX8_pick_24 rfl ?_
    refine aw_getR (pc := 25) C fl_X8_16 sh0 rfl dX8_pick_25 ?_
    refine aw_iload_n (pc := 28) C 2 dX8_pick_28 rfl ?_
    refine aw_pst (pc := 29) C (setR σ 0 (upd (σ.1 0) 0 (v))) fp_X8_85 (shM (by decide : 0 < 3)) rfl dX8_pick_29 rfl ?_
    refine aw_iload_n (pc := 32) C 0 dX8_pick_32 rfl ?_
    exact aw_iretP (pc := 33) C rfl dX8_pick_33 (pc_of (an' := .inr (σ.1 0 0, upd (σ.1 0) 0 (v))) (by rw [sPick, if_pos h7]) rfl rfl)
  · refine aw_aload_n (pc := 10) C 0 dX8_pick_10 rfl ?_
    refine aw_iconst (pc := 11) (v := 0) C dX8_pick_11 rfl ?_
    refine aw_cVI (pc := 12) C (c_X8_found _ 0 (by omega)) lk_X8_78 sh0 rfl dX8_pick_12 (by decide) (Nat.le_of_ble_eq_true rfl) rfl rfl ?_
    exact aw_iretP (pc := 15) C rfl dX8_pick_15 (pc_of (an' := .inl 0) (by rw [sPick, if_neg (fun z => h7 (z))]) rfl rfl)
theorem c_X8_runner (σ : St) (n : Nat) (hok : Ok n (σ.1 0)) (k a s : Int32) : AMet Y_X8_runner [.ref 0, .int k, .int a, .int s] σ (PC σ (sRunner (σ.1 0) n k a s)) := by
  refine am_intro (by decide +kernel) (Nat.le_of_ble_eq_true rfl) (fun K C => ?_)
  have hz := hok.1
  have hn := hok.2.1
  refine aw_iload_n (pc := 0) C 1 dX8_runner_0 rfl ?_
  refine aw_iconst (pc := 1) (v := 0) C dX8_runner_1 rfl ?_
  refine aw_bipush (pc := 2) (v := 6) C dX8_runner_2 rfl ?_
  refine aw_cSI (pc := 4) C (c_X8_within _ k 0 6 ) lk_X8_74 dX8_runner_4 (by decide) (Nat.le_of_ble_eq_true rfl) rfl rfl ?_
  refine aw_if_eqB (pc := 7) C 29 dX8_runner_7 (by decide) (fun h7 => ?_) (fun h7 => ?_)
  · refine aw_aload_n (pc := 29) C 0 dX8_runner_29 rfl ?_
    refine aw_iconst (pc := 30) (v := 0) C dX8_runner_30 rfl ?_
    refine aw_cVI (pc := 31) C (c_X8_found _ 0 (by omega)) lk_X8_78 sh0 rfl dX8_runner_31 (by decide) (Nat.le_of_ble_eq_true rfl) rfl rfl ?_
    exact aw_iretP (pc := 34) C rfl dX8_runner_34 (pc_of (an' := .inl 0) (by rw [sRunner, if_neg (fun z => h7 (z.1))]) rfl rfl)
  · refine aw_iload_n (pc := 10) C 2 dX8_runner_10 rfl ?_
    refine aw_iconst (pc := 11) (v := 0) C dX8_runner_11 rfl ?_
    refine aw_bipush (pc := 12) (v := 9) C dX8_runner_12 rfl ?_
    refine aw_cSI (pc := 14) C (c_X8_within _ a 0 9 ) lk_X8_74 dX8_runner_14 (by decide) (Nat.le_of_ble_eq_true rfl) rfl rfl ?_
    refine aw_if_eqB (pc := 17) C 29 dX8_runner_17 (by decide) (fun h17 => ?_) (fun h17 => ?_)
    · refine aw_aload_n (pc := 29) C 0 dX8_runner_29 rfl ?_
      refine aw_iconst (pc := 30) (v := 0) C dX8_runner_30 rfl ?_
      refine aw_cVI (pc := 31) C (c_X8_found _ 0 (by omega)) lk_X8_78 sh0 rfl dX8_runner_31 (by decide) (Nat.le_of_ble_eq_true rfl) rfl rfl ?_
      exact aw_iretP (pc := 34) C rfl dX8_runner_34 (pc_of (an' := .inl 0) (by rw [sRunner, if_neg (fun z => h17 (z.2.1))]) rfl rfl)
    · refine aw_iload_n (pc := 20) C 3 dX8_runner_20 rfl ?_
      refine aw_iconst (pc := 21) (v := 0) C dX8_runner_21 rfl ?_
      refine aw_iconst (pc := 22) (v := 5) C dX8_runner_22 rfl ?_
      refine aw_cSI (pc := 23) C (c_X8_within _ s 0 5 ) lk_X8_74 dX8_runner_23 (by decide) (Nat.le_of_ble_eq_true rfl) rfl rfl ?_
      refine aw_if_neB (pc := 26) C 35 dX8_runner_26 (by decide) (fun h26 => ?_) (fun h26 => ?_)
      · refine aw_aload_n (pc := 35) C 0 dX8_runner_35 rfl ?_
        refine aw_getR (pc := 36) C fl_X8_16 sh0 rfl dX8_runner_36 ?_
        refine aw_gld (pc := 39) C (σ.1 0 2) fl_X8_89 (shM (by decide : 0 < 3)) rfl dX8_runner_39 rfl ?_
        refine aw_top C (nI (n)) hn ?_
        refine aw_bipush (pc := 42) (v := 6) C dX8_runner_42 rfl ?_
        refine aw_icmp_ltN (pc := 44) C n 6 53 rfl rfl (by omega) (by omega) dX8_runner_44 (by decide) (fun h44 => ?_) (fun h44 => ?_)
        · refine aw_aload_n (pc := 53) C 0 dX8_runner_53 rfl ?_
          refine aw_getR (pc := 54) C fl_X8_16 sh0 rfl dX8_runner_54 ?_
          refine aw_iload_n (pc := 57) C 1 dX8_runner_57 rfl ?_
          refine aw_iload_n (pc := 58) C 2 dX8_runner_58 rfl ?_
          refine aw_iload_n (pc := 59) C 3 dX8_runner_59 rfl ?_
          refine aw_cVI (pc := 60) C (c_X2_add _ 0 (by decide : 0 < 3) n hn (by omega) k a s) lk_X8_92 (shM (by decide : 0 < 3)) rfl dX8_runner_60 (by decide) (Nat.le_of_ble_eq_true rfl) rfl rfl ?_
          exact aw_iretP (pc := 63) C rfl dX8_runner_63 (pc_of (an' := .inr (nI (n), newR (σ.1 0) n k a s 4)) (by rw [sRunner, if_pos ⟨h7, h17, h26⟩, if_neg (show ¬ n = 6 by omega)]) rfl rfl)
        · refine aw_aload_n (pc := 47) C 0 dX8_runner_47 rfl ?_
          refine aw_iconst (pc := 48) (v := 1) C dX8_runner_48 rfl ?_
          refine aw_cVI (pc := 49) C (c_X8_found _ 1 (by omega)) lk_X8_78 sh0 rfl dX8_runner_49 (by decide) (Nat.le_of_ble_eq_true rfl) rfl rfl ?_
          exact aw_iretP (pc := 52) C rfl dX8_runner_52 (pc_of (an' := .inl 1) (by rw [sRunner, if_pos ⟨h7, h17, h26⟩, if_pos (show n = 6 by omega)]) rfl rfl)
      · refine aw_aload_n (pc := 29) C 0 dX8_runner_29 rfl ?_
        refine aw_iconst (pc := 30) (v := 0) C dX8_runner_30 rfl ?_
        refine aw_cVI (pc := 31) C (c_X8_found _ 0 (by omega)) lk_X8_78 sh0 rfl dX8_runner_31 (by decide) (Nat.le_of_ble_eq_true rfl) rfl rfl ?_
        exact aw_iretP (pc := 34) C rfl dX8_runner_34 (pc_of (an' := .inl 0) (by rw [sRunner, if_neg (fun z => h26 (z.2.2))]) rfl rfl)
theorem c_X8_of (σ : St) (n : Nat) (hok : Ok n (σ.1 0)) (r w : Int32) : AMet Y_X8_of [.ref 0, .int r, .int w] σ (PC σ (sOf (σ.1 0) n r w)) := by
  refine am_intro (by decide +kernel) (Nat.le_of_ble_eq_true rfl) (fun K C => ?_)
  have hz := hok.1
  have hn := hok.2.1
  refine aw_aload_n (pc := 0) C 0 dX8_of_0 rfl ?_
  refine aw_iload_n (pc := 1) C 1 dX8_of_1 rfl ?_
  refine aw_cVI (pc := 2) C (c_X8_isRunner _ n hn hz r ) lk_X8_96 sh0 rfl dX8_of_2 (by decide) (Nat.le_of_ble_eq_true rfl) rfl rfl ?_
  refine aw_if_eqB (pc := 5) C 18 dX8_of_5 (by decide) (fun h5 => ?_) (fun h5 => ?_)
  · refine aw_aload_n (pc := 18) C 0 dX8_of_18 rfl ?_
    refine aw_iconst (pc := 19) (v := 0) C dX8_of_19 rfl ?_
    refine aw_cVI (pc := 20) C (c_X8_found _ 0 (by omega)) lk_X8_78 sh0 rfl dX8_of_20 (by decide) (Nat.le_of_ble_eq_true rfl) rfl rfl ?_
    exact aw_iretP (pc := 23) C rfl dX8_of_23 (pc_of (an' := .inl 0) (by rw [sOf, if_neg (fun z => h5 (z.1))]) rfl rfl)
  · refine aw_iload_n (pc := 8) C 2 dX8_of_8 rfl ?_
    refine aw_iconst (pc := 9) (v := 0) C dX8_of_9 rfl ?_
    refine aw_bipush (pc := 10) (v := 7) C dX8_of_10 rfl ?_
    refine aw_cSI (pc := 12) C (c_X8_within _ w 0 7 ) lk_X8_74 dX8_of_12 (by decide) (Nat.le_of_ble_eq_true rfl) rfl rfl ?_
    refine aw_if_neB (pc := 15) C 24 dX8_of_15 (by decide) (fun h15 => ?_) (fun h15 => ?_)
    · obtain ⟨rr, rfl, hrr⟩ := rgR h5 hz
      obtain ⟨ww, rfl, hww0, hww⟩ := rg 0 7 h15 (by omega) (by omega)
      obtain ⟨k, hk7, hk⟩ := (hok.2.2.2.2.1 rr (by omega)).1
      refine aw_aload_n (pc := 24) C 0 dX8_of_24 rfl ?_
      refine aw_getR (pc := 25) C fl_X8_16 sh0 rfl dX8_of_25 ?_
      refine aw_getR (pc := 28) C fl_X8_99 (shM (by decide : 0 < 3)) rfl dX8_of_28 ?_
      refine aw_iload_n (pc := 31) C 1 dX8_of_31 rfl ?_
      refine aw_aald (pc := 32) (k := rr) C (shRs (by decide : 0 < 3)) dX8_of_32 rfl (by omega) ?_
      refine aw_iload_n (pc := 33) C 2 dX8_of_33 rfl ?_
      refine aw_cVI (pc := 34) C (c_X4_tell _ 0 (by decide : 0 < 3) rr (by omega) k hk hk7 (nI (ww))) lk_X8_103 (shR (by decide : 0 < 3) (by omega)) rfl dX8_of_34 (by decide) (Nat.le_of_ble_eq_true rfl) rfl rfl ?_
      refine aw_top C (if ww < 7 then fl (σ.1 0) rr ww else holdsM (σ.1 0) rr) (tell_of (by omega)) ?_
      exact aw_iretP (pc := 37) C rfl dX8_of_37 (pc_of (an' := .inr (if ww < 7 then fl (σ.1 0) rr ww else holdsM (σ.1 0) rr, σ.1 0)) (by rw [sOf, if_pos ⟨h5, h15⟩, cl_nI (show rr < 2147483648 by omega), cl_nI (show ww < 2147483648 by omega)]) rfl (setR_same _ 0).symm)
    · refine aw_aload_n (pc := 18) C 0 dX8_of_18 rfl ?_
      refine aw_iconst (pc := 19) (v := 0) C dX8_of_19 rfl ?_
      refine aw_cVI (pc := 20) C (c_X8_found _ 0 (by omega)) lk_X8_78 sh0 rfl dX8_of_20 (by decide) (Nat.le_of_ble_eq_true rfl) rfl rfl ?_
      exact aw_iretP (pc := 23) C rfl dX8_of_23 (pc_of (an' := .inl 0) (by rw [sOf, if_neg (fun z => h15 (z.2))]) rfl rfl)
theorem c_X8_change (σ : St) (n : Nat) (hok : Ok n (σ.1 0)) (r w v : Int32) : AMet Y_X8_change [.ref 0, .int r, .int w, .int v] σ (PC σ (sChange (σ.1 0) n r w v)) := by
  refine am_intro (by decide +kernel) (Nat.le_of_ble_eq_true rfl) (fun K C => ?_)
  have hz := hok.1
  have hn := hok.2.1
  refine aw_aload_n (pc := 0) C 0 dX8_change_0 rfl ?_
  refine aw_iload_n (pc := 1) C 1 dX8_change_1 rfl ?_
  refine aw_cVI (pc := 2) C (c_X8_isRunner _ n hn hz r ) lk_X8_96 sh0 rfl dX8_change_2 (by decide) (Nat.le_of_ble_eq_true rfl) rfl rfl ?_
  refine aw_if_eqB (pc := 5) C 20 dX8_change_5 (by decide) (fun h5 => ?_) (fun h5 => ?_)
  · refine aw_aload_n (pc := 20) C 0 dX8_change_20 rfl ?_
    refine aw_iconst (pc := 21) (v := 0) C dX8_change_21 rfl ?_
    refine aw_cVI (pc := 22) C (c_X8_found _ 0 (by omega)) lk_X8_78 sh0 rfl dX8_change_22 (by decide) (Nat.le_of_ble_eq_true rfl) rfl rfl ?_
    exact aw_iretP (pc := 25) C rfl dX8_change_25 (pc_of (an' := .inl 0) (by rw [sChange, if_neg (fun z => h5 (z.1))]) rfl rfl)
  · refine aw_iload_n (pc := 8) C 3 dX8_change_8 rfl ?_
    refine aw_iconst (pc := 9) (v := 0) C dX8_change_9 rfl ?_
    refine aw_iload_n (pc := 10) C 2 dX8_change_10 rfl ?_
    refine aw_cSI (pc := 11) C (c_X4_mostOf _ w ) lk_X8_108 dX8_change_11 (by decide) (Nat.le_of_ble_eq_true rfl) rfl rfl ?_
    refine aw_cSI (pc := 14) C (c_X8_within _ v 0 (mostS w) ) lk_X8_74 dX8_change_14 (by decide) (Nat.le_of_ble_eq_true rfl) rfl rfl ?_
    refine aw_if_neB (pc := 17) C 26 dX8_change_17 (by decide) (fun h17 => ?_) (fun h17 => ?_)
    · have h17p := part_most.mp h17
      obtain ⟨rr, rfl, hrr⟩ := rgR h5 hz
      obtain ⟨ww, rfl, hww⟩ := part_w h17p
      obtain ⟨k, hk7, hk⟩ := (hok.2.2.2.2.1 rr (by omega)).1
      have hch := change_of (μ := σ.1 0) (r := rr) hww h17p
      refine aw_aload_n (pc := 26) C 0 dX8_change_26 rfl ?_
      refine aw_getR (pc := 27) C fl_X8_16 sh0 rfl dX8_change_27 ?_
      refine aw_getR (pc := 30) C fl_X8_99 (shM (by decide : 0 < 3)) rfl dX8_change_30 ?_
      refine aw_iload_n (pc := 33) C 1 dX8_change_33 rfl ?_
      refine aw_aald (pc := 34) (k := rr) C (shRs (by decide : 0 < 3)) dX8_change_34 rfl (by omega) ?_
      refine aw_iload_n (pc := 35) C 2 dX8_change_35 rfl ?_
      refine aw_cVI (pc := 36) C (c_X4_tell _ 0 (by decide : 0 < 3) rr (by omega) k hk hk7 (nI (ww))) lk_X8_103 (shR (by decide : 0 < 3) (by omega)) rfl dX8_change_36 (by decide) (Nat.le_of_ble_eq_true rfl) rfl rfl ?_
      refine aw_top C (fl (σ.1 0) rr ww) (hch.1) ?_
      refine aw_istore (pc := 39) C [(4, .int (fl (σ.1 0) rr ww)), (0, .ref 0), (1, .int (nI rr)), (2, .int (nI ww)), (3, .int v)] dX8_change_39 (Nat.le_of_ble_eq_true rfl) rfl ?_
      refine aw_aload_n (pc := 41) C 1 dX8_change_41 rfl ?_
      refine aw_getR (pc := 42) C fl_X8_16 sh0 rfl dX8_change_42 ?_
      refine aw_getR (pc := 45) C fl_X8_99 (shM (by decide : 0 < 3)) rfl dX8_change_45 ?_
      refine aw_iload_n (pc := 48) C 2 dX8_change_48 rfl ?_
      refine aw_aald (pc := 49) (k := rr) C (shRs (by decide : 0 < 3)) dX8_change_49 rfl (by omega) ?_
      refine aw_iload_n (pc := 50) C 3 dX8_change_50 rfl ?_
      refine aw_iload_n (pc := 51) C 4 dX8_change_51 rfl ?_
      refine aw_cV0 (pc := 52) C (c_X4_put _ 0 (by decide : 0 < 3) rr (by omega) (nI (ww)) v ) lk_X8_111 (shR (by decide : 0 < 3) (by omega)) rfl dX8_change_52 (by decide) (Nat.le_of_ble_eq_true rfl) rfl rfl ?_
      refine aw_conv (σ' := setR σ 0 (upd (σ.1 0) (33 + 37 * rr + ww) (v))) (by rw [hch.2]) rfl rfl ?_
      refine aw_iload (pc := 55) C 0 dX8_change_55 rfl ?_
      exact aw_iretP (pc := 57) C rfl dX8_change_57 (pc_of (an' := .inr (fl (σ.1 0) rr ww, upd (σ.1 0) (33 + 37 * rr + ww) (v))) (by rw [sChange, if_pos ⟨h5, part_most.mp h17⟩, cl_nI (show rr < 2147483648 by omega), cl_nI (show ww < 2147483648 by omega)]) rfl rfl)
    · refine aw_aload_n (pc := 20) C 0 dX8_change_20 rfl ?_
      refine aw_iconst (pc := 21) (v := 0) C dX8_change_21 rfl ?_
      refine aw_cVI (pc := 22) C (c_X8_found _ 0 (by omega)) lk_X8_78 sh0 rfl dX8_change_22 (by decide) (Nat.le_of_ble_eq_true rfl) rfl rfl ?_
      exact aw_iretP (pc := 25) C rfl dX8_change_25 (pc_of (an' := .inl 0) (by rw [sChange, if_neg (fun z => h17 (part_most.mpr (z.2)))]) rfl rfl)
theorem c_X8_paceOf (σ : St) (n : Nat) (hok : Ok n (σ.1 0)) (r y : Int32) : AMet Y_X8_paceOf [.ref 0, .int r, .int y] σ (PC σ (sPaceOf (σ.1 0) n r y)) := by
  refine am_intro (by decide +kernel) (Nat.le_of_ble_eq_true rfl) (fun K C => ?_)
  have hz := hok.1
  have hn := hok.2.1
  refine aw_aload_n (pc := 0) C 0 dX8_paceOf_0 rfl ?_
  refine aw_iload_n (pc := 1) C 1 dX8_paceOf_1 rfl ?_
  refine aw_cVI (pc := 2) C (c_X8_isRunner _ n hn hz r ) lk_X8_96 sh0 rfl dX8_paceOf_2 (by decide) (Nat.le_of_ble_eq_true rfl) rfl rfl ?_
  refine aw_if_eqB (pc := 5) C 15 dX8_paceOf_5 (by decide) (fun h5 => ?_) (fun h5 => ?_)
  · refine aw_aload_n (pc := 15) C 0 dX8_paceOf_15 rfl ?_
    refine aw_iconst (pc := 16) (v := 0) C dX8_paceOf_16 rfl ?_
    refine aw_cVI (pc := 17) C (c_X8_found _ 0 (by omega)) lk_X8_78 sh0 rfl dX8_paceOf_17 (by decide) (Nat.le_of_ble_eq_true rfl) rfl rfl ?_
    exact aw_iretP (pc := 20) C rfl dX8_paceOf_20 (pc_of (an' := .inl 0) (by rw [sPaceOf, if_neg (fun z => h5 (z.1))]) rfl rfl)
  · refine aw_iload_n (pc := 8) C 2 dX8_paceOf_8 rfl ?_
    refine aw_cSI (pc := 9) C (c_X8_isYard _ y ) lk_X8_70 dX8_paceOf_9 (by decide) (Nat.le_of_ble_eq_true rfl) rfl rfl ?_
    refine aw_if_neB (pc := 12) C 21 dX8_paceOf_12 (by decide) (fun h12 => ?_) (fun h12 => ?_)
    · obtain ⟨rr, rfl, hrr⟩ := rgR h5 hz
      obtain ⟨yy, rfl, hyy0, hyy⟩ := rg 0 29 h12 (by omega) (by omega)
      refine aw_aload_n (pc := 21) C 0 dX8_paceOf_21 rfl ?_
      refine aw_getR (pc := 22) C fl_X8_16 sh0 rfl dX8_paceOf_22 ?_
      refine aw_getR (pc := 25) C fl_X8_99 (shM (by decide : 0 < 3)) rfl dX8_paceOf_25 ?_
      refine aw_iload_n (pc := 28) C 1 dX8_paceOf_28 rfl ?_
      refine aw_aald (pc := 29) (k := rr) C (shRs (by decide : 0 < 3)) dX8_paceOf_29 rfl (by omega) ?_
      refine aw_getR (pc := 30) C fl_X8_118 (shR (by decide : 0 < 3) (by omega)) rfl dX8_paceOf_30 ?_
      refine aw_iload_n (pc := 33) C 2 dX8_paceOf_33 rfl ?_
      refine aw_ild (pc := 34) (k := yy) C (33 + 37 * rr + (7 + yy)) (σ.1 0 (33 + 37 * rr + (7 + yy))) (shP (by decide : 0 < 3) (by omega)) dX8_paceOf_34 rfl (by omega) (by omega) rfl ?_
      exact aw_iretP (pc := 35) C rfl dX8_paceOf_35 (pc_of (an' := .inr (σ.1 0 (33 + 37 * rr + (7 + yy)), σ.1 0)) (by rw [sPaceOf, if_pos ⟨h5, h12⟩, cl_nI (show rr < 2147483648 by omega), cl_nI (show yy < 2147483648 by omega)]) rfl (setR_same _ 0).symm)
    · refine aw_aload_n (pc := 15) C 0 dX8_paceOf_15 rfl ?_
      refine aw_iconst (pc := 16) (v := 0) C dX8_paceOf_16 rfl ?_
      refine aw_cVI (pc := 17) C (c_X8_found _ 0 (by omega)) lk_X8_78 sh0 rfl dX8_paceOf_17 (by decide) (Nat.le_of_ble_eq_true rfl) rfl rfl ?_
      exact aw_iretP (pc := 20) C rfl dX8_paceOf_20 (pc_of (an' := .inl 0) (by rw [sPaceOf, if_neg (fun z => h12 (z.2))]) rfl rfl)
theorem c_X8_told (σ : St) (n : Nat) (hok : Ok n (σ.1 0)) (r w p : Int32) : AMet Y_X8_told [.ref 0, .int r, .int w, .int p] σ (PC σ (sTold (σ.1 0) n r w p)) := by
  refine am_intro (by decide +kernel) (Nat.le_of_ble_eq_true rfl) (fun K C => ?_)
  have hz := hok.1
  have hn := hok.2.1
  refine aw_aload_n (pc := 0) C 0 dX8_told_0 rfl ?_
  refine aw_iload_n (pc := 1) C 1 dX8_told_1 rfl ?_
  refine aw_cVI (pc := 2) C (c_X8_isRunner _ n hn hz r ) lk_X8_96 sh0 rfl dX8_told_2 (by decide) (Nat.le_of_ble_eq_true rfl) rfl rfl ?_
  refine aw_if_eqB (pc := 5) C 24 dX8_told_5 (by decide) (fun h5 => ?_) (fun h5 => ?_)
  · refine aw_aload_n (pc := 24) C 0 dX8_told_24 rfl ?_
    refine aw_iconst (pc := 25) (v := 0) C dX8_told_25 rfl ?_
    refine aw_cVI (pc := 26) C (c_X8_found _ 0 (by omega)) lk_X8_78 sh0 rfl dX8_told_26 (by decide) (Nat.le_of_ble_eq_true rfl) rfl rfl ?_
    exact aw_iretP (pc := 29) C rfl dX8_told_29 (pc_of (an' := .inl 0) (by rw [sTold, if_neg (fun z => h5 (z.1))]) rfl rfl)
  · refine aw_iload_n (pc := 8) C 2 dX8_told_8 rfl ?_
    refine aw_iconst (pc := 9) (v := 0) C dX8_told_9 rfl ?_
    refine aw_iconst (pc := 10) (v := 1) C dX8_told_10 rfl ?_
    refine aw_cSI (pc := 11) C (c_X8_within _ w 0 1 ) lk_X8_74 dX8_told_11 (by decide) (Nat.le_of_ble_eq_true rfl) rfl rfl ?_
    refine aw_if_eqB (pc := 14) C 24 dX8_told_14 (by decide) (fun h14 => ?_) (fun h14 => ?_)
    · refine aw_aload_n (pc := 24) C 0 dX8_told_24 rfl ?_
      refine aw_iconst (pc := 25) (v := 0) C dX8_told_25 rfl ?_
      refine aw_cVI (pc := 26) C (c_X8_found _ 0 (by omega)) lk_X8_78 sh0 rfl dX8_told_26 (by decide) (Nat.le_of_ble_eq_true rfl) rfl rfl ?_
      exact aw_iretP (pc := 29) C rfl dX8_told_29 (pc_of (an' := .inl 0) (by rw [sTold, if_neg (fun z => h14 (z.2.1))]) rfl rfl)
    · refine aw_iload_n (pc := 17) C 3 dX8_told_17 rfl ?_
      refine aw_cSI (pc := 18) C (c_X8_isPace _ p ) lk_X8_115 dX8_told_18 (by decide) (Nat.le_of_ble_eq_true rfl) rfl rfl ?_
      refine aw_if_neB (pc := 21) C 30 dX8_told_21 (by decide) (fun h21 => ?_) (fun h21 => ?_)
      · obtain ⟨rr, rfl, hrr⟩ := rgR h5 hz
        obtain ⟨pp, rfl, hpp0, hpp⟩ := rg 1 9 h21 (by omega) (by omega)
        obtain ⟨k, hk7, hk⟩ := (hok.2.2.2.2.1 rr (by omega)).1
        refine aw_aload_n (pc := 30) C 0 dX8_told_30 rfl ?_
        refine aw_getR (pc := 31) C fl_X8_16 sh0 rfl dX8_told_31 ?_
        refine aw_getR (pc := 34) C fl_X8_99 (shM (by decide : 0 < 3)) rfl dX8_told_34 ?_
        refine aw_iload_n (pc := 37) C 1 dX8_told_37 rfl ?_
        refine aw_aald (pc := 38) (k := rr) C (shRs (by decide : 0 < 3)) dX8_told_38 rfl (by omega) ?_
        refine aw_astore (pc := 39) C [(4, .ref (29 + 2 * rr)), (0, .ref 0), (1, .int (nI rr)), (2, .int w), (3, .int (nI pp))] dX8_told_39 (Nat.le_of_ble_eq_true rfl) rfl ?_
        refine aw_iload_n (pc := 41) C 3 dX8_told_41 rfl ?_
        refine aw_if_ne (pc := 42) C 54 dX8_told_42 (by decide) (fun h42 => ?_) (fun h42 => ?_)
        · refine aw_aload (pc := 54) C 0 dX8_told_54 rfl ?_
          refine aw_iload_n (pc := 56) C 4 dX8_told_56 rfl ?_
          refine aw_cVI (pc := 57) C (c_X4_rocks _ 0 (by decide : 0 < 3) rr (by omega) k hk hk7 pp (by omega) (by omega)) lk_X8_124 (shR (by decide : 0 < 3) (by omega)) rfl dX8_told_57 (by decide) (Nat.le_of_ble_eq_true rfl) rfl rfl ?_
          exact aw_iretP (pc := 60) C rfl dX8_told_60 (pc_of (an' := .inr (sRocks (σ.1 0 (33 + 37 * rr + 0)) (nI pp), σ.1 0)) (by rw [sTold, if_pos ⟨h5, h14, h21⟩, cl_nI (show rr < 2147483648 by omega), if_neg h42]) rfl (setR_same _ 0).symm)
        · refine aw_aload (pc := 45) C 0 dX8_told_45 rfl ?_
          refine aw_iload_n (pc := 47) C 4 dX8_told_47 rfl ?_
          refine aw_cVI (pc := 48) C (c_X4_takes _ 0 (by decide : 0 < 3) rr (by omega) k hk hk7 (nI (pp))) lk_X8_121 (shR (by decide : 0 < 3) (by omega)) rfl dX8_told_48 (by decide) (Nat.le_of_ble_eq_true rfl) rfl rfl ?_
          refine aw_goto (pc := 51) C 60 dX8_told_51 (by decide) ?_
          exact aw_iretP (pc := 60) C rfl dX8_told_60 (pc_of (an' := .inr (sTakes (σ.1 0 (33 + 37 * rr + 0)) (nI (pp)), σ.1 0)) (by rw [sTold, if_pos ⟨h5, h14, h21⟩, cl_nI (show rr < 2147483648 by omega), if_pos h42]) rfl (setR_same _ 0).symm)
      · refine aw_aload_n (pc := 24) C 0 dX8_told_24 rfl ?_
        refine aw_iconst (pc := 25) (v := 0) C dX8_told_25 rfl ?_
        refine aw_cVI (pc := 26) C (c_X8_found _ 0 (by omega)) lk_X8_78 sh0 rfl dX8_told_26 (by decide) (Nat.le_of_ble_eq_true rfl) rfl rfl ?_
        exact aw_iretP (pc := 29) C rfl dX8_told_29 (pc_of (an' := .inl 0) (by rw [sTold, if_neg (fun z => h21 (z.2.2))]) rfl rfl)
theorem c_X8_nerves (σ : St) (n : Nat) (hok : Ok n (σ.1 0)) (r : Int32) : AMet Y_X8_nerves [.ref 0, .int r] σ (PC σ (sNerves (σ.1 0) n r)) := by
  refine am_intro (by decide +kernel) (Nat.le_of_ble_eq_true rfl) (fun K C => ?_)
  have hz := hok.1
  have hn := hok.2.1
  refine aw_aload_n (pc := 0) C 0 dX8_nerves_0 rfl ?_
  refine aw_iload_n (pc := 1) C 1 dX8_nerves_1 rfl ?_
  refine aw_cVI (pc := 2) C (c_X8_isRunner _ n hn hz r ) lk_X8_96 sh0 rfl dX8_nerves_2 (by decide) (Nat.le_of_ble_eq_true rfl) rfl rfl ?_
  refine aw_if_neB (pc := 5) C 14 dX8_nerves_5 (by decide) (fun h5 => ?_) (fun h5 => ?_)
  · obtain ⟨rr, rfl, hrr⟩ := rgR h5 hz
    refine aw_aload_n (pc := 14) C 0 dX8_nerves_14 rfl ?_
    refine aw_getR (pc := 15) C fl_X8_16 sh0 rfl dX8_nerves_15 ?_
    refine aw_iload_n (pc := 18) C 1 dX8_nerves_18 rfl ?_
    refine aw_cVI (pc := 19) C (c_X2_nervesOf _ 0 (by decide : 0 < 3) n hok rr (by omega)) lk_X8_138 (shM (by decide : 0 < 3)) rfl dX8_nerves_19 (by decide) (Nat.le_of_ble_eq_true rfl) rfl rfl ?_
    exact aw_iretP (pc := 22) C rfl dX8_nerves_22 (pc_of (an' := .inr (nrv (σ.1 0) rr n, σ.1 0)) (by rw [sNerves, if_pos h5, cl_nI (show rr < 2147483648 by omega)]) rfl (setR_same _ 0).symm)
  · refine aw_aload_n (pc := 8) C 0 dX8_nerves_8 rfl ?_
    refine aw_iconst (pc := 9) (v := 0) C dX8_nerves_9 rfl ?_
    refine aw_cVI (pc := 10) C (c_X8_found _ 0 (by omega)) lk_X8_78 sh0 rfl dX8_nerves_10 (by decide) (Nat.le_of_ble_eq_true rfl) rfl rfl ?_
    exact aw_iretP (pc := 13) C rfl dX8_nerves_13 (pc_of (an' := .inl 0) (by rw [sNerves, if_neg (fun z => h5 (z))]) rfl rfl)
theorem c_X8_steps (σ : St) (n : Nat) (hok : Ok n (σ.1 0)) (k : Int32) : AMet Y_X8_steps [.ref 0, .int k] σ (PC σ (sSteps (σ.1 0) n k)) := by
  refine am_intro (by decide +kernel) (Nat.le_of_ble_eq_true rfl) (fun K C => ?_)
  have hz := hok.1
  have hn := hok.2.1
  refine aw_iload_n (pc := 0) C 1 dX8_steps_0 rfl ?_
  refine aw_iconst (pc := 1) (v := 1) C dX8_steps_1 rfl ?_
  refine aw_sipush (pc := 2) (v := 180) C dX8_steps_2 rfl ?_
  refine aw_cSI (pc := 5) C (c_X8_within _ k 1 180 ) lk_X8_74 dX8_steps_5 (by decide) (Nat.le_of_ble_eq_true rfl) rfl rfl ?_
  refine aw_if_neB (pc := 8) C 17 dX8_steps_8 (by decide) (fun h8 => ?_) (fun h8 => ?_)
  · obtain ⟨kk, rfl, hkk0, hkk⟩ := rg 1 180 h8 (by omega) (by omega)
    refine aw_aload_n (pc := 17) C 0 dX8_steps_17 rfl ?_
    refine aw_getR (pc := 18) C fl_X8_16 sh0 rfl dX8_steps_18 ?_
    refine aw_iload_n (pc := 21) C 1 dX8_steps_21 rfl ?_
    refine aw_cVI (pc := 22) C (c_X2_go _ 0 (by decide : 0 < 3) n hok kk (by omega)) lk_X8_145 (shM (by decide : 0 < 3)) rfl dX8_steps_22 (by decide) (Nat.le_of_ble_eq_true rfl) rfl rfl ?_
    exact aw_iretP (pc := 25) C rfl dX8_steps_25 (pc_of (an' := .inr (goD n (σ.1 0) kk, goM n (σ.1 0) kk)) (by rw [sSteps, if_pos h8, cl_nI (show kk < 2147483648 by omega)]) rfl rfl)
  · refine aw_aload_n (pc := 11) C 0 dX8_steps_11 rfl ?_
    refine aw_iconst (pc := 12) (v := 0) C dX8_steps_12 rfl ?_
    refine aw_cVI (pc := 13) C (c_X8_found _ 0 (by omega)) lk_X8_78 sh0 rfl dX8_steps_13 (by decide) (Nat.le_of_ble_eq_true rfl) rfl rfl ?_
    exact aw_iretP (pc := 16) C rfl dX8_steps_16 (pc_of (an' := .inl 0) (by rw [sSteps, if_neg (fun z => h8 (z))]) rfl rfl)
theorem c_X8_start (σ : St) (n : Nat) (hok : Ok n (σ.1 0)) : AMet Y_X8_start [.ref 0] σ (PC σ (sStart (σ.1 0) n)) := by
  refine am_intro (by decide +kernel) (Nat.le_of_ble_eq_true rfl) (fun K C => ?_)
  have hz := hok.1
  have hn := hok.2.1
  refine aw_aload_n (pc := 0) C 0 dX8_start_0 rfl ?_
  refine aw_getR (pc := 1) C fl_X8_16 sh0 rfl dX8_start_1 ?_
  refine aw_cVI (pc := 4) C (c_X2_restart _ 0 (by decide : 0 < 3) n hok) lk_X8_148 (shM (by decide : 0 < 3)) rfl dX8_start_4 (by decide) (Nat.le_of_ble_eq_true rfl) rfl rfl ?_
  exact aw_iretP (pc := 7) C rfl dX8_start_7 (pc_of (an' := .inr (manyS (homeS (σ.1 0) n) 6, startM (σ.1 0) n)) rfl rfl rfl)
theorem c_X8_next (σ : St) (n : Nat) (hok : Ok n (σ.1 0)) : AMet Y_X8_next [.ref 0] σ (PC σ (sNext (σ.1 0) n)) := by
  refine am_intro (by decide +kernel) (Nat.le_of_ble_eq_true rfl) (fun K C => ?_)
  have hz := hok.1
  have hn := hok.2.1
  refine aw_aload_n (pc := 0) C 0 dX8_next_0 rfl ?_
  refine aw_getR (pc := 1) C fl_X8_16 sh0 rfl dX8_next_1 ?_
  refine aw_cVI (pc := 4) C (c_X2_whoRuns _ 0 (by decide : 0 < 3) n hok) lk_X8_141 (shM (by decide : 0 < 3)) rfl dX8_next_4 (by decide) (Nat.le_of_ble_eq_true rfl) rfl rfl ?_
  rcases hb : nxt (σ.1 0) n with _ | b
  · refine aw_top C ((-1)) rfl ?_
    refine aw_istore_n (pc := 7) C [(1, .int ((-1))), (0, .ref 0)] dX8_next_7 (Nat.le_of_ble_eq_true rfl) rfl ?_
    refine aw_iload_n (pc := 8) C 0 dX8_next_8 rfl ?_
    refine aw_if_ge (pc := 9) C 20 dX8_next_9 (by decide) (fun h9 => absurd h9 (by decide)) (fun h9 => ?_)
    refine aw_aload_n (pc := 12) C 1 dX8_next_12 rfl ?_
    refine aw_iconst (pc := 13) (v := 3) C dX8_next_13 rfl ?_
    refine aw_cVI (pc := 14) C (c_X8_found _ 3 (by omega)) lk_X8_78 sh0 rfl dX8_next_14 (by decide) (Nat.le_of_ble_eq_true rfl) rfl rfl ?_
    refine aw_goto (pc := 17) C 21 dX8_next_17 (by decide) ?_
    exact aw_iretP (pc := 21) C rfl dX8_next_21 (pc_of (an' := .inl 3) (by simp only [sNext, hb]) rfl rfl)
  · have hbl := (nxt_lt hb).1
    refine aw_top C (nI (b)) rfl ?_
    refine aw_istore_n (pc := 7) C [(1, .int (nI b)), (0, .ref 0)] dX8_next_7 (Nat.le_of_ble_eq_true rfl) rfl ?_
    refine aw_iload_n (pc := 8) C 0 dX8_next_8 rfl ?_
    refine aw_if_ge (pc := 9) C 20 dX8_next_9 (by decide) (fun h9 => ?_) (fun h9 => absurd h9 (fun z => z (nI_pos' (by omega))))
    refine aw_iload_n (pc := 20) C 0 dX8_next_20 rfl ?_
    exact aw_iretP (pc := 21) C rfl dX8_next_21 (pc_of (an' := .inr (nI (b), σ.1 0)) (by simp only [sNext, hb]) rfl (setR_same _ 0).symm)
