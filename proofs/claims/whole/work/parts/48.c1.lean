/-! the class: what its calls share -/
theorem c_X8_within (σ : St) (v a b : Int32) : AMet Y_X8_within [.int v, .int a, .int b] σ (fz (some (.int (b2i (a ≤ v ∧ v ≤ b)))) (σ)) := by
  refine am_intro (by decide +kernel) (Nat.le_of_ble_eq_true rfl) (fun K C => ?_)
  refine aw_iload_n (pc := 0) C 0 dX8_within_0 rfl ?_
  refine aw_iload_n (pc := 1) C 1 dX8_within_1 rfl ?_
  refine aw_icmp_lt (pc := 2) C 14 dX8_within_2 (by decide) (fun h2 => ?_) (fun h2 => ?_)
  · refine aw_iconst (pc := 14) (v := 0) C dX8_within_14 rfl ?_
    exact aw_zret (pc := 15) C rfl rfl dX8_within_15 (b2i_f (fun z => Int32.not_le.mpr h2 z.1)).symm rfl
  · refine aw_iload_n (pc := 5) C 0 dX8_within_5 rfl ?_
    refine aw_iload_n (pc := 6) C 2 dX8_within_6 rfl ?_
    refine aw_icmp_gt (pc := 7) C 14 dX8_within_7 (by decide) (fun h7 => ?_) (fun h7 => ?_)
    · refine aw_iconst (pc := 14) (v := 0) C dX8_within_14 rfl ?_
      exact aw_zret (pc := 15) C rfl rfl dX8_within_15 (b2i_f (fun z => Int32.not_le.mpr h7 z.2)).symm rfl
    · refine aw_iconst (pc := 10) (v := 1) C dX8_within_10 rfl ?_
      refine aw_goto (pc := 11) C 15 dX8_within_11 (by decide) ?_
      exact aw_zret (pc := 15) C rfl rfl dX8_within_15 (b2i_t ⟨Int32.not_lt.mp h2, Int32.not_lt.mp h7⟩).symm rfl
theorem c_X8_isYard (σ : St) (v : Int32) : AMet Y_X8_isYard [.int v] σ (fz (some (.int (b2i (0 ≤ v ∧ v ≤ 29)))) (σ)) := by
  refine am_intro (by decide +kernel) (Nat.le_of_ble_eq_true rfl) (fun K C => ?_)
  refine aw_iload_n (pc := 0) C 0 dX8_isYard_0 rfl ?_
  refine aw_iconst (pc := 1) (v := 0) C dX8_isYard_1 rfl ?_
  refine aw_bipush (pc := 2) (v := 29) C dX8_isYard_2 rfl ?_
  refine aw_cSI (pc := 4) C (c_X8_within _ v 0 29 ) lk_X8_74 dX8_isYard_4 (by decide) (Nat.le_of_ble_eq_true rfl) rfl rfl ?_
  exact aw_zret (pc := 7) C rfl (b2i_nar _) dX8_isYard_7 rfl rfl
theorem c_X8_isPace (σ : St) (v : Int32) : AMet Y_X8_isPace [.int v] σ (fz (some (.int (b2i (1 ≤ v ∧ v ≤ 9)))) (σ)) := by
  refine am_intro (by decide +kernel) (Nat.le_of_ble_eq_true rfl) (fun K C => ?_)
  refine aw_iload_n (pc := 0) C 0 dX8_isPace_0 rfl ?_
  refine aw_iconst (pc := 1) (v := 1) C dX8_isPace_1 rfl ?_
  refine aw_bipush (pc := 2) (v := 9) C dX8_isPace_2 rfl ?_
  refine aw_cSI (pc := 4) C (c_X8_within _ v 1 9 ) lk_X8_74 dX8_isPace_4 (by decide) (Nat.le_of_ble_eq_true rfl) rfl rfl ?_
  exact aw_zret (pc := 7) C rfl (b2i_nar _) dX8_isPace_7 rfl rfl
theorem c_X8_isSpot (σ : St) (v : Int32) : AMet Y_X8_isSpot [.int v] σ (fz (some (.int (b2i (0 ≤ v ∧ v ≤ 9)))) (σ)) := by
  refine am_intro (by decide +kernel) (Nat.le_of_ble_eq_true rfl) (fun K C => ?_)
  refine aw_iload_n (pc := 0) C 0 dX8_isSpot_0 rfl ?_
  refine aw_iconst (pc := 1) (v := 0) C dX8_isSpot_1 rfl ?_
  refine aw_bipush (pc := 2) (v := 9) C dX8_isSpot_2 rfl ?_
  refine aw_cSI (pc := 4) C (c_X8_within _ v 0 9 ) lk_X8_74 dX8_isSpot_4 (by decide) (Nat.le_of_ble_eq_true rfl) rfl rfl ?_
  exact aw_zret (pc := 7) C rfl (b2i_nar _) dX8_isSpot_7 rfl rfl
theorem c_X8_isSheet (σ : St) (v : Int32) : AMet Y_X8_isSheet [.int v] σ (fz (some (.int (b2i (0 ≤ v ∧ v ≤ 3)))) (σ)) := by
  refine am_intro (by decide +kernel) (Nat.le_of_ble_eq_true rfl) (fun K C => ?_)
  refine aw_iload_n (pc := 0) C 0 dX8_isSheet_0 rfl ?_
  refine aw_iconst (pc := 1) (v := 0) C dX8_isSheet_1 rfl ?_
  refine aw_iconst (pc := 2) (v := 3) C dX8_isSheet_2 rfl ?_
  refine aw_cSI (pc := 3) C (c_X8_within _ v 0 3 ) lk_X8_74 dX8_isSheet_3 (by decide) (Nat.le_of_ble_eq_true rfl) rfl rfl ?_
  exact aw_zret (pc := 6) C rfl (b2i_nar _) dX8_isSheet_6 rfl rfl
theorem c_X8_found (σ : St) (i : Nat) (hi : i < 7) : AMet Y_X8_found [.ref 0, .int (nI i)] σ (fz (some (.int (lowI i))) (setR σ 3 (upd (σ.1 3) i (σ.1 3 i + 1)))) := by
  refine am_intro (by decide +kernel) (Nat.le_of_ble_eq_true rfl) (fun K C => ?_)
  refine aw_aload_n (pc := 0) C 0 dX8_found_0 rfl ?_
  refine aw_getR (pc := 1) C fl_X8_9 sh0 rfl dX8_found_1 ?_
  refine aw_iload_n (pc := 4) C 1 dX8_found_4 rfl ?_
  refine aw_dup2 (pc := 5) C dX8_found_5 rfl rfl ?_
  refine aw_ild (pc := 6) (k := i) C (i) (σ.1 3 i) sh1 dX8_found_6 rfl (by omega) rfl rfl ?_
  refine aw_iconst (pc := 7) (v := 1) C dX8_found_7 rfl ?_
  refine aw_iadd (pc := 8) C dX8_found_8 ?_
  refine aw_ist (pc := 9) (k := i) C (i) (setR σ 3 (upd (σ.1 3) i ((σ.1 3 i) + 1))) sh1 dX8_found_9 rfl (by omega) rfl rfl ?_
  refine aw_ldcw (pc := 10) C dX8_found_10 kc_X8_299 ?_
  refine aw_iload_n (pc := 13) C 1 dX8_found_13 rfl ?_
  refine aw_isub (pc := 14) C dX8_found_14 ?_
  exact aw_iret (pc := 15) C rfl dX8_found_15 rfl rfl
theorem c_X8_isRunner (σ : St) (n : Nat) (hn : σ.1 0 2 = nI n) (hz : n ≤ 6) (x : Int32) : AMet Y_X8_isRunner [.ref 0, .int x] σ (fz (some (.int (b2i (isR n x)))) (σ)) := by
  refine am_intro (by decide +kernel) (Nat.le_of_ble_eq_true rfl) (fun K C => ?_)
  refine aw_iload_n (pc := 0) C 1 dX8_isRunner_0 rfl ?_
  refine aw_iconst (pc := 1) (v := 0) C dX8_isRunner_1 rfl ?_
  refine aw_aload_n (pc := 2) C 0 dX8_isRunner_2 rfl ?_
  refine aw_getR (pc := 3) C fl_X8_16 sh0 rfl dX8_isRunner_3 ?_
  refine aw_gld (pc := 6) C (σ.1 0 2) fl_X8_89 (shM (by decide : 0 < 3)) rfl dX8_isRunner_6 rfl ?_
  refine aw_top C (nI n) hn ?_
  refine aw_iconst (pc := 9) (v := 1) C dX8_isRunner_9 rfl ?_
  refine aw_isub (pc := 10) C dX8_isRunner_10 ?_
  refine aw_cSI (pc := 11) C (c_X8_within _ x 0 ((nI n) - 1) ) lk_X8_74 dX8_isRunner_11 (by decide) (Nat.le_of_ble_eq_true rfl) rfl rfl ?_
  exact aw_zret (pc := 14) C rfl (b2i_nar _) dX8_isRunner_14 (b2i_cong (isR_le hz)) rfl
