/-! the constructors -/
/-- what SpoonRace$Runner is when it is new: 2 cells, addresses by a -/
def wX4 : WF (Nat → Nat) := fun cA h a => (h, .inr (4, [.ref (a 0), .int 0, .int 0, .int 0, .int 0, .int 0, .int 0, .int 0])) :: ([((a 0), .inl (cA 0, 30, .inl (fun _ => 0)))])
set_option maxRecDepth 100000 in
theorem c_X4_init : CMet Y_X4_init 4 [.null, .int 0, .int 0, .int 0, .int 0, .int 0, .int 0, .int 0] wX4 1 30 := by
  refine cm_intro (by decide +kernel) rfl rfl (Nat.le_of_ble_eq_true rfl) (fun K C => ?_)
  refine cw_aload (pc := 0) C 0 dX4_init_0 rfl ?_
  refine cw_obj (pc := 1) C (WT_mem (t1_in (List.mem_of_getElem? (i := 39) rfl)) rfl) dX4_init_1 ⟨Nat.le_of_ble_eq_true rfl, Nat.le_of_ble_eq_true rfl⟩ rfl ?_
  refine cw_aload (pc := 4) C 0 dX4_init_4 rfl ?_
  refine cw_bipush (pc := 5) (v := 30) C dX4_init_5 rfl ?_
  refine cw_newI (pc := 7) C 30 (by decide) (by decide) (by decide) (Nat.le_of_ble_eq_true rfl) (Nat.le_of_ble_eq_true rfl) dX4_init_7 (fun q7 => ?_)
  refine cw_conv (fs' := [.null, .int 0, .int 0, .int 0, .int 0, .int 0, .int 0, .int 0]) (tl' := [(q7, .inl (K.g.2 0, 30, .inl (fun _ => 0)))]) rfl rfl rfl rfl ?_
  refine cw_putF (pc := 9) (j := 0) (N := 8) (T := TX4) (ty := tyX4 0) C [.ref q7, .int 0, .int 0, .int 0, .int 0, .int 0, .int 0, .int 0] tyX4 rfl tyX4_ok nmX4 fl_X4_9 rfl rfl (tyX4_ok 0 (by decide)) rfl rfl (Nat.le_of_ble_eq_true rfl) rfl dX4_init_9 ?_
  exact cw_ret (pc := 12) C (fun _ => q7) rfl (Nat.le_refl _) (Nat.le_refl _) dX4_init_12
/-- what SpoonRace$Sheet is when it is new: 2 cells, addresses by a -/
def wX5 : WF (Nat → Nat) := fun cA h a => (h, .inr (5, [.ref (a 0), .int 0, .int 0])) :: ([((a 0), .inl (cA 0, 40, .inl (fun _ => 0)))])
set_option maxRecDepth 100000 in
theorem c_X5_init : CMet Y_X5_init 5 [.null, .int 0, .int 0] wX5 1 40 := by
  refine cm_intro (by decide +kernel) rfl rfl (Nat.le_of_ble_eq_true rfl) (fun K C => ?_)
  refine cw_aload (pc := 0) C 0 dX5_init_0 rfl ?_
  refine cw_obj (pc := 1) C (WT_mem (t1_in (List.mem_of_getElem? (i := 207) rfl)) rfl) dX5_init_1 ⟨Nat.le_of_ble_eq_true rfl, Nat.le_of_ble_eq_true rfl⟩ rfl ?_
  refine cw_aload (pc := 4) C 0 dX5_init_4 rfl ?_
  refine cw_bipush (pc := 5) (v := 40) C dX5_init_5 rfl ?_
  refine cw_newI (pc := 7) C 40 (by decide) (by decide) (by decide) (Nat.le_of_ble_eq_true rfl) (Nat.le_of_ble_eq_true rfl) dX5_init_7 (fun q7 => ?_)
  refine cw_conv (fs' := [.null, .int 0, .int 0]) (tl' := [(q7, .inl (K.g.2 0, 40, .inl (fun _ => 0)))]) rfl rfl rfl rfl ?_
  refine cw_putF (pc := 9) (j := 0) (N := 3) (T := TX5) (ty := tyX5 0) C [.ref q7, .int 0, .int 0] tyX5 rfl tyX5_ok nmX5 fl_X5_9 rfl rfl (tyX5_ok 0 (by decide)) rfl rfl (Nat.le_of_ble_eq_true rfl) rfl dX5_init_9 ?_
  refine cw_aload (pc := 12) C 0 dX5_init_12 rfl ?_
  refine cw_iconst (pc := 13) (v := 0) C dX5_init_13 rfl ?_
  refine cw_put (pc := 14) C [.ref q7, .int 0, .int 0] fp_X5_15 rfl rfl (Nat.le_of_ble_eq_true rfl) rfl dX5_init_14 ?_
  refine cw_aload (pc := 17) C 0 dX5_init_17 rfl ?_
  refine cw_iconst (pc := 18) (v := 0) C dX5_init_18 rfl ?_
  refine cw_put (pc := 19) C [.ref q7, .int 0, .int 0] fp_X5_19 rfl rfl (Nat.le_of_ble_eq_true rfl) rfl dX5_init_19 ?_
  exact cw_ret (pc := 22) C (fun _ => q7) rfl (Nat.le_refl _) (Nat.le_refl _) dX5_init_22
/-- what SpoonRace$Tape is when it is new: 3 cells, addresses by a -/
def wX6 : WF (Nat → Nat) := fun cA h a => (h, .inr (6, [.ref (a 1), .ref (a 0), .int 0, .int 0, .int 0, .int 0])) :: ([((a 0), .inl (cA 0, 120, .inl (fun _ => 0))), ((a 1), .inl (cA 0, 120, .inl (fun _ => 0)))])
set_option maxRecDepth 100000 in
theorem c_X6_init : CMet Y_X6_init 6 [.null, .null, .int 0, .int 0, .int 0, .int 0] wX6 2 240 := by
  refine cm_intro (by decide +kernel) rfl rfl (Nat.le_of_ble_eq_true rfl) (fun K C => ?_)
  refine cw_aload (pc := 0) C 0 dX6_init_0 rfl ?_
  refine cw_obj (pc := 1) C (WT_mem (t1_in (List.mem_of_getElem? (i := 173) rfl)) rfl) dX6_init_1 ⟨Nat.le_of_ble_eq_true rfl, Nat.le_of_ble_eq_true rfl⟩ rfl ?_
  refine cw_aload (pc := 4) C 0 dX6_init_4 rfl ?_
  refine cw_bipush (pc := 5) (v := 120) C dX6_init_5 rfl ?_
  refine cw_newI (pc := 7) C 120 (by decide) (by decide) (by decide) (Nat.le_of_ble_eq_true rfl) (Nat.le_of_ble_eq_true rfl) dX6_init_7 (fun q7 => ?_)
  refine cw_conv (fs' := [.null, .null, .int 0, .int 0, .int 0, .int 0]) (tl' := [(q7, .inl (K.g.2 0, 120, .inl (fun _ => 0)))]) rfl rfl rfl rfl ?_
  refine cw_putF (pc := 9) (j := 0) (N := 6) (T := TX6) (ty := tyX6 0) C [.ref q7, .null, .int 0, .int 0, .int 0, .int 0] tyX6 rfl tyX6_ok nmX6 fl_X6_9 rfl rfl (tyX6_ok 0 (by decide)) rfl rfl (Nat.le_of_ble_eq_true rfl) rfl dX6_init_9 ?_
  refine cw_aload (pc := 12) C 0 dX6_init_12 rfl ?_
  refine cw_bipush (pc := 13) (v := 120) C dX6_init_13 rfl ?_
  refine cw_newI (pc := 15) C 120 (by decide) (by decide) (by decide) (Nat.le_of_ble_eq_true rfl) (Nat.le_of_ble_eq_true rfl) dX6_init_15 (fun q15 => ?_)
  refine cw_conv (fs' := [.ref q7, .null, .int 0, .int 0, .int 0, .int 0]) (tl' := [(q15, .inl (K.g.2 0, 120, .inl (fun _ => 0))), (q7, .inl (K.g.2 0, 120, .inl (fun _ => 0)))]) rfl rfl rfl rfl ?_
  refine cw_putF (pc := 17) (j := 1) (N := 6) (T := TX6) (ty := tyX6 1) C [.ref q7, .ref q15, .int 0, .int 0, .int 0, .int 0] tyX6 rfl tyX6_ok nmX6 fl_X6_15 rfl rfl (tyX6_ok 1 (by decide)) rfl rfl (Nat.le_of_ble_eq_true rfl) rfl dX6_init_17 ?_
  refine cw_aload (pc := 20) C 0 dX6_init_20 rfl ?_
  refine cw_iconst (pc := 21) (v := 0) C dX6_init_21 rfl ?_
  refine cw_put (pc := 22) C [.ref q7, .ref q15, .int 0, .int 0, .int 0, .int 0] fp_X6_18 rfl rfl (Nat.le_of_ble_eq_true rfl) rfl dX6_init_22 ?_
  refine cw_aload (pc := 25) C 0 dX6_init_25 rfl ?_
  refine cw_iconst (pc := 26) (v := 0) C dX6_init_26 rfl ?_
  refine cw_put (pc := 27) C [.ref q7, .ref q15, .int 0, .int 0, .int 0, .int 0] fp_X6_22 rfl rfl (Nat.le_of_ble_eq_true rfl) rfl dX6_init_27 ?_
  refine cw_aload (pc := 30) C 0 dX6_init_30 rfl ?_
  refine cw_iconst (pc := 31) (v := 0) C dX6_init_31 rfl ?_
  refine cw_put (pc := 32) C [.ref q7, .ref q15, .int 0, .int 0, .int 0, .int 0] fp_X6_25 rfl rfl (Nat.le_of_ble_eq_true rfl) rfl dX6_init_32 ?_
  refine cw_aload (pc := 35) C 0 dX6_init_35 rfl ?_
  refine cw_iconst (pc := 36) (v := 0) C dX6_init_36 rfl ?_
  refine cw_put (pc := 37) C [.ref q7, .ref q15, .int 0, .int 0, .int 0, .int 0] fp_X6_28 rfl rfl (Nat.le_of_ble_eq_true rfl) rfl dX6_init_37 ?_
  exact cw_ret (pc := 40) C (fun i => if i < 1 then q15 else q7) rfl (Nat.le_refl _) (Nat.le_refl _) dX6_init_40
/-- what SpoonRace$Chances is when it is new: 3 cells, addresses by a -/
def wX0 : WF (Nat → Nat) := fun cA h a => (h, .inr (0, [.ref (a 1), .ref (a 0)])) :: ([((a 0), .inl (cA 1, 44, .inr (.inl (fun _ => 0)))), ((a 1), .inl (cA 1, 44, .inr (.inl (fun _ => 0))))])
set_option maxRecDepth 100000 in
theorem c_X0_init : CMet Y_X0_init 0 [.null, .null] wX0 2 88 := by
  refine cm_intro (by decide +kernel) rfl rfl (Nat.le_of_ble_eq_true rfl) (fun K C => ?_)
  refine cw_aload (pc := 0) C 0 dX0_init_0 rfl ?_
  refine cw_obj (pc := 1) C (WT_mem (t1_in (List.mem_of_getElem? (i := 136) rfl)) rfl) dX0_init_1 ⟨Nat.le_of_ble_eq_true rfl, Nat.le_of_ble_eq_true rfl⟩ rfl ?_
  refine cw_aload (pc := 4) C 0 dX0_init_4 rfl ?_
  refine cw_bipush (pc := 5) (v := 44) C dX0_init_5 rfl ?_
  refine cw_newL (pc := 7) C 44 (by decide) (by decide) (by decide) (Nat.le_of_ble_eq_true rfl) (Nat.le_of_ble_eq_true rfl) dX0_init_7 (fun q7 => ?_)
  refine cw_conv (fs' := [.null, .null]) (tl' := [(q7, .inl (K.g.2 1, 44, .inr (.inl (fun _ => 0))))]) rfl rfl rfl rfl ?_
  refine cw_putF (pc := 9) (j := 0) (N := 2) (T := TX0) (ty := tyX0 0) C [.ref q7, .null] tyX0 rfl tyX0_ok nmX0 fl_X0_11 rfl rfl (tyX0_ok 0 (by decide)) rfl rfl (Nat.le_of_ble_eq_true rfl) rfl dX0_init_9 ?_
  refine cw_aload (pc := 12) C 0 dX0_init_12 rfl ?_
  refine cw_bipush (pc := 13) (v := 44) C dX0_init_13 rfl ?_
  refine cw_newL (pc := 15) C 44 (by decide) (by decide) (by decide) (Nat.le_of_ble_eq_true rfl) (Nat.le_of_ble_eq_true rfl) dX0_init_15 (fun q15 => ?_)
  refine cw_conv (fs' := [.ref q7, .null]) (tl' := [(q15, .inl (K.g.2 1, 44, .inr (.inl (fun _ => 0)))), (q7, .inl (K.g.2 1, 44, .inr (.inl (fun _ => 0))))]) rfl rfl rfl rfl ?_
  refine cw_putF (pc := 17) (j := 1) (N := 2) (T := TX0) (ty := tyX0 1) C [.ref q7, .ref q15] tyX0 rfl tyX0_ok nmX0 fl_X0_15 rfl rfl (tyX0_ok 1 (by decide)) rfl rfl (Nat.le_of_ble_eq_true rfl) rfl dX0_init_17 ?_
  exact cw_ret (pc := 20) C (fun i => if i < 1 then q15 else q7) rfl (Nat.le_refl _) (Nat.le_refl _) dX0_init_20
/-- what SpoonRace$Means is when it is new: 4 cells, addresses by a -/
def wX1 : WF (Nat → Nat) := fun cA h a => (h, .inr (1, [.ref (a 2), .ref (a 1), .ref (a 0)])) :: ([((a 0), .inl (cA 0, 120, .inl (fun _ => 0))), ((a 1), .inl (cA 0, 4, .inl (fun _ => 0))), ((a 2), .inl (cA 0, 4, .inl (fun _ => 0)))])
set_option maxRecDepth 100000 in
theorem c_X1_init : CMet Y_X1_init 1 [.null, .null, .null] wX1 3 128 := by
  refine cm_intro (by decide +kernel) rfl rfl (Nat.le_of_ble_eq_true rfl) (fun K C => ?_)
  refine cw_aload (pc := 0) C 0 dX1_init_0 rfl ?_
  refine cw_obj (pc := 1) C (WT_mem (t1_in (List.mem_of_getElem? (i := 120) rfl)) rfl) dX1_init_1 ⟨Nat.le_of_ble_eq_true rfl, Nat.le_of_ble_eq_true rfl⟩ rfl ?_
  refine cw_aload (pc := 4) C 0 dX1_init_4 rfl ?_
  refine cw_iconst (pc := 5) (v := 4) C dX1_init_5 rfl ?_
  refine cw_newI (pc := 6) C 4 (by decide) (by decide) (by decide) (Nat.le_of_ble_eq_true rfl) (Nat.le_of_ble_eq_true rfl) dX1_init_6 (fun q6 => ?_)
  refine cw_conv (fs' := [.null, .null, .null]) (tl' := [(q6, .inl (K.g.2 0, 4, .inl (fun _ => 0)))]) rfl rfl rfl rfl ?_
  refine cw_putF (pc := 8) (j := 0) (N := 3) (T := TX1) (ty := tyX1 0) C [.ref q6, .null, .null] tyX1 rfl tyX1_ok nmX1 fl_X1_9 rfl rfl (tyX1_ok 0 (by decide)) rfl rfl (Nat.le_of_ble_eq_true rfl) rfl dX1_init_8 ?_
  refine cw_aload (pc := 11) C 0 dX1_init_11 rfl ?_
  refine cw_iconst (pc := 12) (v := 4) C dX1_init_12 rfl ?_
  refine cw_newI (pc := 13) C 4 (by decide) (by decide) (by decide) (Nat.le_of_ble_eq_true rfl) (Nat.le_of_ble_eq_true rfl) dX1_init_13 (fun q13 => ?_)
  refine cw_conv (fs' := [.ref q6, .null, .null]) (tl' := [(q13, .inl (K.g.2 0, 4, .inl (fun _ => 0))), (q6, .inl (K.g.2 0, 4, .inl (fun _ => 0)))]) rfl rfl rfl rfl ?_
  refine cw_putF (pc := 15) (j := 1) (N := 3) (T := TX1) (ty := tyX1 1) C [.ref q6, .ref q13, .null] tyX1 rfl tyX1_ok nmX1 fl_X1_15 rfl rfl (tyX1_ok 1 (by decide)) rfl rfl (Nat.le_of_ble_eq_true rfl) rfl dX1_init_15 ?_
  refine cw_aload (pc := 18) C 0 dX1_init_18 rfl ?_
  refine cw_bipush (pc := 19) (v := 120) C dX1_init_19 rfl ?_
  refine cw_newI (pc := 21) C 120 (by decide) (by decide) (by decide) (Nat.le_of_ble_eq_true rfl) (Nat.le_of_ble_eq_true rfl) dX1_init_21 (fun q21 => ?_)
  refine cw_conv (fs' := [.ref q6, .ref q13, .null]) (tl' := [(q21, .inl (K.g.2 0, 120, .inl (fun _ => 0))), (q13, .inl (K.g.2 0, 4, .inl (fun _ => 0))), (q6, .inl (K.g.2 0, 4, .inl (fun _ => 0)))]) rfl rfl rfl rfl ?_
  refine cw_putF (pc := 23) (j := 2) (N := 3) (T := TX1) (ty := tyX1 2) C [.ref q6, .ref q13, .ref q21] tyX1 rfl tyX1_ok nmX1 fl_X1_18 rfl rfl (tyX1_ok 2 (by decide)) rfl rfl (Nat.le_of_ble_eq_true rfl) rfl dX1_init_23 ?_
  exact cw_ret (pc := 26) C (fun i => if i < 1 then q21 else if i < 2 then q13 else q6) rfl (Nat.le_refl _) (Nat.le_refl _) dX1_init_26
/-- what SpoonRace$Team is when it is new: 3 cells, addresses by a -/
def wX7 : WF (Nat → Nat) := fun cA h a => (h, .inr (7, [.ref (a 1), .ref (a 0), .int 0])) :: ([((a 0), .inl (cA 0, 18, .inl (fun _ => 0))), ((a 1), .inl (cA 0, 3, .inl (fun _ => 0)))])
set_option maxRecDepth 100000 in
theorem c_X7_init : CMet Y_X7_init 7 [.null, .null, .int 0] wX7 2 21 := by
  refine cm_intro (by decide +kernel) rfl rfl (Nat.le_of_ble_eq_true rfl) (fun K C => ?_)
  refine cw_aload (pc := 0) C 0 dX7_init_0 rfl ?_
  refine cw_obj (pc := 1) C (WT_mem (t1_in (List.mem_of_getElem? (i := 150) rfl)) rfl) dX7_init_1 ⟨Nat.le_of_ble_eq_true rfl, Nat.le_of_ble_eq_true rfl⟩ rfl ?_
  refine cw_aload (pc := 4) C 0 dX7_init_4 rfl ?_
  refine cw_iconst (pc := 5) (v := 3) C dX7_init_5 rfl ?_
  refine cw_newI (pc := 6) C 3 (by decide) (by decide) (by decide) (Nat.le_of_ble_eq_true rfl) (Nat.le_of_ble_eq_true rfl) dX7_init_6 (fun q6 => ?_)
  refine cw_conv (fs' := [.null, .null, .int 0]) (tl' := [(q6, .inl (K.g.2 0, 3, .inl (fun _ => 0)))]) rfl rfl rfl rfl ?_
  refine cw_putF (pc := 8) (j := 0) (N := 3) (T := TX7) (ty := tyX7 0) C [.ref q6, .null, .int 0] tyX7 rfl tyX7_ok nmX7 fl_X7_9 rfl rfl (tyX7_ok 0 (by decide)) rfl rfl (Nat.le_of_ble_eq_true rfl) rfl dX7_init_8 ?_
  refine cw_aload (pc := 11) C 0 dX7_init_11 rfl ?_
  refine cw_bipush (pc := 12) (v := 18) C dX7_init_12 rfl ?_
  refine cw_newI (pc := 14) C 18 (by decide) (by decide) (by decide) (Nat.le_of_ble_eq_true rfl) (Nat.le_of_ble_eq_true rfl) dX7_init_14 (fun q14 => ?_)
  refine cw_conv (fs' := [.ref q6, .null, .int 0]) (tl' := [(q14, .inl (K.g.2 0, 18, .inl (fun _ => 0))), (q6, .inl (K.g.2 0, 3, .inl (fun _ => 0)))]) rfl rfl rfl rfl ?_
  refine cw_putF (pc := 16) (j := 1) (N := 3) (T := TX7) (ty := tyX7 1) C [.ref q6, .ref q14, .int 0] tyX7 rfl tyX7_ok nmX7 fl_X7_15 rfl rfl (tyX7_ok 1 (by decide)) rfl rfl (Nat.le_of_ble_eq_true rfl) rfl dX7_init_16 ?_
  exact cw_ret (pc := 19) C (fun i => if i < 1 then q14 else q6) rfl (Nat.le_refl _) (Nat.le_refl _) dX7_init_19
theorem li_X3_11 : LnkI RX3 11 Y_X6_init := ⟨(WT_mem (t1_in (List.mem_of_getElem? (i := 172) rfl)) rfl), (WT_mem (t1_in (List.mem_of_getElem? (i := 9) rfl)) rfl), (WT_mem (t1_in (List.mem_of_getElem? (i := 170) rfl)) rfl), (WT_mem (t1_in (List.mem_of_getElem? (i := 171) rfl)) rfl), rfl, rfl, ⟨by decide +kernel, by decide +kernel, by decide +kernel⟩, by decide⟩
/-- what SpoonRace$Reader is when it is new: 4 cells, addresses by a -/
def wX3 : WF ((Nat → Nat) × (Nat → (Nat → Nat))) := fun cA h a => (h, .inr (3, [.ref (a.1 0)])) :: (wX6 cA (a.1 0) (a.2 0))
set_option maxRecDepth 100000 in
theorem c_X3_init : CMet Y_X3_init 3 [.null] wX3 3 246 := by
  refine cm_intro (by decide +kernel) rfl rfl (Nat.le_of_ble_eq_true rfl) (fun K C => ?_)
  refine cw_aload (pc := 0) C 0 dX3_init_0 rfl ?_
  refine cw_obj (pc := 1) C (WT_mem (t1_in (List.mem_of_getElem? (i := 167) rfl)) rfl) dX3_init_1 ⟨Nat.le_of_ble_eq_true rfl, Nat.le_of_ble_eq_true rfl⟩ rfl ?_
  refine cw_aload (pc := 4) C 0 dX3_init_4 rfl ?_
  refine cw_new (pc := 5) (cj := 6) (E := RX6) (T := TX6) (N := 6) C [.null, .null, .int 0, .int 0, .int 0, .int 0] tyX6 rfl tyX6_ok (by decide) (WT_mem (t1_in (List.mem_of_getElem? (i := 168) rfl)) rfl) (WT_mem (t1_in (List.mem_of_getElem? (i := 169) rfl)) rfl) (WT_mem (t1_in (List.mem_of_getElem? (i := 9) rfl)) rfl) (Nat.le_of_ble_eq_true rfl) (Nat.le_of_ble_eq_true rfl) dX3_init_5 (fun o0 => ?_)
  refine cw_conv (fs' := [.null]) (tl' := [(o0, .inr (6, [.null, .null, .int 0, .int 0, .int 0, .int 0]))]) rfl rfl rfl rfl ?_
  refine cw_dup (pc := 8) C dX3_init_8 ?_
  refine cw_callI (pc := 9) (t1 := []) C c_X6_init li_X3_11 ⟨Nat.le_of_ble_eq_true rfl, Nat.le_of_ble_eq_true rfl⟩ (Nat.le_of_ble_eq_true rfl) ⟨Nat.le_of_ble_eq_true rfl, Nat.le_of_ble_eq_true rfl⟩ rfl dX3_init_9 (fun a1 => ?_)
  refine cw_conv (fs' := [.null]) (tl' := wX6 (K.g.2) o0 a1) rfl rfl rfl rfl ?_
  refine cw_putF (pc := 12) (j := 0) (N := 1) (T := TX3) (ty := tyX3 0) C [.ref o0] tyX3 rfl tyX3_ok nmX3 fl_X3_12 rfl rfl (tyX3_ok 0 (by decide)) rfl rfl (Nat.le_of_ble_eq_true rfl) rfl dX3_init_12 ?_
  exact cw_ret (pc := 15) C (fun _ => o0, fun _ => a1) rfl (Nat.le_refl _) (Nat.le_refl _) dX3_init_15
