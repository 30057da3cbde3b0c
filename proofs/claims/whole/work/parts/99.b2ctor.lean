/-! a new MEET -/
theorem li_X2_34 : LnkI RX2 34 Y_X4_init := ⟨(WT_mem (t1_in (List.mem_of_getElem? (i := 38) rfl)) rfl), (WT_mem (t1_in (List.mem_of_getElem? (i := 3) rfl)) rfl), (WT_mem (t1_in (List.mem_of_getElem? (i := 36) rfl)) rfl), (WT_mem (t1_in (List.mem_of_getElem? (i := 37) rfl)) rfl), rfl, rfl, ⟨by decide +kernel, by decide +kernel, by decide +kernel⟩, by decide⟩
/-- what SpoonRace$Meet is when it is new: 16 cells, addresses by a -/
def wX2 : WF ((Nat → Nat) × (Nat → (Nat → Nat))) := fun cA h a => (h, .inr (2, [.ref (a.1 8), .ref (a.1 7), .ref (a.1 6), .int 0, .int 25, .int 1])) :: (wX4 cA (a.1 0) (a.2 0) ++ (wX4 cA (a.1 1) (a.2 1) ++ (wX4 cA (a.1 2) (a.2 2) ++ (wX4 cA (a.1 3) (a.2 3) ++ (wX4 cA (a.1 4) (a.2 4) ++ (wX4 cA (a.1 5) (a.2 5) ++ ([((a.1 6), .inl (cA 0, 10, .inl (filK (fun _ => 0) 0 (-1) 10))), ((a.1 7), .inl (cA 2, 6, .inr (.inr (.inr (.inr (va_up (va_up (va_up (va_up (va_up (va_up (fun _ => none) 0 (some (a.1 5))) 1 (some (a.1 4))) 2 (some (a.1 3))) 3 (some (a.1 2))) 4 (some (a.1 1))) 5 (some (a.1 0)))))))), ((a.1 8), .inl (cA 0, 30, .inl (fun _ => 0)))])))))))
set_option maxHeartbeats 4000000 in
set_option maxRecDepth 100000 in
theorem c_X2_init : CMet Y_X2_init 2 [.null, .null, .null, .int 0, .int 0, .int 0] wX2 15 274 := by
  refine cm_intro (by decide +kernel) rfl rfl (Nat.le_of_ble_eq_true rfl) (fun K C => ?_)
  refine cw_aload (pc := 0) C 0 dX2_init_0 rfl ?_
  refine cw_obj (pc := 1) C (WT_mem (t1_in (List.mem_of_getElem? (i := 32) rfl)) rfl) dX2_init_1 ⟨Nat.le_of_ble_eq_true rfl, Nat.le_of_ble_eq_true rfl⟩ rfl ?_
  refine cw_aload (pc := 4) C 0 dX2_init_4 rfl ?_
  refine cw_bipush (pc := 5) (v := 30) C dX2_init_5 rfl ?_
  refine cw_newI (pc := 7) C 30 (by decide) (by decide) (by decide) (Nat.le_of_ble_eq_true rfl) (Nat.le_of_ble_eq_true rfl) dX2_init_7 (fun q7 => ?_)
  refine cw_conv (fs' := [.null, .null, .null, .int 0, .int 0, .int 0]) (tl' := [(q7, .inl (K.g.2 0, 30, .inl (fun _ => 0)))]) rfl rfl rfl rfl ?_
  refine cw_putF (pc := 9) (j := 0) (N := 6) (T := TX2) (ty := tyX2 0) C [.ref q7, .null, .null, .int 0, .int 0, .int 0] tyX2 rfl tyX2_ok nmX2 fl_X2_9 rfl rfl (tyX2_ok 0 (by decide)) rfl rfl (Nat.le_of_ble_eq_true rfl) rfl dX2_init_9 ?_
  refine cw_aload (pc := 12) C 0 dX2_init_12 rfl ?_
  refine cw_bipush (pc := 13) (v := 6) C dX2_init_13 rfl ?_
  refine cw_newA (pc := 15) C 6 2 rfl C.2.2.2.2.2.2.2.1.2.1 (WT_mem (t1_in (List.mem_of_getElem? (i := 33) rfl)) rfl) (by decide) (by decide) (by decide) (Nat.le_of_ble_eq_true rfl) (Nat.le_of_ble_eq_true rfl) dX2_init_15 (fun q15 => ?_)
  refine cw_conv (fs' := [.ref q7, .null, .null, .int 0, .int 0, .int 0]) (tl' := [(q15, .inl (K.g.2 2, 6, .inr (.inr (.inr (.inr (fun _ => none)))))), (q7, .inl (K.g.2 0, 30, .inl (fun _ => 0)))]) rfl rfl rfl rfl ?_
  refine cw_putF (pc := 18) (j := 1) (N := 6) (T := TX2) (ty := tyX2 1) C [.ref q7, .ref q15, .null, .int 0, .int 0, .int 0] tyX2 rfl tyX2_ok nmX2 fl_X2_17 rfl rfl (tyX2_ok 1 (by decide)) rfl rfl (Nat.le_of_ble_eq_true rfl) rfl dX2_init_18 ?_
  refine cw_aload (pc := 21) C 0 dX2_init_21 rfl ?_
  refine cw_bipush (pc := 22) (v := 10) C dX2_init_22 rfl ?_
  refine cw_newI (pc := 24) C 10 (by decide) (by decide) (by decide) (Nat.le_of_ble_eq_true rfl) (Nat.le_of_ble_eq_true rfl) dX2_init_24 (fun q24 => ?_)
  refine cw_conv (fs' := [.ref q7, .ref q15, .null, .int 0, .int 0, .int 0]) (tl' := [(q24, .inl (K.g.2 0, 10, .inl (fun _ => 0))), (q15, .inl (K.g.2 2, 6, .inr (.inr (.inr (.inr (fun _ => none)))))), (q7, .inl (K.g.2 0, 30, .inl (fun _ => 0)))]) rfl rfl rfl rfl ?_
  refine cw_putF (pc := 26) (j := 2) (N := 6) (T := TX2) (ty := tyX2 2) C [.ref q7, .ref q15, .ref q24, .int 0, .int 0, .int 0] tyX2 rfl tyX2_ok nmX2 fl_X2_21 rfl rfl (tyX2_ok 2 (by decide)) rfl rfl (Nat.le_of_ble_eq_true rfl) rfl dX2_init_26 ?_
  refine cw_aload (pc := 29) C 0 dX2_init_29 rfl ?_
  refine cw_iconst (pc := 30) (v := 0) C dX2_init_30 rfl ?_
  refine cw_put (pc := 31) C [.ref q7, .ref q15, .ref q24, .int 0, .int 0, .int 0] fp_X2_24 rfl rfl (Nat.le_of_ble_eq_true rfl) rfl dX2_init_31 ?_
  refine cw_aload (pc := 34) C 0 dX2_init_34 rfl ?_
  refine cw_bipush (pc := 35) (v := 25) C dX2_init_35 rfl ?_
  refine cw_put (pc := 37) C [.ref q7, .ref q15, .ref q24, .int 0, .int 25, .int 0] fp_X2_28 rfl rfl (Nat.le_of_ble_eq_true rfl) rfl dX2_init_37 ?_
  refine cw_aload (pc := 40) C 0 dX2_init_40 rfl ?_
  refine cw_iconst (pc := 41) (v := 1) C dX2_init_41 rfl ?_
  refine cw_put (pc := 42) C [.ref q7, .ref q15, .ref q24, .int 0, .int 25, .int 1] fp_X2_31 rfl rfl (Nat.le_of_ble_eq_true rfl) rfl dX2_init_42 ?_
  refine cw_iconst (pc := 45) (v := 0) C dX2_init_45 rfl ?_
  refine cw_istore (pc := 46) C [(1, .int 0), (0, .ref K.h)] dX2_init_46 (Nat.le_of_ble_eq_true rfl) rfl ?_
  refine cw_iload (pc := 47) C 0 dX2_init_47 rfl ?_
  refine cw_bipush (pc := 48) (v := 6) C dX2_init_48 rfl ?_
  refine cw_geF (pc := 50) C 72 dX2_init_50 (by decide) (by decide) ?_
  refine cw_aload (pc := 53) C 1 dX2_init_53 rfl ?_
  refine cw_get (pc := 54) C fl_X2_17 rfl dX2_init_54 ?_
  refine cw_iload (pc := 57) C 0 dX2_init_57 rfl ?_
  refine cw_new (pc := 58) (cj := 4) (E := RX4) (T := TX4) (N := 8) C [.null, .int 0, .int 0, .int 0, .int 0, .int 0, .int 0, .int 0] tyX4 rfl tyX4_ok (by decide) (WT_mem (t1_in (List.mem_of_getElem? (i := 33) rfl)) rfl) (WT_mem (t1_in (List.mem_of_getElem? (i := 35) rfl)) rfl) (WT_mem (t1_in (List.mem_of_getElem? (i := 3) rfl)) rfl) (Nat.le_of_ble_eq_true rfl) (Nat.le_of_ble_eq_true rfl) dX2_init_58 (fun o3 => ?_)
  refine cw_conv (fs' := [.ref q7, .ref q15, .ref q24, .int 0, .int 25, .int 1]) (tl' := [(o3, .inr (4, [.null, .int 0, .int 0, .int 0, .int 0, .int 0, .int 0, .int 0])), (q24, .inl (K.g.2 0, 10, .inl (fun _ => 0))), (q15, .inl (K.g.2 2, 6, .inr (.inr (.inr (.inr (fun _ => none)))))), (q7, .inl (K.g.2 0, 30, .inl (fun _ => 0)))]) rfl rfl rfl rfl ?_
  refine cw_dup (pc := 61) C dX2_init_61 ?_
  refine cw_callI (pc := 62) (t1 := [(q24, .inl (K.g.2 0, 10, .inl (fun _ => 0))), (q15, .inl (K.g.2 2, 6, .inr (.inr (.inr (.inr (fun _ => none)))))), (q7, .inl (K.g.2 0, 30, .inl (fun _ => 0)))]) C c_X4_init li_X2_34 ⟨Nat.le_of_ble_eq_true rfl, Nat.le_of_ble_eq_true rfl⟩ (Nat.le_of_ble_eq_true rfl) ⟨Nat.le_of_ble_eq_true rfl, Nat.le_of_ble_eq_true rfl⟩ rfl dX2_init_62 (fun a4 => ?_)
  refine cw_conv (fs' := [.ref q7, .ref q15, .ref q24, .int 0, .int 25, .int 1]) (tl' := wX4 (K.g.2) o3 a4 ++ ([(q24, .inl (K.g.2 0, 10, .inl (fun _ => 0))), (q15, .inl (K.g.2 2, 6, .inr (.inr (.inr (.inr (fun _ => none)))))), (q7, .inl (K.g.2 0, 30, .inl (fun _ => 0)))])) rfl rfl rfl rfl ?_
  refine cw_astq (pc := 65) (r := (RX4, TX4, 8)) (N := 6) C (wX4 (K.g.2) o3 a4 ++ ([(q24, .inl (K.g.2 0, 10, .inl (fun _ => 0))), (q15, .inl (K.g.2 2, 6, .inr (.inr (.inr (.inr (va_up (fun _ => none) 0 (some o3))))))), (q7, .inl (K.g.2 0, 30, .inl (fun _ => 0)))])) 3 2 0 rfl rfl rfl rfl (show vp_in (nI 0) 6 from vp_in_nI (by decide) (by decide)) rfl dX2_init_65 ?_
  refine cw_iinc (pc := 66) (j := 0) (v := 1) C [(1, .int 1), (0, .ref K.h)] dX2_init_66 rfl (by decide) (Nat.le_of_ble_eq_true rfl) rfl ?_
  refine cw_goto (pc := 69) C 47 dX2_init_69 (by decide) ?_
  refine cw_iload (pc := 47) C 0 dX2_init_47 rfl ?_
  refine cw_bipush (pc := 48) (v := 6) C dX2_init_48 rfl ?_
  refine cw_geF (pc := 50) C 72 dX2_init_50 (by decide) (by decide) ?_
  refine cw_aload (pc := 53) C 1 dX2_init_53 rfl ?_
  refine cw_get (pc := 54) C fl_X2_17 rfl dX2_init_54 ?_
  refine cw_iload (pc := 57) C 0 dX2_init_57 rfl ?_
  refine cw_new (pc := 58) (cj := 4) (E := RX4) (T := TX4) (N := 8) C [.null, .int 0, .int 0, .int 0, .int 0, .int 0, .int 0, .int 0] tyX4 rfl tyX4_ok (by decide) (WT_mem (t1_in (List.mem_of_getElem? (i := 33) rfl)) rfl) (WT_mem (t1_in (List.mem_of_getElem? (i := 35) rfl)) rfl) (WT_mem (t1_in (List.mem_of_getElem? (i := 3) rfl)) rfl) (Nat.le_of_ble_eq_true rfl) (Nat.le_of_ble_eq_true rfl) dX2_init_58 (fun o5 => ?_)
  refine cw_conv (fs' := [.ref q7, .ref q15, .ref q24, .int 0, .int 25, .int 1]) (tl' := [(o5, .inr (4, [.null, .int 0, .int 0, .int 0, .int 0, .int 0, .int 0, .int 0]))] ++ (wX4 (K.g.2) o3 a4 ++ ([(q24, .inl (K.g.2 0, 10, .inl (fun _ => 0))), (q15, .inl (K.g.2 2, 6, .inr (.inr (.inr (.inr (va_up (fun _ => none) 0 (some o3))))))), (q7, .inl (K.g.2 0, 30, .inl (fun _ => 0)))]))) rfl rfl rfl rfl ?_
  refine cw_dup (pc := 61) C dX2_init_61 ?_
  refine cw_callI (pc := 62) (t1 := wX4 (K.g.2) o3 a4 ++ ([(q24, .inl (K.g.2 0, 10, .inl (fun _ => 0))), (q15, .inl (K.g.2 2, 6, .inr (.inr (.inr (.inr (va_up (fun _ => none) 0 (some o3))))))), (q7, .inl (K.g.2 0, 30, .inl (fun _ => 0)))])) C c_X4_init li_X2_34 ⟨Nat.le_of_ble_eq_true rfl, Nat.le_of_ble_eq_true rfl⟩ (Nat.le_of_ble_eq_true rfl) ⟨Nat.le_of_ble_eq_true rfl, Nat.le_of_ble_eq_true rfl⟩ rfl dX2_init_62 (fun a6 => ?_)
  refine cw_conv (fs' := [.ref q7, .ref q15, .ref q24, .int 0, .int 25, .int 1]) (tl' := wX4 (K.g.2) o5 a6 ++ (wX4 (K.g.2) o3 a4 ++ ([(q24, .inl (K.g.2 0, 10, .inl (fun _ => 0))), (q15, .inl (K.g.2 2, 6, .inr (.inr (.inr (.inr (va_up (fun _ => none) 0 (some o3))))))), (q7, .inl (K.g.2 0, 30, .inl (fun _ => 0)))]))) rfl rfl rfl rfl ?_
  refine cw_astq (pc := 65) (r := (RX4, TX4, 8)) (N := 6) C (wX4 (K.g.2) o5 a6 ++ (wX4 (K.g.2) o3 a4 ++ ([(q24, .inl (K.g.2 0, 10, .inl (fun _ => 0))), (q15, .inl (K.g.2 2, 6, .inr (.inr (.inr (.inr (va_up (va_up (fun _ => none) 0 (some o3)) 1 (some o5))))))), (q7, .inl (K.g.2 0, 30, .inl (fun _ => 0)))]))) 5 2 0 rfl rfl rfl rfl (show vp_in (nI 1) 6 from vp_in_nI (by decide) (by decide)) rfl dX2_init_65 ?_
  refine cw_iinc (pc := 66) (j := 0) (v := 2) C [(1, .int 2), (0, .ref K.h)] dX2_init_66 rfl (by decide) (Nat.le_of_ble_eq_true rfl) rfl ?_
  refine cw_goto (pc := 69) C 47 dX2_init_69 (by decide) ?_
  refine cw_iload (pc := 47) C 0 dX2_init_47 rfl ?_
  refine cw_bipush (pc := 48) (v := 6) C dX2_init_48 rfl ?_
  refine cw_geF (pc := 50) C 72 dX2_init_50 (by decide) (by decide) ?_
  refine cw_aload (pc := 53) C 1 dX2_init_53 rfl ?_
  refine cw_get (pc := 54) C fl_X2_17 rfl dX2_init_54 ?_
  refine cw_iload (pc := 57) C 0 dX2_init_57 rfl ?_
  refine cw_new (pc := 58) (cj := 4) (E := RX4) (T := TX4) (N := 8) C [.null, .int 0, .int 0, .int 0, .int 0, .int 0, .int 0, .int 0] tyX4 rfl tyX4_ok (by decide) (WT_mem (t1_in (List.mem_of_getElem? (i := 33) rfl)) rfl) (WT_mem (t1_in (List.mem_of_getElem? (i := 35) rfl)) rfl) (WT_mem (t1_in (List.mem_of_getElem? (i := 3) rfl)) rfl) (Nat.le_of_ble_eq_true rfl) (Nat.le_of_ble_eq_true rfl) dX2_init_58 (fun o7 => ?_)
  refine cw_conv (fs' := [.ref q7, .ref q15, .ref q24, .int 0, .int 25, .int 1]) (tl' := [(o7, .inr (4, [.null, .int 0, .int 0, .int 0, .int 0, .int 0, .int 0, .int 0]))] ++ (wX4 (K.g.2) o5 a6 ++ (wX4 (K.g.2) o3 a4 ++ ([(q24, .inl (K.g.2 0, 10, .inl (fun _ => 0))), (q15, .inl (K.g.2 2, 6, .inr (.inr (.inr (.inr (va_up (va_up (fun _ => none) 0 (some o3)) 1 (some o5))))))), (q7, .inl (K.g.2 0, 30, .inl (fun _ => 0)))])))) rfl rfl rfl rfl ?_
  refine cw_dup (pc := 61) C dX2_init_61 ?_
  refine cw_callI (pc := 62) (t1 := wX4 (K.g.2) o5 a6 ++ (wX4 (K.g.2) o3 a4 ++ ([(q24, .inl (K.g.2 0, 10, .inl (fun _ => 0))), (q15, .inl (K.g.2 2, 6, .inr (.inr (.inr (.inr (va_up (va_up (fun _ => none) 0 (some o3)) 1 (some o5))))))), (q7, .inl (K.g.2 0, 30, .inl (fun _ => 0)))]))) C c_X4_init li_X2_34 ⟨Nat.le_of_ble_eq_true rfl, Nat.le_of_ble_eq_true rfl⟩ (Nat.le_of_ble_eq_true rfl) ⟨Nat.le_of_ble_eq_true rfl, Nat.le_of_ble_eq_true rfl⟩ rfl dX2_init_62 (fun a8 => ?_)
  refine cw_conv (fs' := [.ref q7, .ref q15, .ref q24, .int 0, .int 25, .int 1]) (tl' := wX4 (K.g.2) o7 a8 ++ (wX4 (K.g.2) o5 a6 ++ (wX4 (K.g.2) o3 a4 ++ ([(q24, .inl (K.g.2 0, 10, .inl (fun _ => 0))), (q15, .inl (K.g.2 2, 6, .inr (.inr (.inr (.inr (va_up (va_up (fun _ => none) 0 (some o3)) 1 (some o5))))))), (q7, .inl (K.g.2 0, 30, .inl (fun _ => 0)))])))) rfl rfl rfl rfl ?_
  refine cw_astq (pc := 65) (r := (RX4, TX4, 8)) (N := 6) C (wX4 (K.g.2) o7 a8 ++ (wX4 (K.g.2) o5 a6 ++ (wX4 (K.g.2) o3 a4 ++ ([(q24, .inl (K.g.2 0, 10, .inl (fun _ => 0))), (q15, .inl (K.g.2 2, 6, .inr (.inr (.inr (.inr (va_up (va_up (va_up (fun _ => none) 0 (some o3)) 1 (some o5)) 2 (some o7))))))), (q7, .inl (K.g.2 0, 30, .inl (fun _ => 0)))])))) 7 2 0 rfl rfl rfl rfl (show vp_in (nI 2) 6 from vp_in_nI (by decide) (by decide)) rfl dX2_init_65 ?_
  refine cw_iinc (pc := 66) (j := 0) (v := 3) C [(1, .int 3), (0, .ref K.h)] dX2_init_66 rfl (by decide) (Nat.le_of_ble_eq_true rfl) rfl ?_
  refine cw_goto (pc := 69) C 47 dX2_init_69 (by decide) ?_
  refine cw_iload (pc := 47) C 0 dX2_init_47 rfl ?_
  refine cw_bipush (pc := 48) (v := 6) C dX2_init_48 rfl ?_
  refine cw_geF (pc := 50) C 72 dX2_init_50 (by decide) (by decide) ?_
  refine cw_aload (pc := 53) C 1 dX2_init_53 rfl ?_
  refine cw_get (pc := 54) C fl_X2_17 rfl dX2_init_54 ?_
  refine cw_iload (pc := 57) C 0 dX2_init_57 rfl ?_
  refine cw_new (pc := 58) (cj := 4) (E := RX4) (T := TX4) (N := 8) C [.null, .int 0, .int 0, .int 0, .int 0, .int 0, .int 0, .int 0] tyX4 rfl tyX4_ok (by decide) (WT_mem (t1_in (List.mem_of_getElem? (i := 33) rfl)) rfl) (WT_mem (t1_in (List.mem_of_getElem? (i := 35) rfl)) rfl) (WT_mem (t1_in (List.mem_of_getElem? (i := 3) rfl)) rfl) (Nat.le_of_ble_eq_true rfl) (Nat.le_of_ble_eq_true rfl) dX2_init_58 (fun o9 => ?_)
  refine cw_conv (fs' := [.ref q7, .ref q15, .ref q24, .int 0, .int 25, .int 1]) (tl' := [(o9, .inr (4, [.null, .int 0, .int 0, .int 0, .int 0, .int 0, .int 0, .int 0]))] ++ (wX4 (K.g.2) o7 a8 ++ (wX4 (K.g.2) o5 a6 ++ (wX4 (K.g.2) o3 a4 ++ ([(q24, .inl (K.g.2 0, 10, .inl (fun _ => 0))), (q15, .inl (K.g.2 2, 6, .inr (.inr (.inr (.inr (va_up (va_up (va_up (fun _ => none) 0 (some o3)) 1 (some o5)) 2 (some o7))))))), (q7, .inl (K.g.2 0, 30, .inl (fun _ => 0)))]))))) rfl rfl rfl rfl ?_
  refine cw_dup (pc := 61) C dX2_init_61 ?_
  refine cw_callI (pc := 62) (t1 := wX4 (K.g.2) o7 a8 ++ (wX4 (K.g.2) o5 a6 ++ (wX4 (K.g.2) o3 a4 ++ ([(q24, .inl (K.g.2 0, 10, .inl (fun _ => 0))), (q15, .inl (K.g.2 2, 6, .inr (.inr (.inr (.inr (va_up (va_up (va_up (fun _ => none) 0 (some o3)) 1 (some o5)) 2 (some o7))))))), (q7, .inl (K.g.2 0, 30, .inl (fun _ => 0)))])))) C c_X4_init li_X2_34 ⟨Nat.le_of_ble_eq_true rfl, Nat.le_of_ble_eq_true rfl⟩ (Nat.le_of_ble_eq_true rfl) ⟨Nat.le_of_ble_eq_true rfl, Nat.le_of_ble_eq_true rfl⟩ rfl dX2_init_62 (fun a10 => ?_)
  refine cw_conv (fs' := [.ref q7, .ref q15, .ref q24, .int 0, .int 25, .int 1]) (tl' := wX4 (K.g.2) o9 a10 ++ (wX4 (K.g.2) o7 a8 ++ (wX4 (K.g.2) o5 a6 ++ (wX4 (K.g.2) o3 a4 ++ ([(q24, .inl (K.g.2 0, 10, .inl (fun _ => 0))), (q15, .inl (K.g.2 2, 6, .inr (.inr (.inr (.inr (va_up (va_up (va_up (fun _ => none) 0 (some o3)) 1 (some o5)) 2 (some o7))))))), (q7, .inl (K.g.2 0, 30, .inl (fun _ => 0)))]))))) rfl rfl rfl rfl ?_
  refine cw_astq (pc := 65) (r := (RX4, TX4, 8)) (N := 6) C (wX4 (K.g.2) o9 a10 ++ (wX4 (K.g.2) o7 a8 ++ (wX4 (K.g.2) o5 a6 ++ (wX4 (K.g.2) o3 a4 ++ ([(q24, .inl (K.g.2 0, 10, .inl (fun _ => 0))), (q15, .inl (K.g.2 2, 6, .inr (.inr (.inr (.inr (va_up (va_up (va_up (va_up (fun _ => none) 0 (some o3)) 1 (some o5)) 2 (some o7)) 3 (some o9))))))), (q7, .inl (K.g.2 0, 30, .inl (fun _ => 0)))]))))) 9 2 0 rfl rfl rfl rfl (show vp_in (nI 3) 6 from vp_in_nI (by decide) (by decide)) rfl dX2_init_65 ?_
  refine cw_iinc (pc := 66) (j := 0) (v := 4) C [(1, .int 4), (0, .ref K.h)] dX2_init_66 rfl (by decide) (Nat.le_of_ble_eq_true rfl) rfl ?_
  refine cw_goto (pc := 69) C 47 dX2_init_69 (by decide) ?_
  refine cw_iload (pc := 47) C 0 dX2_init_47 rfl ?_
  refine cw_bipush (pc := 48) (v := 6) C dX2_init_48 rfl ?_
  refine cw_geF (pc := 50) C 72 dX2_init_50 (by decide) (by decide) ?_
  refine cw_aload (pc := 53) C 1 dX2_init_53 rfl ?_
  refine cw_get (pc := 54) C fl_X2_17 rfl dX2_init_54 ?_
  refine cw_iload (pc := 57) C 0 dX2_init_57 rfl ?_
  refine cw_new (pc := 58) (cj := 4) (E := RX4) (T := TX4) (N := 8) C [.null, .int 0, .int 0, .int 0, .int 0, .int 0, .int 0, .int 0] tyX4 rfl tyX4_ok (by decide) (WT_mem (t1_in (List.mem_of_getElem? (i := 33) rfl)) rfl) (WT_mem (t1_in (List.mem_of_getElem? (i := 35) rfl)) rfl) (WT_mem (t1_in (List.mem_of_getElem? (i := 3) rfl)) rfl) (Nat.le_of_ble_eq_true rfl) (Nat.le_of_ble_eq_true rfl) dX2_init_58 (fun o11 => ?_)
  refine cw_conv (fs' := [.ref q7, .ref q15, .ref q24, .int 0, .int 25, .int 1]) (tl' := [(o11, .inr (4, [.null, .int 0, .int 0, .int 0, .int 0, .int 0, .int 0, .int 0]))] ++ (wX4 (K.g.2) o9 a10 ++ (wX4 (K.g.2) o7 a8 ++ (wX4 (K.g.2) o5 a6 ++ (wX4 (K.g.2) o3 a4 ++ ([(q24, .inl (K.g.2 0, 10, .inl (fun _ => 0))), (q15, .inl (K.g.2 2, 6, .inr (.inr (.inr (.inr (va_up (va_up (va_up (va_up (fun _ => none) 0 (some o3)) 1 (some o5)) 2 (some o7)) 3 (some o9))))))), (q7, .inl (K.g.2 0, 30, .inl (fun _ => 0)))])))))) rfl rfl rfl rfl ?_
  refine cw_dup (pc := 61) C dX2_init_61 ?_
  refine cw_callI (pc := 62) (t1 := wX4 (K.g.2) o9 a10 ++ (wX4 (K.g.2) o7 a8 ++ (wX4 (K.g.2) o5 a6 ++ (wX4 (K.g.2) o3 a4 ++ ([(q24, .inl (K.g.2 0, 10, .inl (fun _ => 0))), (q15, .inl (K.g.2 2, 6, .inr (.inr (.inr (.inr (va_up (va_up (va_up (va_up (fun _ => none) 0 (some o3)) 1 (some o5)) 2 (some o7)) 3 (some o9))))))), (q7, .inl (K.g.2 0, 30, .inl (fun _ => 0)))]))))) C c_X4_init li_X2_34 ⟨Nat.le_of_ble_eq_true rfl, Nat.le_of_ble_eq_true rfl⟩ (Nat.le_of_ble_eq_true rfl) ⟨Nat.le_of_ble_eq_true rfl, Nat.le_of_ble_eq_true rfl⟩ rfl dX2_init_62 (fun a12 => ?_)
  refine cw_conv (fs' := [.ref q7, .ref q15, .ref q24, .int 0, .int 25, .int 1]) (tl' := wX4 (K.g.2) o11 a12 ++ (wX4 (K.g.2) o9 a10 ++ (wX4 (K.g.2) o7 a8 ++ (wX4 (K.g.2) o5 a6 ++ (wX4 (K.g.2) o3 a4 ++ ([(q24, .inl (K.g.2 0, 10, .inl (fun _ => 0))), (q15, .inl (K.g.2 2, 6, .inr (.inr (.inr (.inr (va_up (va_up (va_up (va_up (fun _ => none) 0 (some o3)) 1 (some o5)) 2 (some o7)) 3 (some o9))))))), (q7, .inl (K.g.2 0, 30, .inl (fun _ => 0)))])))))) rfl rfl rfl rfl ?_
  refine cw_astq (pc := 65) (r := (RX4, TX4, 8)) (N := 6) C (wX4 (K.g.2) o11 a12 ++ (wX4 (K.g.2) o9 a10 ++ (wX4 (K.g.2) o7 a8 ++ (wX4 (K.g.2) o5 a6 ++ (wX4 (K.g.2) o3 a4 ++ ([(q24, .inl (K.g.2 0, 10, .inl (fun _ => 0))), (q15, .inl (K.g.2 2, 6, .inr (.inr (.inr (.inr (va_up (va_up (va_up (va_up (va_up (fun _ => none) 0 (some o3)) 1 (some o5)) 2 (some o7)) 3 (some o9)) 4 (some o11))))))), (q7, .inl (K.g.2 0, 30, .inl (fun _ => 0)))])))))) 11 2 0 rfl rfl rfl rfl (show vp_in (nI 4) 6 from vp_in_nI (by decide) (by decide)) rfl dX2_init_65 ?_
  refine cw_iinc (pc := 66) (j := 0) (v := 5) C [(1, .int 5), (0, .ref K.h)] dX2_init_66 rfl (by decide) (Nat.le_of_ble_eq_true rfl) rfl ?_
  refine cw_goto (pc := 69) C 47 dX2_init_69 (by decide) ?_
  refine cw_iload (pc := 47) C 0 dX2_init_47 rfl ?_
  refine cw_bipush (pc := 48) (v := 6) C dX2_init_48 rfl ?_
  refine cw_geF (pc := 50) C 72 dX2_init_50 (by decide) (by decide) ?_
  refine cw_aload (pc := 53) C 1 dX2_init_53 rfl ?_
  refine cw_get (pc := 54) C fl_X2_17 rfl dX2_init_54 ?_
  refine cw_iload (pc := 57) C 0 dX2_init_57 rfl ?_
  refine cw_new (pc := 58) (cj := 4) (E := RX4) (T := TX4) (N := 8) C [.null, .int 0, .int 0, .int 0, .int 0, .int 0, .int 0, .int 0] tyX4 rfl tyX4_ok (by decide) (WT_mem (t1_in (List.mem_of_getElem? (i := 33) rfl)) rfl) (WT_mem (t1_in (List.mem_of_getElem? (i := 35) rfl)) rfl) (WT_mem (t1_in (List.mem_of_getElem? (i := 3) rfl)) rfl) (Nat.le_of_ble_eq_true rfl) (Nat.le_of_ble_eq_true rfl) dX2_init_58 (fun o13 => ?_)
  refine cw_conv (fs' := [.ref q7, .ref q15, .ref q24, .int 0, .int 25, .int 1]) (tl' := [(o13, .inr (4, [.null, .int 0, .int 0, .int 0, .int 0, .int 0, .int 0, .int 0]))] ++ (wX4 (K.g.2) o11 a12 ++ (wX4 (K.g.2) o9 a10 ++ (wX4 (K.g.2) o7 a8 ++ (wX4 (K.g.2) o5 a6 ++ (wX4 (K.g.2) o3 a4 ++ ([(q24, .inl (K.g.2 0, 10, .inl (fun _ => 0))), (q15, .inl (K.g.2 2, 6, .inr (.inr (.inr (.inr (va_up (va_up (va_up (va_up (va_up (fun _ => none) 0 (some o3)) 1 (some o5)) 2 (some o7)) 3 (some o9)) 4 (some o11))))))), (q7, .inl (K.g.2 0, 30, .inl (fun _ => 0)))]))))))) rfl rfl rfl rfl ?_
  refine cw_dup (pc := 61) C dX2_init_61 ?_
  refine cw_callI (pc := 62) (t1 := wX4 (K.g.2) o11 a12 ++ (wX4 (K.g.2) o9 a10 ++ (wX4 (K.g.2) o7 a8 ++ (wX4 (K.g.2) o5 a6 ++ (wX4 (K.g.2) o3 a4 ++ ([(q24, .inl (K.g.2 0, 10, .inl (fun _ => 0))), (q15, .inl (K.g.2 2, 6, .inr (.inr (.inr (.inr (va_up (va_up (va_up (va_up (va_up (fun _ => none) 0 (some o3)) 1 (some o5)) 2 (some o7)) 3 (some o9)) 4 (some o11))))))), (q7, .inl (K.g.2 0, 30, .inl (fun _ => 0)))])))))) C c_X4_init li_X2_34 ⟨Nat.le_of_ble_eq_true rfl, Nat.le_of_ble_eq_true rfl⟩ (Nat.le_of_ble_eq_true rfl) ⟨Nat.le_of_ble_eq_true rfl, Nat.le_of_ble_eq_true rfl⟩ rfl dX2_init_62 (fun a14 => ?_)
  refine cw_conv (fs' := [.ref q7, .ref q15, .ref q24, .int 0, .int 25, .int 1]) (tl' := wX4 (K.g.2) o13 a14 ++ (wX4 (K.g.2) o11 a12 ++ (wX4 (K.g.2) o9 a10 ++ (wX4 (K.g.2) o7 a8 ++ (wX4 (K.g.2) o5 a6 ++ (wX4 (K.g.2) o3 a4 ++ ([(q24, .inl (K.g.2 0, 10, .inl (fun _ => 0))), (q15, .inl (K.g.2 2, 6, .inr (.inr (.inr (.inr (va_up (va_up (va_up (va_up (va_up (fun _ => none) 0 (some o3)) 1 (some o5)) 2 (some o7)) 3 (some o9)) 4 (some o11))))))), (q7, .inl (K.g.2 0, 30, .inl (fun _ => 0)))]))))))) rfl rfl rfl rfl ?_
  refine cw_astq (pc := 65) (r := (RX4, TX4, 8)) (N := 6) C (wX4 (K.g.2) o13 a14 ++ (wX4 (K.g.2) o11 a12 ++ (wX4 (K.g.2) o9 a10 ++ (wX4 (K.g.2) o7 a8 ++ (wX4 (K.g.2) o5 a6 ++ (wX4 (K.g.2) o3 a4 ++ ([(q24, .inl (K.g.2 0, 10, .inl (fun _ => 0))), (q15, .inl (K.g.2 2, 6, .inr (.inr (.inr (.inr (va_up (va_up (va_up (va_up (va_up (va_up (fun _ => none) 0 (some o3)) 1 (some o5)) 2 (some o7)) 3 (some o9)) 4 (some o11)) 5 (some o13))))))), (q7, .inl (K.g.2 0, 30, .inl (fun _ => 0)))]))))))) 13 2 0 rfl rfl rfl rfl (show vp_in (nI 5) 6 from vp_in_nI (by decide) (by decide)) rfl dX2_init_65 ?_
  refine cw_iinc (pc := 66) (j := 0) (v := 6) C [(1, .int 6), (0, .ref K.h)] dX2_init_66 rfl (by decide) (Nat.le_of_ble_eq_true rfl) rfl ?_
  refine cw_goto (pc := 69) C 47 dX2_init_69 (by decide) ?_
  refine cw_iload (pc := 47) C 0 dX2_init_47 rfl ?_
  refine cw_bipush (pc := 48) (v := 6) C dX2_init_48 rfl ?_
  refine cw_geT (pc := 50) C 72 dX2_init_50 (by decide) (by decide) ?_
  refine cw_aload (pc := 72) C 1 dX2_init_72 rfl ?_
  refine cw_get (pc := 73) C fl_X2_21 rfl dX2_init_73 ?_
  refine cw_iconst (pc := 76) (v := (-1)) C dX2_init_76 rfl ?_
  refine cw_fill (pc := 77) (N := 10) C (wX4 (K.g.2) o13 a14 ++ (wX4 (K.g.2) o11 a12 ++ (wX4 (K.g.2) o9 a10 ++ (wX4 (K.g.2) o7 a8 ++ (wX4 (K.g.2) o5 a6 ++ (wX4 (K.g.2) o3 a4 ++ ([(q24, .inl (K.g.2 0, 10, .inl (filK (fun _ => 0) 0 (-1) 10))), (q15, .inl (K.g.2 2, 6, .inr (.inr (.inr (.inr (va_up (va_up (va_up (va_up (va_up (va_up (fun _ => none) 0 (some o3)) 1 (some o5)) 2 (some o7)) 3 (some o9)) 4 (some o11)) 5 (some o13))))))), (q7, .inl (K.g.2 0, 30, .inl (fun _ => 0)))]))))))) 12 lk_X2_35 ⟨Nat.le_of_ble_eq_true rfl, Nat.le_of_ble_eq_true rfl⟩ rfl (by decide) (Nat.le_of_ble_eq_true rfl) rfl ⟨Nat.le_of_ble_eq_true rfl, Nat.le_of_ble_eq_true rfl⟩ dX2_init_77 ?_
  exact cw_ret (pc := 80) C (fun i => if i < 1 then o13 else if i < 2 then o11 else if i < 3 then o9 else if i < 4 then o7 else if i < 5 then o5 else if i < 6 then o3 else if i < 7 then q24 else if i < 8 then q15 else q7, fun i => if i < 1 then a14 else if i < 2 then a12 else if i < 3 then a10 else if i < 4 then a8 else if i < 5 then a6 else a4) rfl (Nat.le_refl _) (Nat.le_refl _) dX2_init_80
