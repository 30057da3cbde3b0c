/-! a new reference -/
/-- what SpoonRaceModel is when it is new: 13 cells, addresses by a -/
def wX9 : WF (Nat → Nat) := fun cA h a => (h, .inr (9, [.ref (a 11), .ref (a 10), .ref (a 9), .int 0, .ref (a 8), .ref (a 7), .ref (a 6), .ref (a 5), .ref (a 4), .ref (a 3), .int 0, .int 0, .int 0, .int 0, .int 0, .int 0, .ref (a 2), .ref (a 1), .ref (a 0)])) :: ([((a 0), .inl (cA 0, 160, .inl (fun _ => 0))), ((a 1), .inl (cA 0, 4, .inl (fun _ => 0))), ((a 2), .inl (cA 0, 4, .inl (fun _ => 0))), ((a 3), .inl (cA 0, 120, .inl (fun _ => 0))), ((a 4), .inl (cA 0, 3, .inl (fun _ => 0))), ((a 5), .inl (cA 0, 18, .inl (fun _ => 0))), ((a 6), .inl (cA 0, 120, .inl (fun _ => 0))), ((a 7), .inl (cA 0, 124, .inl (fun _ => 0))), ((a 8), .inl (cA 0, 7, .inl (fun _ => 0))), ((a 9), .inl (cA 0, 265, .inl (fun _ => 0))), ((a 10), .inl (cA 0, 265, .inl (fun _ => 0))), ((a 11), .inl (cA 0, 265, .inl (upd (upd (upd (upd (upd (upd (upd (upd (upd (upd (upd (upd (fun _ => 0) 0 25) 1 1) 255 (-1)) 256 (-1)) 257 (-1)) 258 (-1)) 259 (-1)) 260 (-1)) 261 (-1)) 262 (-1)) 263 (-1)) 264 (-1))))])
set_option maxRecDepth 100000 in
theorem c_X9_init : CMet Y_X9_init 9 [.null, .null, .null, .int 0, .null, .null, .null, .null, .null, .null, .int 0, .int 0, .int 0, .int 0, .int 0, .int 0, .null, .null, .null] wX9 12 1355 := by
  refine cm_intro (by decide +kernel) rfl rfl (Nat.le_of_ble_eq_true rfl) (fun K C => ?_)
  refine cw_aload (pc := 0) C 0 dX9_init_0 rfl ?_
  refine cw_obj (pc := 1) C (WT_mem (t4_in (List.mem_of_getElem? (i := 160) rfl)) rfl) dX9_init_1 ⟨Nat.le_of_ble_eq_true rfl, Nat.le_of_ble_eq_true rfl⟩ rfl ?_
  refine cw_aload (pc := 4) C 0 dX9_init_4 rfl ?_
  refine cw_sipush (pc := 5) (v := 265) C dX9_init_5 rfl ?_
  refine cw_newI (pc := 8) C 265 (by decide) (by decide) (by decide) (Nat.le_of_ble_eq_true rfl) (Nat.le_of_ble_eq_true rfl) dX9_init_8 (fun q8 => ?_)
  refine cw_conv (fs' := [.null, .null, .null, .int 0, .null, .null, .null, .null, .null, .null, .int 0, .int 0, .int 0, .int 0, .int 0, .int 0, .null, .null, .null]) (tl' := [(q8, .inl (K.g.2 0, 265, .inl (fun _ => 0)))]) rfl rfl rfl rfl ?_
  refine cw_putF (pc := 10) (j := 0) (N := 19) (T := TX9) (ty := tyX9 0) C [.ref q8, .null, .null, .int 0, .null, .null, .null, .null, .null, .null, .int 0, .int 0, .int 0, .int 0, .int 0, .int 0, .null, .null, .null] tyX9 rfl tyX9_ok nmX9 fl_X9_9 rfl rfl (tyX9_ok 0 (by decide)) rfl rfl (Nat.le_of_ble_eq_true rfl) rfl dX9_init_10 ?_
  refine cw_aload (pc := 13) C 0 dX9_init_13 rfl ?_
  refine cw_sipush (pc := 14) (v := 265) C dX9_init_14 rfl ?_
  refine cw_newI (pc := 17) C 265 (by decide) (by decide) (by decide) (Nat.le_of_ble_eq_true rfl) (Nat.le_of_ble_eq_true rfl) dX9_init_17 (fun q17 => ?_)
  refine cw_conv (fs' := [.ref q8, .null, .null, .int 0, .null, .null, .null, .null, .null, .null, .int 0, .int 0, .int 0, .int 0, .int 0, .int 0, .null, .null, .null]) (tl' := [(q17, .inl (K.g.2 0, 265, .inl (fun _ => 0))), (q8, .inl (K.g.2 0, 265, .inl (fun _ => 0)))]) rfl rfl rfl rfl ?_
  refine cw_putF (pc := 19) (j := 1) (N := 19) (T := TX9) (ty := tyX9 1) C [.ref q8, .ref q17, .null, .int 0, .null, .null, .null, .null, .null, .null, .int 0, .int 0, .int 0, .int 0, .int 0, .int 0, .null, .null, .null] tyX9 rfl tyX9_ok nmX9 fl_X9_13 rfl rfl (tyX9_ok 1 (by decide)) rfl rfl (Nat.le_of_ble_eq_true rfl) rfl dX9_init_19 ?_
  refine cw_aload (pc := 22) C 0 dX9_init_22 rfl ?_
  refine cw_sipush (pc := 23) (v := 265) C dX9_init_23 rfl ?_
  refine cw_newI (pc := 26) C 265 (by decide) (by decide) (by decide) (Nat.le_of_ble_eq_true rfl) (Nat.le_of_ble_eq_true rfl) dX9_init_26 (fun q26 => ?_)
  refine cw_conv (fs' := [.ref q8, .ref q17, .null, .int 0, .null, .null, .null, .null, .null, .null, .int 0, .int 0, .int 0, .int 0, .int 0, .int 0, .null, .null, .null]) (tl' := [(q26, .inl (K.g.2 0, 265, .inl (fun _ => 0))), (q17, .inl (K.g.2 0, 265, .inl (fun _ => 0))), (q8, .inl (K.g.2 0, 265, .inl (fun _ => 0)))]) rfl rfl rfl rfl ?_
  refine cw_putF (pc := 28) (j := 2) (N := 19) (T := TX9) (ty := tyX9 2) C [.ref q8, .ref q17, .ref q26, .int 0, .null, .null, .null, .null, .null, .null, .int 0, .int 0, .int 0, .int 0, .int 0, .int 0, .null, .null, .null] tyX9 rfl tyX9_ok nmX9 fl_X9_16 rfl rfl (tyX9_ok 2 (by decide)) rfl rfl (Nat.le_of_ble_eq_true rfl) rfl dX9_init_28 ?_
  refine cw_aload (pc := 31) C 0 dX9_init_31 rfl ?_
  refine cw_bipush (pc := 32) (v := 7) C dX9_init_32 rfl ?_
  refine cw_newI (pc := 34) C 7 (by decide) (by decide) (by decide) (Nat.le_of_ble_eq_true rfl) (Nat.le_of_ble_eq_true rfl) dX9_init_34 (fun q34 => ?_)
  refine cw_conv (fs' := [.ref q8, .ref q17, .ref q26, .int 0, .null, .null, .null, .null, .null, .null, .int 0, .int 0, .int 0, .int 0, .int 0, .int 0, .null, .null, .null]) (tl' := [(q34, .inl (K.g.2 0, 7, .inl (fun _ => 0))), (q26, .inl (K.g.2 0, 265, .inl (fun _ => 0))), (q17, .inl (K.g.2 0, 265, .inl (fun _ => 0))), (q8, .inl (K.g.2 0, 265, .inl (fun _ => 0)))]) rfl rfl rfl rfl ?_
  refine cw_putF (pc := 36) (j := 4) (N := 19) (T := TX9) (ty := tyX9 4) C [.ref q8, .ref q17, .ref q26, .int 0, .ref q34, .null, .null, .null, .null, .null, .int 0, .int 0, .int 0, .int 0, .int 0, .int 0, .null, .null, .null] tyX9 rfl tyX9_ok nmX9 fl_X9_19 rfl rfl (tyX9_ok 4 (by decide)) rfl rfl (Nat.le_of_ble_eq_true rfl) rfl dX9_init_36 ?_
  refine cw_aload (pc := 39) C 0 dX9_init_39 rfl ?_
  refine cw_bipush (pc := 40) (v := 124) C dX9_init_40 rfl ?_
  refine cw_newI (pc := 42) C 124 (by decide) (by decide) (by decide) (Nat.le_of_ble_eq_true rfl) (Nat.le_of_ble_eq_true rfl) dX9_init_42 (fun q42 => ?_)
  refine cw_conv (fs' := [.ref q8, .ref q17, .ref q26, .int 0, .ref q34, .null, .null, .null, .null, .null, .int 0, .int 0, .int 0, .int 0, .int 0, .int 0, .null, .null, .null]) (tl' := [(q42, .inl (K.g.2 0, 124, .inl (fun _ => 0))), (q34, .inl (K.g.2 0, 7, .inl (fun _ => 0))), (q26, .inl (K.g.2 0, 265, .inl (fun _ => 0))), (q17, .inl (K.g.2 0, 265, .inl (fun _ => 0))), (q8, .inl (K.g.2 0, 265, .inl (fun _ => 0)))]) rfl rfl rfl rfl ?_
  refine cw_putF (pc := 44) (j := 5) (N := 19) (T := TX9) (ty := tyX9 5) C [.ref q8, .ref q17, .ref q26, .int 0, .ref q34, .ref q42, .null, .null, .null, .null, .int 0, .int 0, .int 0, .int 0, .int 0, .int 0, .null, .null, .null] tyX9 rfl tyX9_ok nmX9 fl_X9_22 rfl rfl (tyX9_ok 5 (by decide)) rfl rfl (Nat.le_of_ble_eq_true rfl) rfl dX9_init_44 ?_
  refine cw_aload (pc := 47) C 0 dX9_init_47 rfl ?_
  refine cw_bipush (pc := 48) (v := 120) C dX9_init_48 rfl ?_
  refine cw_newI (pc := 50) C 120 (by decide) (by decide) (by decide) (Nat.le_of_ble_eq_true rfl) (Nat.le_of_ble_eq_true rfl) dX9_init_50 (fun q50 => ?_)
  refine cw_conv (fs' := [.ref q8, .ref q17, .ref q26, .int 0, .ref q34, .ref q42, .null, .null, .null, .null, .int 0, .int 0, .int 0, .int 0, .int 0, .int 0, .null, .null, .null]) (tl' := [(q50, .inl (K.g.2 0, 120, .inl (fun _ => 0))), (q42, .inl (K.g.2 0, 124, .inl (fun _ => 0))), (q34, .inl (K.g.2 0, 7, .inl (fun _ => 0))), (q26, .inl (K.g.2 0, 265, .inl (fun _ => 0))), (q17, .inl (K.g.2 0, 265, .inl (fun _ => 0))), (q8, .inl (K.g.2 0, 265, .inl (fun _ => 0)))]) rfl rfl rfl rfl ?_
  refine cw_putF (pc := 52) (j := 6) (N := 19) (T := TX9) (ty := tyX9 6) C [.ref q8, .ref q17, .ref q26, .int 0, .ref q34, .ref q42, .ref q50, .null, .null, .null, .int 0, .int 0, .int 0, .int 0, .int 0, .int 0, .null, .null, .null] tyX9 rfl tyX9_ok nmX9 fl_X9_25 rfl rfl (tyX9_ok 6 (by decide)) rfl rfl (Nat.le_of_ble_eq_true rfl) rfl dX9_init_52 ?_
  refine cw_aload (pc := 55) C 0 dX9_init_55 rfl ?_
  refine cw_bipush (pc := 56) (v := 18) C dX9_init_56 rfl ?_
  refine cw_newI (pc := 58) C 18 (by decide) (by decide) (by decide) (Nat.le_of_ble_eq_true rfl) (Nat.le_of_ble_eq_true rfl) dX9_init_58 (fun q58 => ?_)
  refine cw_conv (fs' := [.ref q8, .ref q17, .ref q26, .int 0, .ref q34, .ref q42, .ref q50, .null, .null, .null, .int 0, .int 0, .int 0, .int 0, .int 0, .int 0, .null, .null, .null]) (tl' := [(q58, .inl (K.g.2 0, 18, .inl (fun _ => 0))), (q50, .inl (K.g.2 0, 120, .inl (fun _ => 0))), (q42, .inl (K.g.2 0, 124, .inl (fun _ => 0))), (q34, .inl (K.g.2 0, 7, .inl (fun _ => 0))), (q26, .inl (K.g.2 0, 265, .inl (fun _ => 0))), (q17, .inl (K.g.2 0, 265, .inl (fun _ => 0))), (q8, .inl (K.g.2 0, 265, .inl (fun _ => 0)))]) rfl rfl rfl rfl ?_
  refine cw_putF (pc := 60) (j := 7) (N := 19) (T := TX9) (ty := tyX9 7) C [.ref q8, .ref q17, .ref q26, .int 0, .ref q34, .ref q42, .ref q50, .ref q58, .null, .null, .int 0, .int 0, .int 0, .int 0, .int 0, .int 0, .null, .null, .null] tyX9 rfl tyX9_ok nmX9 fl_X9_28 rfl rfl (tyX9_ok 7 (by decide)) rfl rfl (Nat.le_of_ble_eq_true rfl) rfl dX9_init_60 ?_
  refine cw_aload (pc := 63) C 0 dX9_init_63 rfl ?_
  refine cw_iconst (pc := 64) (v := 3) C dX9_init_64 rfl ?_
  refine cw_newI (pc := 65) C 3 (by decide) (by decide) (by decide) (Nat.le_of_ble_eq_true rfl) (Nat.le_of_ble_eq_true rfl) dX9_init_65 (fun q65 => ?_)
  refine cw_conv (fs' := [.ref q8, .ref q17, .ref q26, .int 0, .ref q34, .ref q42, .ref q50, .ref q58, .null, .null, .int 0, .int 0, .int 0, .int 0, .int 0, .int 0, .null, .null, .null]) (tl' := [(q65, .inl (K.g.2 0, 3, .inl (fun _ => 0))), (q58, .inl (K.g.2 0, 18, .inl (fun _ => 0))), (q50, .inl (K.g.2 0, 120, .inl (fun _ => 0))), (q42, .inl (K.g.2 0, 124, .inl (fun _ => 0))), (q34, .inl (K.g.2 0, 7, .inl (fun _ => 0))), (q26, .inl (K.g.2 0, 265, .inl (fun _ => 0))), (q17, .inl (K.g.2 0, 265, .inl (fun _ => 0))), (q8, .inl (K.g.2 0, 265, .inl (fun _ => 0)))]) rfl rfl rfl rfl ?_
  refine cw_putF (pc := 67) (j := 8) (N := 19) (T := TX9) (ty := tyX9 8) C [.ref q8, .ref q17, .ref q26, .int 0, .ref q34, .ref q42, .ref q50, .ref q58, .ref q65, .null, .int 0, .int 0, .int 0, .int 0, .int 0, .int 0, .null, .null, .null] tyX9 rfl tyX9_ok nmX9 fl_X9_31 rfl rfl (tyX9_ok 8 (by decide)) rfl rfl (Nat.le_of_ble_eq_true rfl) rfl dX9_init_67 ?_
  refine cw_aload (pc := 70) C 0 dX9_init_70 rfl ?_
  refine cw_bipush (pc := 71) (v := 120) C dX9_init_71 rfl ?_
  refine cw_newI (pc := 73) C 120 (by decide) (by decide) (by decide) (Nat.le_of_ble_eq_true rfl) (Nat.le_of_ble_eq_true rfl) dX9_init_73 (fun q73 => ?_)
  refine cw_conv (fs' := [.ref q8, .ref q17, .ref q26, .int 0, .ref q34, .ref q42, .ref q50, .ref q58, .ref q65, .null, .int 0, .int 0, .int 0, .int 0, .int 0, .int 0, .null, .null, .null]) (tl' := [(q73, .inl (K.g.2 0, 120, .inl (fun _ => 0))), (q65, .inl (K.g.2 0, 3, .inl (fun _ => 0))), (q58, .inl (K.g.2 0, 18, .inl (fun _ => 0))), (q50, .inl (K.g.2 0, 120, .inl (fun _ => 0))), (q42, .inl (K.g.2 0, 124, .inl (fun _ => 0))), (q34, .inl (K.g.2 0, 7, .inl (fun _ => 0))), (q26, .inl (K.g.2 0, 265, .inl (fun _ => 0))), (q17, .inl (K.g.2 0, 265, .inl (fun _ => 0))), (q8, .inl (K.g.2 0, 265, .inl (fun _ => 0)))]) rfl rfl rfl rfl ?_
  refine cw_putF (pc := 75) (j := 9) (N := 19) (T := TX9) (ty := tyX9 9) C [.ref q8, .ref q17, .ref q26, .int 0, .ref q34, .ref q42, .ref q50, .ref q58, .ref q65, .ref q73, .int 0, .int 0, .int 0, .int 0, .int 0, .int 0, .null, .null, .null] tyX9 rfl tyX9_ok nmX9 fl_X9_34 rfl rfl (tyX9_ok 9 (by decide)) rfl rfl (Nat.le_of_ble_eq_true rfl) rfl dX9_init_75 ?_
  refine cw_aload (pc := 78) C 0 dX9_init_78 rfl ?_
  refine cw_iconst (pc := 79) (v := 4) C dX9_init_79 rfl ?_
  refine cw_newI (pc := 80) C 4 (by decide) (by decide) (by decide) (Nat.le_of_ble_eq_true rfl) (Nat.le_of_ble_eq_true rfl) dX9_init_80 (fun q80 => ?_)
  refine cw_conv (fs' := [.ref q8, .ref q17, .ref q26, .int 0, .ref q34, .ref q42, .ref q50, .ref q58, .ref q65, .ref q73, .int 0, .int 0, .int 0, .int 0, .int 0, .int 0, .null, .null, .null]) (tl' := [(q80, .inl (K.g.2 0, 4, .inl (fun _ => 0))), (q73, .inl (K.g.2 0, 120, .inl (fun _ => 0))), (q65, .inl (K.g.2 0, 3, .inl (fun _ => 0))), (q58, .inl (K.g.2 0, 18, .inl (fun _ => 0))), (q50, .inl (K.g.2 0, 120, .inl (fun _ => 0))), (q42, .inl (K.g.2 0, 124, .inl (fun _ => 0))), (q34, .inl (K.g.2 0, 7, .inl (fun _ => 0))), (q26, .inl (K.g.2 0, 265, .inl (fun _ => 0))), (q17, .inl (K.g.2 0, 265, .inl (fun _ => 0))), (q8, .inl (K.g.2 0, 265, .inl (fun _ => 0)))]) rfl rfl rfl rfl ?_
  refine cw_putF (pc := 82) (j := 16) (N := 19) (T := TX9) (ty := tyX9 16) C [.ref q8, .ref q17, .ref q26, .int 0, .ref q34, .ref q42, .ref q50, .ref q58, .ref q65, .ref q73, .int 0, .int 0, .int 0, .int 0, .int 0, .int 0, .ref q80, .null, .null] tyX9 rfl tyX9_ok nmX9 fl_X9_37 rfl rfl (tyX9_ok 16 (by decide)) rfl rfl (Nat.le_of_ble_eq_true rfl) rfl dX9_init_82 ?_
  refine cw_aload (pc := 85) C 0 dX9_init_85 rfl ?_
  refine cw_iconst (pc := 86) (v := 4) C dX9_init_86 rfl ?_
  refine cw_newI (pc := 87) C 4 (by decide) (by decide) (by decide) (Nat.le_of_ble_eq_true rfl) (Nat.le_of_ble_eq_true rfl) dX9_init_87 (fun q87 => ?_)
  refine cw_conv (fs' := [.ref q8, .ref q17, .ref q26, .int 0, .ref q34, .ref q42, .ref q50, .ref q58, .ref q65, .ref q73, .int 0, .int 0, .int 0, .int 0, .int 0, .int 0, .ref q80, .null, .null]) (tl' := [(q87, .inl (K.g.2 0, 4, .inl (fun _ => 0))), (q80, .inl (K.g.2 0, 4, .inl (fun _ => 0))), (q73, .inl (K.g.2 0, 120, .inl (fun _ => 0))), (q65, .inl (K.g.2 0, 3, .inl (fun _ => 0))), (q58, .inl (K.g.2 0, 18, .inl (fun _ => 0))), (q50, .inl (K.g.2 0, 120, .inl (fun _ => 0))), (q42, .inl (K.g.2 0, 124, .inl (fun _ => 0))), (q34, .inl (K.g.2 0, 7, .inl (fun _ => 0))), (q26, .inl (K.g.2 0, 265, .inl (fun _ => 0))), (q17, .inl (K.g.2 0, 265, .inl (fun _ => 0))), (q8, .inl (K.g.2 0, 265, .inl (fun _ => 0)))]) rfl rfl rfl rfl ?_
  refine cw_putF (pc := 89) (j := 17) (N := 19) (T := TX9) (ty := tyX9 17) C [.ref q8, .ref q17, .ref q26, .int 0, .ref q34, .ref q42, .ref q50, .ref q58, .ref q65, .ref q73, .int 0, .int 0, .int 0, .int 0, .int 0, .int 0, .ref q80, .ref q87, .null] tyX9 rfl tyX9_ok nmX9 fl_X9_40 rfl rfl (tyX9_ok 17 (by decide)) rfl rfl (Nat.le_of_ble_eq_true rfl) rfl dX9_init_89 ?_
  refine cw_aload (pc := 92) C 0 dX9_init_92 rfl ?_
  refine cw_sipush (pc := 93) (v := 160) C dX9_init_93 rfl ?_
  refine cw_newI (pc := 96) C 160 (by decide) (by decide) (by decide) (Nat.le_of_ble_eq_true rfl) (Nat.le_of_ble_eq_true rfl) dX9_init_96 (fun q96 => ?_)
  refine cw_conv (fs' := [.ref q8, .ref q17, .ref q26, .int 0, .ref q34, .ref q42, .ref q50, .ref q58, .ref q65, .ref q73, .int 0, .int 0, .int 0, .int 0, .int 0, .int 0, .ref q80, .ref q87, .null]) (tl' := [(q96, .inl (K.g.2 0, 160, .inl (fun _ => 0))), (q87, .inl (K.g.2 0, 4, .inl (fun _ => 0))), (q80, .inl (K.g.2 0, 4, .inl (fun _ => 0))), (q73, .inl (K.g.2 0, 120, .inl (fun _ => 0))), (q65, .inl (K.g.2 0, 3, .inl (fun _ => 0))), (q58, .inl (K.g.2 0, 18, .inl (fun _ => 0))), (q50, .inl (K.g.2 0, 120, .inl (fun _ => 0))), (q42, .inl (K.g.2 0, 124, .inl (fun _ => 0))), (q34, .inl (K.g.2 0, 7, .inl (fun _ => 0))), (q26, .inl (K.g.2 0, 265, .inl (fun _ => 0))), (q17, .inl (K.g.2 0, 265, .inl (fun _ => 0))), (q8, .inl (K.g.2 0, 265, .inl (fun _ => 0)))]) rfl rfl rfl rfl ?_
  refine cw_putF (pc := 98) (j := 18) (N := 19) (T := TX9) (ty := tyX9 18) C [.ref q8, .ref q17, .ref q26, .int 0, .ref q34, .ref q42, .ref q50, .ref q58, .ref q65, .ref q73, .int 0, .int 0, .int 0, .int 0, .int 0, .int 0, .ref q80, .ref q87, .ref q96] tyX9 rfl tyX9_ok nmX9 fl_X9_43 rfl rfl (tyX9_ok 18 (by decide)) rfl rfl (Nat.le_of_ble_eq_true rfl) rfl dX9_init_98 ?_
  refine cw_aload (pc := 101) C 0 dX9_init_101 rfl ?_
  refine cw_get (pc := 102) C fl_X9_9 rfl dX9_init_102 ?_
  refine cw_iconst (pc := 105) (v := 0) C dX9_init_105 rfl ?_
  refine cw_bipush (pc := 106) (v := 25) C dX9_init_106 rfl ?_
  refine cw_iast (pc := 108) (N := 265) C ([(q96, .inl (K.g.2 0, 160, .inl (fun _ => 0))), (q87, .inl (K.g.2 0, 4, .inl (fun _ => 0))), (q80, .inl (K.g.2 0, 4, .inl (fun _ => 0))), (q73, .inl (K.g.2 0, 120, .inl (fun _ => 0))), (q65, .inl (K.g.2 0, 3, .inl (fun _ => 0))), (q58, .inl (K.g.2 0, 18, .inl (fun _ => 0))), (q50, .inl (K.g.2 0, 120, .inl (fun _ => 0))), (q42, .inl (K.g.2 0, 124, .inl (fun _ => 0))), (q34, .inl (K.g.2 0, 7, .inl (fun _ => 0))), (q26, .inl (K.g.2 0, 265, .inl (fun _ => 0))), (q17, .inl (K.g.2 0, 265, .inl (fun _ => 0))), (q8, .inl (K.g.2 0, 265, .inl (upd (fun _ => 0) 0 25)))]) 11 rfl (show vp_in (nI 0) 265 from vp_in_nI (by decide) (by decide)) rfl dX9_init_108 ?_
  refine cw_aload (pc := 109) C 0 dX9_init_109 rfl ?_
  refine cw_get (pc := 110) C fl_X9_9 rfl dX9_init_110 ?_
  refine cw_iconst (pc := 113) (v := 1) C dX9_init_113 rfl ?_
  refine cw_iconst (pc := 114) (v := 1) C dX9_init_114 rfl ?_
  refine cw_iast (pc := 115) (N := 265) C ([(q96, .inl (K.g.2 0, 160, .inl (fun _ => 0))), (q87, .inl (K.g.2 0, 4, .inl (fun _ => 0))), (q80, .inl (K.g.2 0, 4, .inl (fun _ => 0))), (q73, .inl (K.g.2 0, 120, .inl (fun _ => 0))), (q65, .inl (K.g.2 0, 3, .inl (fun _ => 0))), (q58, .inl (K.g.2 0, 18, .inl (fun _ => 0))), (q50, .inl (K.g.2 0, 120, .inl (fun _ => 0))), (q42, .inl (K.g.2 0, 124, .inl (fun _ => 0))), (q34, .inl (K.g.2 0, 7, .inl (fun _ => 0))), (q26, .inl (K.g.2 0, 265, .inl (fun _ => 0))), (q17, .inl (K.g.2 0, 265, .inl (fun _ => 0))), (q8, .inl (K.g.2 0, 265, .inl (upd (upd (fun _ => 0) 0 25) 1 1)))]) 11 rfl (show vp_in (nI 1) 265 from vp_in_nI (by decide) (by decide)) rfl dX9_init_115 ?_
  refine cw_iconst (pc := 116) (v := 0) C dX9_init_116 rfl ?_
  refine cw_istore (pc := 117) C [(1, .int 0), (0, .ref K.h)] dX9_init_117 (Nat.le_of_ble_eq_true rfl) rfl ?_
  refine cw_iload (pc := 118) C 0 dX9_init_118 rfl ?_
  refine cw_bipush (pc := 119) (v := 10) C dX9_init_119 rfl ?_
  refine cw_geF (pc := 121) C 141 dX9_init_121 (by decide) (by decide) ?_
  refine cw_aload (pc := 124) C 1 dX9_init_124 rfl ?_
  refine cw_get (pc := 125) C fl_X9_9 rfl dX9_init_125 ?_
  refine cw_sipush (pc := 128) (v := 255) C dX9_init_128 rfl ?_
  refine cw_iload (pc := 131) C 0 dX9_init_131 rfl ?_
  refine cw_iadd (pc := 132) (z := 255) C dX9_init_132 (by decide) ?_
  refine cw_iconst (pc := 133) (v := (-1)) C dX9_init_133 rfl ?_
  refine cw_iast (pc := 134) (N := 265) C ([(q96, .inl (K.g.2 0, 160, .inl (fun _ => 0))), (q87, .inl (K.g.2 0, 4, .inl (fun _ => 0))), (q80, .inl (K.g.2 0, 4, .inl (fun _ => 0))), (q73, .inl (K.g.2 0, 120, .inl (fun _ => 0))), (q65, .inl (K.g.2 0, 3, .inl (fun _ => 0))), (q58, .inl (K.g.2 0, 18, .inl (fun _ => 0))), (q50, .inl (K.g.2 0, 120, .inl (fun _ => 0))), (q42, .inl (K.g.2 0, 124, .inl (fun _ => 0))), (q34, .inl (K.g.2 0, 7, .inl (fun _ => 0))), (q26, .inl (K.g.2 0, 265, .inl (fun _ => 0))), (q17, .inl (K.g.2 0, 265, .inl (fun _ => 0))), (q8, .inl (K.g.2 0, 265, .inl (upd (upd (upd (fun _ => 0) 0 25) 1 1) 255 (-1))))]) 11 rfl (show vp_in (nI 255) 265 from vp_in_nI (by decide) (by decide)) rfl dX9_init_134 ?_
  refine cw_iinc (pc := 135) (j := 0) (v := 1) C [(1, .int 1), (0, .ref K.h)] dX9_init_135 rfl (by decide) (Nat.le_of_ble_eq_true rfl) rfl ?_
  refine cw_goto (pc := 138) C 118 dX9_init_138 (by decide) ?_
  refine cw_iload (pc := 118) C 0 dX9_init_118 rfl ?_
  refine cw_bipush (pc := 119) (v := 10) C dX9_init_119 rfl ?_
  refine cw_geF (pc := 121) C 141 dX9_init_121 (by decide) (by decide) ?_
  refine cw_aload (pc := 124) C 1 dX9_init_124 rfl ?_
  refine cw_get (pc := 125) C fl_X9_9 rfl dX9_init_125 ?_
  refine cw_sipush (pc := 128) (v := 255) C dX9_init_128 rfl ?_
  refine cw_iload (pc := 131) C 0 dX9_init_131 rfl ?_
  refine cw_iadd (pc := 132) (z := 256) C dX9_init_132 (by decide) ?_
  refine cw_iconst (pc := 133) (v := (-1)) C dX9_init_133 rfl ?_
  refine cw_iast (pc := 134) (N := 265) C ([(q96, .inl (K.g.2 0, 160, .inl (fun _ => 0))), (q87, .inl (K.g.2 0, 4, .inl (fun _ => 0))), (q80, .inl (K.g.2 0, 4, .inl (fun _ => 0))), (q73, .inl (K.g.2 0, 120, .inl (fun _ => 0))), (q65, .inl (K.g.2 0, 3, .inl (fun _ => 0))), (q58, .inl (K.g.2 0, 18, .inl (fun _ => 0))), (q50, .inl (K.g.2 0, 120, .inl (fun _ => 0))), (q42, .inl (K.g.2 0, 124, .inl (fun _ => 0))), (q34, .inl (K.g.2 0, 7, .inl (fun _ => 0))), (q26, .inl (K.g.2 0, 265, .inl (fun _ => 0))), (q17, .inl (K.g.2 0, 265, .inl (fun _ => 0))), (q8, .inl (K.g.2 0, 265, .inl (upd (upd (upd (upd (fun _ => 0) 0 25) 1 1) 255 (-1)) 256 (-1))))]) 11 rfl (show vp_in (nI 256) 265 from vp_in_nI (by decide) (by decide)) rfl dX9_init_134 ?_
  refine cw_iinc (pc := 135) (j := 0) (v := 2) C [(1, .int 2), (0, .ref K.h)] dX9_init_135 rfl (by decide) (Nat.le_of_ble_eq_true rfl) rfl ?_
  refine cw_goto (pc := 138) C 118 dX9_init_138 (by decide) ?_
  refine cw_iload (pc := 118) C 0 dX9_init_118 rfl ?_
  refine cw_bipush (pc := 119) (v := 10) C dX9_init_119 rfl ?_
  refine cw_geF (pc := 121) C 141 dX9_init_121 (by decide) (by decide) ?_
  refine cw_aload (pc := 124) C 1 dX9_init_124 rfl ?_
  refine cw_get (pc := 125) C fl_X9_9 rfl dX9_init_125 ?_
  refine cw_sipush (pc := 128) (v := 255) C dX9_init_128 rfl ?_
  refine cw_iload (pc := 131) C 0 dX9_init_131 rfl ?_
  refine cw_iadd (pc := 132) (z := 257) C dX9_init_132 (by decide) ?_
  refine cw_iconst (pc := 133) (v := (-1)) C dX9_init_133 rfl ?_
  refine cw_iast (pc := 134) (N := 265) C ([(q96, .inl (K.g.2 0, 160, .inl (fun _ => 0))), (q87, .inl (K.g.2 0, 4, .inl (fun _ => 0))), (q80, .inl (K.g.2 0, 4, .inl (fun _ => 0))), (q73, .inl (K.g.2 0, 120, .inl (fun _ => 0))), (q65, .inl (K.g.2 0, 3, .inl (fun _ => 0))), (q58, .inl (K.g.2 0, 18, .inl (fun _ => 0))), (q50, .inl (K.g.2 0, 120, .inl (fun _ => 0))), (q42, .inl (K.g.2 0, 124, .inl (fun _ => 0))), (q34, .inl (K.g.2 0, 7, .inl (fun _ => 0))), (q26, .inl (K.g.2 0, 265, .inl (fun _ => 0))), (q17, .inl (K.g.2 0, 265, .inl (fun _ => 0))), (q8, .inl (K.g.2 0, 265, .inl (upd (upd (upd (upd (upd (fun _ => 0) 0 25) 1 1) 255 (-1)) 256 (-1)) 257 (-1))))]) 11 rfl (show vp_in (nI 257) 265 from vp_in_nI (by decide) (by decide)) rfl dX9_init_134 ?_
  refine cw_iinc (pc := 135) (j := 0) (v := 3) C [(1, .int 3), (0, .ref K.h)] dX9_init_135 rfl (by decide) (Nat.le_of_ble_eq_true rfl) rfl ?_
  refine cw_goto (pc := 138) C 118 dX9_init_138 (by decide) ?_
  refine cw_iload (pc := 118) C 0 dX9_init_118 rfl ?_
  refine cw_bipush (pc := 119) (v := 10) C dX9_init_119 rfl ?_
  refine cw_geF (pc := 121) C 141 dX9_init_121 (by decide) (by decide) ?_
  refine cw_aload (pc := 124) C 1 dX9_init_124 rfl ?_
  refine cw_get (pc := 125) C fl_X9_9 rfl dX9_init_125 ?_
  refine cw_sipush (pc := 128) (v := 255) C dX9_init_128 rfl ?_
  refine cw_iload (pc := 131) C 0 dX9_init_131 rfl ?_
  refine cw_iadd (pc := 132) (z := 258) C dX9_init_132 (by decide) ?_
  refine cw_iconst (pc := 133) (v := (-1)) C dX9_init_133 rfl ?_
  refine cw_iast (pc := 134) (N := 265) C ([(q96, .inl (K.g.2 0, 160, .inl (fun _ => 0))), (q87, .inl (K.g.2 0, 4, .inl (fun _ => 0))), (q80, .inl (K.g.2 0, 4, .inl (fun _ => 0))), (q73, .inl (K.g.2 0, 120, .inl (fun _ => 0))), (q65, .inl (K.g.2 0, 3, .inl (fun _ => 0))), (q58, .inl (K.g.2 0, 18, .inl (fun _ => 0))), (q50, .inl (K.g.2 0, 120, .inl (fun _ => 0))), (q42, .inl (K.g.2 0, 124, .inl (fun _ => 0))), (q34, .inl (K.g.2 0, 7, .inl (fun _ => 0))), (q26, .inl (K.g.2 0, 265, .inl (fun _ => 0))), (q17, .inl (K.g.2 0, 265, .inl (fun _ => 0))), (q8, .inl (K.g.2 0, 265, .inl (upd (upd (upd (upd (upd (upd (fun _ => 0) 0 25) 1 1) 255 (-1)) 256 (-1)) 257 (-1)) 258 (-1))))]) 11 rfl (show vp_in (nI 258) 265 from vp_in_nI (by decide) (by decide)) rfl dX9_init_134 ?_
  refine cw_iinc (pc := 135) (j := 0) (v := 4) C [(1, .int 4), (0, .ref K.h)] dX9_init_135 rfl (by decide) (Nat.le_of_ble_eq_true rfl) rfl ?_
  refine cw_goto (pc := 138) C 118 dX9_init_138 (by decide) ?_
  refine cw_iload (pc := 118) C 0 dX9_init_118 rfl ?_
  refine cw_bipush (pc := 119) (v := 10) C dX9_init_119 rfl ?_
  refine cw_geF (pc := 121) C 141 dX9_init_121 (by decide) (by decide) ?_
  refine cw_aload (pc := 124) C 1 dX9_init_124 rfl ?_
  refine cw_get (pc := 125) C fl_X9_9 rfl dX9_init_125 ?_
  refine cw_sipush (pc := 128) (v := 255) C dX9_init_128 rfl ?_
  refine cw_iload (pc := 131) C 0 dX9_init_131 rfl ?_
  refine cw_iadd (pc := 132) (z := 259) C dX9_init_132 (by decide) ?_
  refine cw_iconst (pc := 133) (v := (-1)) C dX9_init_133 rfl ?_
  refine cw_iast (pc := 134) (N := 265) C ([(q96, .inl (K.g.2 0, 160, .inl (fun _ => 0))), (q87, .inl (K.g.2 0, 4, .inl (fun _ => 0))), (q80, .inl (K.g.2 0, 4, .inl (fun _ => 0))), (q73, .inl (K.g.2 0, 120, .inl (fun _ => 0))), (q65, .inl (K.g.2 0, 3, .inl (fun _ => 0))), (q58, .inl (K.g.2 0, 18, .inl (fun _ => 0))), (q50, .inl (K.g.2 0, 120, .inl (fun _ => 0))), (q42, .inl (K.g.2 0, 124, .inl (fun _ => 0))), (q34, .inl (K.g.2 0, 7, .inl (fun _ => 0))), (q26, .inl (K.g.2 0, 265, .inl (fun _ => 0))), (q17, .inl (K.g.2 0, 265, .inl (fun _ => 0))), (q8, .inl (K.g.2 0, 265, .inl (upd (upd (upd (upd (upd (upd (upd (fun _ => 0) 0 25) 1 1) 255 (-1)) 256 (-1)) 257 (-1)) 258 (-1)) 259 (-1))))]) 11 rfl (show vp_in (nI 259) 265 from vp_in_nI (by decide) (by decide)) rfl dX9_init_134 ?_
  refine cw_iinc (pc := 135) (j := 0) (v := 5) C [(1, .int 5), (0, .ref K.h)] dX9_init_135 rfl (by decide) (Nat.le_of_ble_eq_true rfl) rfl ?_
  refine cw_goto (pc := 138) C 118 dX9_init_138 (by decide) ?_
  refine cw_iload (pc := 118) C 0 dX9_init_118 rfl ?_
  refine cw_bipush (pc := 119) (v := 10) C dX9_init_119 rfl ?_
  refine cw_geF (pc := 121) C 141 dX9_init_121 (by decide) (by decide) ?_
  refine cw_aload (pc := 124) C 1 dX9_init_124 rfl ?_
  refine cw_get (pc := 125) C fl_X9_9 rfl dX9_init_125 ?_
  refine cw_sipush (pc := 128) (v := 255) C dX9_init_128 rfl ?_
  refine cw_iload (pc := 131) C 0 dX9_init_131 rfl ?_
  refine cw_iadd (pc := 132) (z := 260) C dX9_init_132 (by decide) ?_
  refine cw_iconst (pc := 133) (v := (-1)) C dX9_init_133 rfl ?_
  refine cw_iast (pc := 134) (N := 265) C ([(q96, .inl (K.g.2 0, 160, .inl (fun _ => 0))), (q87, .inl (K.g.2 0, 4, .inl (fun _ => 0))), (q80, .inl (K.g.2 0, 4, .inl (fun _ => 0))), (q73, .inl (K.g.2 0, 120, .inl (fun _ => 0))), (q65, .inl (K.g.2 0, 3, .inl (fun _ => 0))), (q58, .inl (K.g.2 0, 18, .inl (fun _ => 0))), (q50, .inl (K.g.2 0, 120, .inl (fun _ => 0))), (q42, .inl (K.g.2 0, 124, .inl (fun _ => 0))), (q34, .inl (K.g.2 0, 7, .inl (fun _ => 0))), (q26, .inl (K.g.2 0, 265, .inl (fun _ => 0))), (q17, .inl (K.g.2 0, 265, .inl (fun _ => 0))), (q8, .inl (K.g.2 0, 265, .inl (upd (upd (upd (upd (upd (upd (upd (upd (fun _ => 0) 0 25) 1 1) 255 (-1)) 256 (-1)) 257 (-1)) 258 (-1)) 259 (-1)) 260 (-1))))]) 11 rfl (show vp_in (nI 260) 265 from vp_in_nI (by decide) (by decide)) rfl dX9_init_134 ?_
  refine cw_iinc (pc := 135) (j := 0) (v := 6) C [(1, .int 6), (0, .ref K.h)] dX9_init_135 rfl (by decide) (Nat.le_of_ble_eq_true rfl) rfl ?_
  refine cw_goto (pc := 138) C 118 dX9_init_138 (by decide) ?_
  refine cw_iload (pc := 118) C 0 dX9_init_118 rfl ?_
  refine cw_bipush (pc := 119) (v := 10) C dX9_init_119 rfl ?_
  refine cw_geF (pc := 121) C 141 dX9_init_121 (by decide) (by decide) ?_
  refine cw_aload (pc := 124) C 1 dX9_init_124 rfl ?_
  refine cw_get (pc := 125) C fl_X9_9 rfl dX9_init_125 ?_
  refine cw_sipush (pc := 128) (v := 255) C dX9_init_128 rfl ?_
  refine cw_iload (pc := 131) C 0 dX9_init_131 rfl ?_
  refine cw_iadd (pc := 132) (z := 261) C dX9_init_132 (by decide) ?_
  refine cw_iconst (pc := 133) (v := (-1)) C dX9_init_133 rfl ?_
  refine cw_iast (pc := 134) (N := 265) C ([(q96, .inl (K.g.2 0, 160, .inl (fun _ => 0))), (q87, .inl (K.g.2 0, 4, .inl (fun _ => 0))), (q80, .inl (K.g.2 0, 4, .inl (fun _ => 0))), (q73, .inl (K.g.2 0, 120, .inl (fun _ => 0))), (q65, .inl (K.g.2 0, 3, .inl (fun _ => 0))), (q58, .inl (K.g.2 0, 18, .inl (fun _ => 0))), (q50, .inl (K.g.2 0, 120, .inl (fun _ => 0))), (q42, .inl (K.g.2 0, 124, .inl (fun _ => 0))), (q34, .inl (K.g.2 0, 7, .inl (fun _ => 0))), (q26, .inl (K.g.2 0, 265, .inl (fun _ => 0))), (q17, .inl (K.g.2 0, 265, .inl (fun _ => 0))), (q8, .inl (K.g.2 0, 265, .inl (upd (upd (upd (upd (upd (upd (upd (upd (upd (fun _ => 0) 0 25) 1 1) 255 (-1)) 256 (-1)) 257 (-1)) 258 (-1)) 259 (-1)) 260 (-1)) 261 (-1))))]) 11 rfl (show vp_in (nI 261) 265 from vp_in_nI (by decide) (by decide)) rfl dX9_init_134 ?_
  refine cw_iinc (pc := 135) (j := 0) (v := 7) C [(1, .int 7), (0, .ref K.h)] dX9_init_135 rfl (by decide) (Nat.le_of_ble_eq_true rfl) rfl ?_
  refine cw_goto (pc := 138) C 118 dX9_init_138 (by decide) ?_
  refine cw_iload (pc := 118) C 0 dX9_init_118 rfl ?_
  refine cw_bipush (pc := 119) (v := 10) C dX9_init_119 rfl ?_
  refine cw_geF (pc := 121) C 141 dX9_init_121 (by decide) (by decide) ?_
  refine cw_aload (pc := 124) C 1 dX9_init_124 rfl ?_
  refine cw_get (pc := 125) C fl_X9_9 rfl dX9_init_125 ?_
  refine cw_sipush (pc := 128) (v := 255) C dX9_init_128 rfl ?_
  refine cw_iload (pc := 131) C 0 dX9_init_131 rfl ?_
  refine cw_iadd (pc := 132) (z := 262) C dX9_init_132 (by decide) ?_
  refine cw_iconst (pc := 133) (v := (-1)) C dX9_init_133 rfl ?_
  refine cw_iast (pc := 134) (N := 265) C ([(q96, .inl (K.g.2 0, 160, .inl (fun _ => 0))), (q87, .inl (K.g.2 0, 4, .inl (fun _ => 0))), (q80, .inl (K.g.2 0, 4, .inl (fun _ => 0))), (q73, .inl (K.g.2 0, 120, .inl (fun _ => 0))), (q65, .inl (K.g.2 0, 3, .inl (fun _ => 0))), (q58, .inl (K.g.2 0, 18, .inl (fun _ => 0))), (q50, .inl (K.g.2 0, 120, .inl (fun _ => 0))), (q42, .inl (K.g.2 0, 124, .inl (fun _ => 0))), (q34, .inl (K.g.2 0, 7, .inl (fun _ => 0))), (q26, .inl (K.g.2 0, 265, .inl (fun _ => 0))), (q17, .inl (K.g.2 0, 265, .inl (fun _ => 0))), (q8, .inl (K.g.2 0, 265, .inl (upd (upd (upd (upd (upd (upd (upd (upd (upd (upd (fun _ => 0) 0 25) 1 1) 255 (-1)) 256 (-1)) 257 (-1)) 258 (-1)) 259 (-1)) 260 (-1)) 261 (-1)) 262 (-1))))]) 11 rfl (show vp_in (nI 262) 265 from vp_in_nI (by decide) (by decide)) rfl dX9_init_134 ?_
  refine cw_iinc (pc := 135) (j := 0) (v := 8) C [(1, .int 8), (0, .ref K.h)] dX9_init_135 rfl (by decide) (Nat.le_of_ble_eq_true rfl) rfl ?_
  refine cw_goto (pc := 138) C 118 dX9_init_138 (by decide) ?_
  refine cw_iload (pc := 118) C 0 dX9_init_118 rfl ?_
  refine cw_bipush (pc := 119) (v := 10) C dX9_init_119 rfl ?_
  refine cw_geF (pc := 121) C 141 dX9_init_121 (by decide) (by decide) ?_
  refine cw_aload (pc := 124) C 1 dX9_init_124 rfl ?_
  refine cw_get (pc := 125) C fl_X9_9 rfl dX9_init_125 ?_
  refine cw_sipush (pc := 128) (v := 255) C dX9_init_128 rfl ?_
  refine cw_iload (pc := 131) C 0 dX9_init_131 rfl ?_
  refine cw_iadd (pc := 132) (z := 263) C dX9_init_132 (by decide) ?_
  refine cw_iconst (pc := 133) (v := (-1)) C dX9_init_133 rfl ?_
  refine cw_iast (pc := 134) (N := 265) C ([(q96, .inl (K.g.2 0, 160, .inl (fun _ => 0))), (q87, .inl (K.g.2 0, 4, .inl (fun _ => 0))), (q80, .inl (K.g.2 0, 4, .inl (fun _ => 0))), (q73, .inl (K.g.2 0, 120, .inl (fun _ => 0))), (q65, .inl (K.g.2 0, 3, .inl (fun _ => 0))), (q58, .inl (K.g.2 0, 18, .inl (fun _ => 0))), (q50, .inl (K.g.2 0, 120, .inl (fun _ => 0))), (q42, .inl (K.g.2 0, 124, .inl (fun _ => 0))), (q34, .inl (K.g.2 0, 7, .inl (fun _ => 0))), (q26, .inl (K.g.2 0, 265, .inl (fun _ => 0))), (q17, .inl (K.g.2 0, 265, .inl (fun _ => 0))), (q8, .inl (K.g.2 0, 265, .inl (upd (upd (upd (upd (upd (upd (upd (upd (upd (upd (upd (fun _ => 0) 0 25) 1 1) 255 (-1)) 256 (-1)) 257 (-1)) 258 (-1)) 259 (-1)) 260 (-1)) 261 (-1)) 262 (-1)) 263 (-1))))]) 11 rfl (show vp_in (nI 263) 265 from vp_in_nI (by decide) (by decide)) rfl dX9_init_134 ?_
  refine cw_iinc (pc := 135) (j := 0) (v := 9) C [(1, .int 9), (0, .ref K.h)] dX9_init_135 rfl (by decide) (Nat.le_of_ble_eq_true rfl) rfl ?_
  refine cw_goto (pc := 138) C 118 dX9_init_138 (by decide) ?_
  refine cw_iload (pc := 118) C 0 dX9_init_118 rfl ?_
  refine cw_bipush (pc := 119) (v := 10) C dX9_init_119 rfl ?_
  refine cw_geF (pc := 121) C 141 dX9_init_121 (by decide) (by decide) ?_
  refine cw_aload (pc := 124) C 1 dX9_init_124 rfl ?_
  refine cw_get (pc := 125) C fl_X9_9 rfl dX9_init_125 ?_
  refine cw_sipush (pc := 128) (v := 255) C dX9_init_128 rfl ?_
  refine cw_iload (pc := 131) C 0 dX9_init_131 rfl ?_
  refine cw_iadd (pc := 132) (z := 264) C dX9_init_132 (by decide) ?_
  refine cw_iconst (pc := 133) (v := (-1)) C dX9_init_133 rfl ?_
  refine cw_iast (pc := 134) (N := 265) C ([(q96, .inl (K.g.2 0, 160, .inl (fun _ => 0))), (q87, .inl (K.g.2 0, 4, .inl (fun _ => 0))), (q80, .inl (K.g.2 0, 4, .inl (fun _ => 0))), (q73, .inl (K.g.2 0, 120, .inl (fun _ => 0))), (q65, .inl (K.g.2 0, 3, .inl (fun _ => 0))), (q58, .inl (K.g.2 0, 18, .inl (fun _ => 0))), (q50, .inl (K.g.2 0, 120, .inl (fun _ => 0))), (q42, .inl (K.g.2 0, 124, .inl (fun _ => 0))), (q34, .inl (K.g.2 0, 7, .inl (fun _ => 0))), (q26, .inl (K.g.2 0, 265, .inl (fun _ => 0))), (q17, .inl (K.g.2 0, 265, .inl (fun _ => 0))), (q8, .inl (K.g.2 0, 265, .inl (upd (upd (upd (upd (upd (upd (upd (upd (upd (upd (upd (upd (fun _ => 0) 0 25) 1 1) 255 (-1)) 256 (-1)) 257 (-1)) 258 (-1)) 259 (-1)) 260 (-1)) 261 (-1)) 262 (-1)) 263 (-1)) 264 (-1))))]) 11 rfl (show vp_in (nI 264) 265 from vp_in_nI (by decide) (by decide)) rfl dX9_init_134 ?_
  refine cw_iinc (pc := 135) (j := 0) (v := 10) C [(1, .int 10), (0, .ref K.h)] dX9_init_135 rfl (by decide) (Nat.le_of_ble_eq_true rfl) rfl ?_
  refine cw_goto (pc := 138) C 118 dX9_init_138 (by decide) ?_
  refine cw_iload (pc := 118) C 0 dX9_init_118 rfl ?_
  refine cw_bipush (pc := 119) (v := 10) C dX9_init_119 rfl ?_
  refine cw_geT (pc := 121) C 141 dX9_init_121 (by decide) (by decide) ?_
  exact cw_ret (pc := 141) C (fun i => if i < 1 then q96 else if i < 2 then q87 else if i < 3 then q80 else if i < 4 then q73 else if i < 5 then q65 else if i < 6 then q58 else if i < 7 then q50 else if i < 8 then q42 else if i < 9 then q34 else if i < 10 then q26 else if i < 11 then q17 else q8) rfl (Nat.le_refl _) (Nat.le_refl _) dX9_init_141
