/-! the class: teams -/
theorem c_X7_areUnlikeOf (σ : St) (x : Int32) (a b c : Nat) (ha : a < 6) (hb : b < 6) (hc : c < 6) : AMet Y_X7_areUnlikeOf [.int x, .int (nI a), .int (nI b), .int (nI c)] σ (fz (some (.int (b2i (tuP x a b c)))) (σ)) := by
  refine am_intro (by decide +kernel) (Nat.le_of_ble_eq_true rfl) (fun K C => ?_)
  refine aw_iconst (pc := 0) (v := 1) C dX7_areUnlikeOf_0 rfl ?_
  refine aw_iload_n (pc := 1) C 1 dX7_areUnlikeOf_1 rfl ?_
  refine aw_ishl (pc := 2) C dX7_areUnlikeOf_2 ?_
  refine aw_iconst (pc := 3) (v := 1) C dX7_areUnlikeOf_3 rfl ?_
  refine aw_iload_n (pc := 4) C 2 dX7_areUnlikeOf_4 rfl ?_
  refine aw_ishl (pc := 5) C dX7_areUnlikeOf_5 ?_
  refine aw_ior (pc := 6) C dX7_areUnlikeOf_6 ?_
  refine aw_iconst (pc := 7) (v := 1) C dX7_areUnlikeOf_7 rfl ?_
  refine aw_iload_n (pc := 8) C 3 dX7_areUnlikeOf_8 rfl ?_
  refine aw_ishl (pc := 9) C dX7_areUnlikeOf_9 ?_
  refine aw_ior (pc := 10) C dX7_areUnlikeOf_10 ?_
  refine aw_istore (pc := 11) C [(4, .int (((1 <<< (nI (a) &&& 31)) ||| (1 <<< (nI (b) &&& 31))) ||| (1 <<< (nI (c) &&& 31)))), (0, .int x), (1, .int (nI a)), (2, .int (nI b)), (3, .int (nI c))] dX7_areUnlikeOf_11 (Nat.le_of_ble_eq_true rfl) rfl ?_
  refine aw_iload (pc := 13) C 0 dX7_areUnlikeOf_13 rfl ?_
  refine aw_cSI (pc := 15) C (c_J6_bitCount _ (((1 <<< (nI (a) &&& 31)) ||| (1 <<< (nI (b) &&& 31))) ||| (1 <<< (nI (c) &&& 31))) ) lk_X7_42 dX7_areUnlikeOf_15 (by decide) (Nat.le_of_ble_eq_true rfl) rfl rfl ?_
  refine aw_iconst (pc := 18) (v := 3) C dX7_areUnlikeOf_18 rfl ?_
  refine aw_icmp_ne (pc := 19) C 35 dX7_areUnlikeOf_19 (by decide) (fun h19 => ?_) (fun h19 => ?_)
  · refine aw_iconst (pc := 35) (v := 0) C dX7_areUnlikeOf_35 rfl ?_
    exact aw_zret (pc := 36) C rfl rfl dX7_areUnlikeOf_36 (b2i_f (fun z => h19 z.1)).symm rfl
  · refine aw_iload_n (pc := 22) C 1 dX7_areUnlikeOf_22 rfl ?_
    refine aw_iload (pc := 23) C 0 dX7_areUnlikeOf_23 rfl ?_
    refine aw_iand (pc := 25) C dX7_areUnlikeOf_25 ?_
    refine aw_iload (pc := 26) C 0 dX7_areUnlikeOf_26 rfl ?_
    refine aw_icmp_ne (pc := 28) C 35 dX7_areUnlikeOf_28 (by decide) (fun h28 => ?_) (fun h28 => ?_)
    · refine aw_iconst (pc := 35) (v := 0) C dX7_areUnlikeOf_35 rfl ?_
      exact aw_zret (pc := 36) C rfl rfl dX7_areUnlikeOf_36 (b2i_f (fun z => h28 z.2)).symm rfl
    · refine aw_iconst (pc := 31) (v := 1) C dX7_areUnlikeOf_31 rfl ?_
      refine aw_goto (pc := 32) C 36 dX7_areUnlikeOf_32 (by decide) ?_
      exact aw_zret (pc := 36) C rfl rfl dX7_areUnlikeOf_36 (b2i_t ⟨h19, h28⟩).symm rfl
theorem c_X7_weigh (σ : St) (a b c : Nat) (ha : a < 6) (hb : b < 6) (hc : c < 6) : AMet Y_X7_weigh [.ref 9, .int (nI a), .int (nI b), .int (nI c)] σ (WgO σ a b c) := by
  refine am_intro (by decide +kernel) (Nat.le_of_ble_eq_true rfl) (fun K C => ?_)
  refine aw_aload_n (pc := 0) C 0 dX7_weigh_0 rfl ?_
  refine aw_getR (pc := 1) C fl_X7_15 sh9 rfl dX7_weigh_1 ?_
  refine aw_iload_n (pc := 4) C 1 dX7_weigh_4 rfl ?_
  refine aw_ild (pc := 5) (k := a) C (a) (σ.1 9 a) sh11 dX7_weigh_5 rfl (by omega) rfl rfl ?_
  refine aw_aload_n (pc := 6) C 0 dX7_weigh_6 rfl ?_
  refine aw_getR (pc := 7) C fl_X7_15 sh9 rfl dX7_weigh_7 ?_
  refine aw_bipush (pc := 10) (v := 6) C dX7_weigh_10 rfl ?_
  refine aw_iload_n (pc := 12) C 2 dX7_weigh_12 rfl ?_
  refine aw_iaddN (pc := 13) C 6 b rfl rfl dX7_weigh_13 ?_
  refine aw_ild (pc := 14) (k := 6 + b) C (6 + b) (σ.1 9 (6 + b)) sh11 dX7_weigh_14 rfl (by omega) rfl rfl ?_
  refine aw_iadd (pc := 15) C dX7_weigh_15 ?_
  refine aw_aload_n (pc := 16) C 0 dX7_weigh_16 rfl ?_
  refine aw_getR (pc := 17) C fl_X7_15 sh9 rfl dX7_weigh_17 ?_
  refine aw_bipush (pc := 20) (v := 12) C dX7_weigh_20 rfl ?_
  refine aw_iload_n (pc := 22) C 3 dX7_weigh_22 rfl ?_
  refine aw_iaddN (pc := 23) C 12 c rfl rfl dX7_weigh_23 ?_
  refine aw_ild (pc := 24) (k := 12 + c) C (12 + c) (σ.1 9 (12 + c)) sh11 dX7_weigh_24 rfl (by omega) rfl rfl ?_
  refine aw_iadd (pc := 25) C dX7_weigh_25 ?_
  refine aw_istore (pc := 26) C [(4, .int (((σ.1 9 a) + (σ.1 9 (6 + b))) + (σ.1 9 (12 + c)))), (0, .ref 9), (1, .int (nI a)), (2, .int (nI b)), (3, .int (nI c))] dX7_weigh_26 (Nat.le_of_ble_eq_true rfl) rfl ?_
  refine aw_iload (pc := 28) C 0 dX7_weigh_28 rfl ?_
  refine aw_aload_n (pc := 30) C 1 dX7_weigh_30 rfl ?_
  refine aw_gld (pc := 31) C (σ.1 10 0) fl_X7_31 sh9 rfl dX7_weigh_31 rfl ?_
  refine aw_icmp_ge (pc := 34) C 64 dX7_weigh_34 (by decide) (fun h34 => ?_) (fun h34 => ?_)
  · exact aw_vretP (pc := 64) C rfl dX7_weigh_64 (Or.inr ⟨Int32.not_lt.mpr h34, rfl, rfl⟩)
  · refine aw_aload_n (pc := 37) C 1 dX7_weigh_37 rfl ?_
    refine aw_iload (pc := 38) C 0 dX7_weigh_38 rfl ?_
    refine aw_pst (pc := 40) C (setR σ 10 (upd (σ.1 10) 0 (((σ.1 9 a) + (σ.1 9 (6 + b))) + (σ.1 9 (12 + c))))) fp_X7_31 sh9 rfl dX7_weigh_40 rfl ?_
    refine aw_aload_n (pc := 43) C 1 dX7_weigh_43 rfl ?_
    refine aw_getR (pc := 44) C fl_X7_9 sh9 rfl dX7_weigh_44 ?_
    refine aw_iconst (pc := 47) (v := 0) C dX7_weigh_47 rfl ?_
    refine aw_iload_n (pc := 48) C 2 dX7_weigh_48 rfl ?_
    refine aw_ist (pc := 49) (k := 0) C (0) (setR (setR σ 10 (upd (σ.1 10) 0 (((σ.1 9 a) + (σ.1 9 (6 + b))) + (σ.1 9 (12 + c))))) 8 (upd (σ.1 8) 0 (nI (a)))) sh10 dX7_weigh_49 rfl (by omega) rfl (by first | with_reducible rfl | (simp (disch := omega) only [setR_at, setR_twice, setL_at, setL_twice, setR_2, setL_1, setR_ne, setL_ne, ne_eq, Nat.reduceEqDiff, not_false_eq_true, pk_us, pk_un]; done) | (simp (disch := omega) only [setR_at, setR_twice, setL_at, setL_twice, setR_2, setL_1, setR_ne, setL_ne, ne_eq, Nat.reduceEqDiff, not_false_eq_true, pk_us, pk_un, Option.toList_some, Option.toList_none, List.cons_append, List.nil_append]; done) | ((try simp (disch := omega) only [setR_at, setR_twice, setL_at, setL_twice, setR_2, setL_1, setR_ne, setL_ne, ne_eq, Nat.reduceEqDiff, not_false_eq_true, pk_us, pk_un]); refine Prod.ext (funext fun z => ?_) rfl; simp only [setR]; (repeat' split) <;> first | with_reducible rfl | (exfalso; omega)) | rfl) ?_
    refine aw_aload_n (pc := 50) C 1 dX7_weigh_50 rfl ?_
    refine aw_getR (pc := 51) C fl_X7_9 sh9 rfl dX7_weigh_51 ?_
    refine aw_iconst (pc := 54) (v := 1) C dX7_weigh_54 rfl ?_
    refine aw_iload_n (pc := 55) C 3 dX7_weigh_55 rfl ?_
    refine aw_ist (pc := 56) (k := 1) C (1) (setR (setR σ 10 (upd (σ.1 10) 0 (((σ.1 9 a) + (σ.1 9 (6 + b))) + (σ.1 9 (12 + c))))) 8 (upd (upd (σ.1 8) 0 (nI (a))) 1 (nI (b)))) sh10 dX7_weigh_56 rfl (by omega) rfl (by first | with_reducible rfl | (simp (disch := omega) only [setR_at, setR_twice, setL_at, setL_twice, setR_2, setL_1, setR_ne, setL_ne, ne_eq, Nat.reduceEqDiff, not_false_eq_true, pk_us, pk_un]; done) | (simp (disch := omega) only [setR_at, setR_twice, setL_at, setL_twice, setR_2, setL_1, setR_ne, setL_ne, ne_eq, Nat.reduceEqDiff, not_false_eq_true, pk_us, pk_un, Option.toList_some, Option.toList_none, List.cons_append, List.nil_append]; done) | ((try simp (disch := omega) only [setR_at, setR_twice, setL_at, setL_twice, setR_2, setL_1, setR_ne, setL_ne, ne_eq, Nat.reduceEqDiff, not_false_eq_true, pk_us, pk_un]); refine Prod.ext (funext fun z => ?_) rfl; simp only [setR]; (repeat' split) <;> first | with_reducible rfl | (exfalso; omega)) | rfl) ?_
    refine aw_aload_n (pc := 57) C 1 dX7_weigh_57 rfl ?_
    refine aw_getR (pc := 58) C fl_X7_9 sh9 rfl dX7_weigh_58 ?_
    refine aw_iconst (pc := 61) (v := 2) C dX7_weigh_61 rfl ?_
    refine aw_iload_n (pc := 62) C 4 dX7_weigh_62 rfl ?_
    refine aw_ist (pc := 63) (k := 2) C (2) (setR (setR σ 10 (upd (σ.1 10) 0 (((σ.1 9 a) + (σ.1 9 (6 + b))) + (σ.1 9 (12 + c))))) 8 (upd (upd (upd (σ.1 8) 0 (nI (a))) 1 (nI (b))) 2 (nI (c)))) sh10 dX7_weigh_63 rfl (by omega) rfl (by first | with_reducible rfl | (simp (disch := omega) only [setR_at, setR_twice, setL_at, setL_twice, setR_2, setL_1, setR_ne, setL_ne, ne_eq, Nat.reduceEqDiff, not_false_eq_true, pk_us, pk_un]; done) | (simp (disch := omega) only [setR_at, setR_twice, setL_at, setL_twice, setR_2, setL_1, setR_ne, setL_ne, ne_eq, Nat.reduceEqDiff, not_false_eq_true, pk_us, pk_un, Option.toList_some, Option.toList_none, List.cons_append, List.nil_append]; done) | ((try simp (disch := omega) only [setR_at, setR_twice, setL_at, setL_twice, setR_2, setL_1, setR_ne, setL_ne, ne_eq, Nat.reduceEqDiff, not_false_eq_true, pk_us, pk_un]); refine Prod.ext (funext fun z => ?_) rfl; simp only [setR]; (repeat' split) <;> first | with_reducible rfl | (exfalso; omega)) | rfl) ?_
    exact aw_vretP (pc := 64) C rfl dX7_weigh_64 (Or.inl ⟨Int32.not_le.mp h34, rfl, rfl⟩)
