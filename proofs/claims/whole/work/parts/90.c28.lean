/-! the class: parts of DROPS -/
theorem c_X0_spread (σ : St) (s m : Nat) (o : Int32) (hs : s < 4) (hm : m < 10) : AMet Y_X0_spread [.ref 6, .int (nI s), .int o, .int (nI m)] σ (fz none (setL σ 0 (sprK (σ.2 0) (σ.2 1) s o (m + 1)))) := by
  refine am_intro (by decide +kernel) (Nat.le_of_ble_eq_true rfl) (fun K C => ?_)
  refine aw_iconst (pc := 0) (v := 0) C dX0_spread_0 rfl ?_
  refine aw_iload_n (pc := 1) C 1 dX0_spread_1 rfl ?_
  refine aw_iconst (pc := 2) (v := 1) C dX0_spread_2 rfl ?_
  refine aw_isub (pc := 3) C dX0_spread_3 ?_
  refine aw_mmax (pc := 4) C lk_X0_50 (by decide) (Nat.le_of_ble_eq_true rfl) dX0_spread_4 ?_
  refine aw_top C (nI (s - 1)) (mxsub hs) ?_
  refine aw_bipush (pc := 7) (v := 11) C dX0_spread_7 rfl ?_
  refine aw_imulN (pc := 9) C (s - 1) 11 rfl rfl dX0_spread_9 ?_
  refine aw_istore (pc := 10) C [(4, .int (nI ((s - 1) * 11))), (0, .ref 6), (1, .int (nI s)), (2, .int o), (3, .int (nI m))] dX0_spread_10 (Nat.le_of_ble_eq_true rfl) rfl ?_
  refine aw_iconst (pc := 12) (v := 0) C dX0_spread_12 rfl ?_
  refine aw_istore (pc := 13) C [(5, .int 0), (4, .int (nI ((s - 1) * 11))), (0, .ref 6), (1, .int (nI s)), (2, .int o), (3, .int (nI m))] dX0_spread_13 (Nat.le_of_ble_eq_true rfl) rfl ?_
  refine aw_lvs C [0, 1, 2, 3, 4, 5] [(5, .int 0), (4, .int (nI ((s - 1) * 11))), (0, .ref 6), (1, .int (nI s)), (2, .int o), (3, .int (nI m))] rfl ?_
  refine aw_conv (σ' := setL σ 0 (sprK (σ.2 0) (σ.2 1) s o 0)) (lv' := [(5, .int (nI 0)), (4, .int (nI ((s - 1) * 11))), (0, .ref 6), (1, .int (nI s)), (2, .int o), (3, .int (nI m))]) (setL_same σ 0).symm rfl rfl ?_
  refine loop_up (P := fun k => AW _ K _ (setL σ 0 (sprK (σ.2 0) (σ.2 1) s o k)) 15 [(5, .int (nI k)), (4, .int (nI ((s - 1) * 11))), (0, .ref 6), (1, .int (nI s)), (2, .int o), (3, .int (nI m))] []) (m + 1) ?_ ?_ 0 (by omega) 
  · refine aw_iload (pc := 15) C 0 dX0_spread_15 rfl ?_
    refine aw_iload_n (pc := 17) C 5 dX0_spread_17 rfl ?_
    refine aw_icmp_gtN (pc := 18) C (m + 1) m 82 rfl rfl (by omega) (by omega) dX0_spread_18 (by decide) (fun h18 => ?_) (fun h18 => absurd h18 (by omega))
    exact aw_vret (pc := 82) C rfl dX0_spread_82 rfl
  · intro k hk15 ih15 
    refine aw_iload (pc := 15) C 0 dX0_spread_15 rfl ?_
    refine aw_iload_n (pc := 17) C 5 dX0_spread_17 rfl ?_
    refine aw_icmp_gtN (pc := 18) C k m 82 rfl rfl (by omega) (by omega) dX0_spread_18 (by decide) (fun h18 => absurd h18 (by omega)) (fun h18 => ?_)
    refine aw_aload_n (pc := 21) C 2 dX0_spread_21 rfl ?_
    refine aw_getR (pc := 22) C fl_X0_15 sh6 rfl dX0_spread_22 ?_
    refine aw_iload_n (pc := 25) C 3 dX0_spread_25 rfl ?_
    refine aw_bipush (pc := 26) (v := 11) C dX0_spread_26 rfl ?_
    refine aw_imulN (pc := 28) C s 11 rfl rfl dX0_spread_28 ?_
    refine aw_iload (pc := 29) C 0 dX0_spread_29 rfl ?_
    refine aw_iaddN (pc := 31) C (s * 11) k rfl rfl dX0_spread_31 ?_
    refine aw_lld (pc := 32) (k := (s * 11) + k) C (σ.2 1 ((s * 11) + k)) sh8 dX0_spread_32 rfl (by omega) rfl ?_
    refine aw_lstore (pc := 33) C [(6, .long (σ.2 1 ((s * 11) + k))), (5, .int (nI k)), (4, .int (nI ((s - 1) * 11))), (0, .ref 6), (1, .int (nI s)), (2, .int o), (3, .int (nI m))] dX0_spread_33 (Nat.le_of_ble_eq_true rfl) rfl ?_
    refine aw_aload_n (pc := 35) C 3 dX0_spread_35 rfl ?_
    refine aw_getR (pc := 36) C fl_X0_11 sh6 rfl dX0_spread_36 ?_
    refine aw_iload (pc := 39) C 2 dX0_spread_39 rfl ?_
    refine aw_iload (pc := 41) C 1 dX0_spread_41 rfl ?_
    refine aw_iaddN (pc := 43) C ((s - 1) * 11) k rfl rfl dX0_spread_43 ?_
    refine aw_dup2 (pc := 44) C dX0_spread_44 rfl rfl ?_
    refine aw_lld (pc := 45) (k := ((s - 1) * 11) + k) C ((sprK (σ.2 0) (σ.2 1) s o k) (((s - 1) * 11) + k)) sh7 dX0_spread_45 rfl (by omega) rfl ?_
    refine aw_lload (pc := 46) C 0 dX0_spread_46 rfl ?_
    refine aw_bipush (pc := 48) (v := 24) C dX0_spread_48 rfl ?_
    refine aw_iload_n (pc := 50) C 5 dX0_spread_50 rfl ?_
    refine aw_isub (pc := 51) C dX0_spread_51 ?_
    refine aw_i2l (pc := 52) C dX0_spread_52 ?_
    refine aw_lmul (pc := 53) C dX0_spread_53 ?_
    refine aw_ladd (pc := 54) C dX0_spread_54 ?_
    refine aw_lst (pc := 55) (k := ((s - 1) * 11) + k) C (setL σ 0 (vp_updL (sprK (σ.2 0) (σ.2 1) s o k) (((s - 1) * 11) + k) (((sprK (σ.2 0) (σ.2 1) s o k) (((s - 1) * 11) + k)) + ((σ.2 1 ((s * 11) + k)) * ((24 - o).toInt64))))) sh7 dX0_spread_55 rfl (by omega) (by first | with_reducible rfl | (simp (disch := omega) only [setR_at, setR_twice, setL_at, setL_twice, setR_2, setL_1, setR_ne, setL_ne, ne_eq, Nat.reduceEqDiff, not_false_eq_true, pk_us, pk_un]; done) | (simp (disch := omega) only [setR_at, setR_twice, setL_at, setL_twice, setR_2, setL_1, setR_ne, setL_ne, ne_eq, Nat.reduceEqDiff, not_false_eq_true, pk_us, pk_un, Option.toList_some, Option.toList_none, List.cons_append, List.nil_append]; done) | ((try simp (disch := omega) only [setR_at, setR_twice, setL_at, setL_twice, setR_2, setL_1, setR_ne, setL_ne, ne_eq, Nat.reduceEqDiff, not_false_eq_true, pk_us, pk_un]); refine Prod.ext (funext fun z => ?_) rfl; simp only [setR]; (repeat' split) <;> first | with_reducible rfl | (exfalso; omega)) | (simp (disch := omega) only [setR_at, setR_twice, setL_at, setL_twice, setR_2, setL_1, setR_ne, setL_ne, ne_eq, Nat.reduceEqDiff, not_false_eq_true, pk_us, pk_un, setL_010, Option.toList_some, Option.toList_none, List.cons_append, List.nil_append]; done) | rfl) ?_
    refine aw_aload_n (pc := 56) C 3 dX0_spread_56 rfl ?_
    refine aw_getR (pc := 57) C fl_X0_11 sh6 rfl dX0_spread_57 ?_
    refine aw_bipush (pc := 60) (v := 33) C dX0_spread_60 rfl ?_
    refine aw_iload (pc := 62) C 1 dX0_spread_62 rfl ?_
    refine aw_iaddN (pc := 64) C 33 k rfl rfl dX0_spread_64 ?_
    refine aw_iconst (pc := 65) (v := 1) C dX0_spread_65 rfl ?_
    refine aw_iaddN (pc := 66) C (33 + k) 1 rfl rfl dX0_spread_66 ?_
    refine aw_dup2 (pc := 67) C dX0_spread_67 rfl rfl ?_
    refine aw_lld (pc := 68) (k := (33 + k) + 1) C ((vp_updL (sprK (σ.2 0) (σ.2 1) s o k) (((s - 1) * 11) + k) (((sprK (σ.2 0) (σ.2 1) s o k) (((s - 1) * 11) + k)) + ((σ.2 1 ((s * 11) + k)) * ((24 - o).toInt64)))) ((33 + k) + 1)) sh7 dX0_spread_68 rfl (by omega) rfl ?_
    refine aw_lload (pc := 69) C 0 dX0_spread_69 rfl ?_
    refine aw_iload_n (pc := 71) C 5 dX0_spread_71 rfl ?_
    refine aw_i2l (pc := 72) C dX0_spread_72 ?_
    refine aw_lmul (pc := 73) C dX0_spread_73 ?_
    refine aw_ladd (pc := 74) C dX0_spread_74 ?_
    refine aw_lst (pc := 75) (k := (33 + k) + 1) C (setL σ 0 (vp_updL (vp_updL (sprK (σ.2 0) (σ.2 1) s o k) (((s - 1) * 11) + k) (((sprK (σ.2 0) (σ.2 1) s o k) (((s - 1) * 11) + k)) + ((σ.2 1 ((s * 11) + k)) * ((24 - o).toInt64)))) ((33 + k) + 1) (((vp_updL (sprK (σ.2 0) (σ.2 1) s o k) (((s - 1) * 11) + k) (((sprK (σ.2 0) (σ.2 1) s o k) (((s - 1) * 11) + k)) + ((σ.2 1 ((s * 11) + k)) * ((24 - o).toInt64)))) ((33 + k) + 1)) + ((σ.2 1 ((s * 11) + k)) * ((o).toInt64))))) sh7 dX0_spread_75 rfl (by omega) (by first | with_reducible rfl | (simp (disch := omega) only [setR_at, setR_twice, setL_at, setL_twice, setR_2, setL_1, setR_ne, setL_ne, ne_eq, Nat.reduceEqDiff, not_false_eq_true, pk_us, pk_un]; done) | (simp (disch := omega) only [setR_at, setR_twice, setL_at, setL_twice, setR_2, setL_1, setR_ne, setL_ne, ne_eq, Nat.reduceEqDiff, not_false_eq_true, pk_us, pk_un, Option.toList_some, Option.toList_none, List.cons_append, List.nil_append]; done) | ((try simp (disch := omega) only [setR_at, setR_twice, setL_at, setL_twice, setR_2, setL_1, setR_ne, setL_ne, ne_eq, Nat.reduceEqDiff, not_false_eq_true, pk_us, pk_un]); refine Prod.ext (funext fun z => ?_) rfl; simp only [setR]; (repeat' split) <;> first | with_reducible rfl | (exfalso; omega)) | (simp (disch := omega) only [setR_at, setR_twice, setL_at, setL_twice, setR_2, setL_1, setR_ne, setL_ne, ne_eq, Nat.reduceEqDiff, not_false_eq_true, pk_us, pk_un, setL_010, Option.toList_some, Option.toList_none, List.cons_append, List.nil_append]; done) | rfl) ?_
    refine aw_iincN (pc := 76) C 1 k [(5, .int (nI (k + 1))), (6, .long (σ.2 1 ((s * 11) + k))), (4, .int (nI ((s - 1) * 11))), (0, .ref 6), (1, .int (nI s)), (2, .int o), (3, .int (nI m))] dX0_spread_76 rfl rfl rfl (Nat.le_of_ble_eq_true rfl) rfl ?_
    refine aw_goto (pc := 79) C 15 dX0_spread_79 (by decide) ?_
    refine aw_lvs C [0, 2, 3, 4, 5, 6] [(5, .int (nI (k + 1))), (4, .int (nI ((s - 1) * 11))), (0, .ref 6), (1, .int (nI s)), (2, .int o), (3, .int (nI m))] rfl ?_
    exact aw_conv (σ' := setL σ 0 (sprK (σ.2 0) (σ.2 1) s o (k + 1))) (lv' := [(5, .int (nI (k + 1))), (4, .int (nI ((s - 1) * 11))), (0, .ref 6), (1, .int (nI s)), (2, .int o), (3, .int (nI m))]) rfl rfl rfl ih15
theorem c_X0_ofDrops (σ : St) (j : Nat) (hj : j < 3) (n : Nat) (hok : Ok n (σ.1 j)) (r y q k : Nat) (hr : r < n) (hyq : y + q ≤ 30) (hq : q ≤ 10) (hkq : k ≤ q) : AMet Y_X0_ofDrops [.ref 6, .ref (25 + 16 * j), .int (nI r), .int (nI y), .int (nI q), .int (nI k)] σ (OdO σ (dS (σ.1 j) r q y k 0)) := by
  refine am_intro (by decide +kernel) (Nat.le_of_ble_eq_true rfl) (fun K C => ?_)
  have hz := hok.1
  have hn := hok.2.1
  obtain ⟨k0, hk7, hk⟩ := (hok.2.2.2.2.1 r hr).1
  refine aw_aload_n (pc := 0) C 1 dX0_ofDrops_0 rfl ?_
  refine aw_getR (pc := 1) C fl_X0_18 (shM hj) rfl dX0_ofDrops_1 ?_
  refine aw_iload_n (pc := 4) C 2 dX0_ofDrops_4 rfl ?_
  refine aw_aald (pc := 5) (k := r) C (shRs hj) dX0_ofDrops_5 rfl (by omega) ?_
  refine aw_astore (pc := 6) C [(6, .ref (29 + 16 * j + 2 * r)), (0, .ref 6), (1, .ref (25 + 16 * j)), (2, .int (nI r)), (3, .int (nI y)), (4, .int (nI q)), (5, .int (nI k))] dX0_ofDrops_6 (Nat.le_of_ble_eq_true rfl) rfl ?_
  refine aw_aload_n (pc := 8) C 1 dX0_ofDrops_8 rfl ?_
  refine aw_getR (pc := 9) C fl_X0_11 sh6 rfl dX0_ofDrops_9 ?_
  refine aw_lconst (pc := 12) (v := 0) C dX0_ofDrops_12 rfl ?_
  refine aw_cS0 (pc := 13) C (c_J7_fillL _  7 0 44 sh7 0 (by omega)) lk_X0_24 dX0_ofDrops_13 (by decide) (Nat.le_of_ble_eq_true rfl) rfl rfl ?_
  refine aw_aload_n (pc := 16) C 1 dX0_ofDrops_16 rfl ?_
  refine aw_getR (pc := 17) C fl_X0_11 sh6 rfl dX0_ofDrops_17 ?_
  refine aw_iconst (pc := 20) (v := 0) C dX0_ofDrops_20 rfl ?_
  refine aw_lconst (pc := 21) (v := 1) C dX0_ofDrops_21 rfl ?_
  refine aw_lst (pc := 22) (k := 0) C (setL σ 0 (vp_updL (filL (σ.2 0) 0 44) 0 (1))) sh7 dX0_ofDrops_22 rfl (by omega) (by first | with_reducible rfl | (simp (disch := omega) only [setR_at, setR_twice, setL_at, setL_twice, setR_2, setL_1, setR_ne, setL_ne, ne_eq, Nat.reduceEqDiff, not_false_eq_true, pk_us, pk_un]; done) | (simp (disch := omega) only [setR_at, setR_twice, setL_at, setL_twice, setR_2, setL_1, setR_ne, setL_ne, ne_eq, Nat.reduceEqDiff, not_false_eq_true, pk_us, pk_un, Option.toList_some, Option.toList_none, List.cons_append, List.nil_append]; done) | ((try simp (disch := omega) only [setR_at, setR_twice, setL_at, setL_twice, setR_2, setL_1, setR_ne, setL_ne, ne_eq, Nat.reduceEqDiff, not_false_eq_true, pk_us, pk_un]); refine Prod.ext (funext fun z => ?_) rfl; simp only [setR]; (repeat' split) <;> first | with_reducible rfl | (exfalso; omega)) | (simp (disch := omega) only [setR_at, setR_twice, setL_at, setL_twice, setR_2, setL_1, setR_ne, setL_ne, ne_eq, Nat.reduceEqDiff, not_false_eq_true, pk_us, pk_un, setL_010, Option.toList_some, Option.toList_none, List.cons_append, List.nil_append]; done) | rfl) ?_
  refine aw_iload_n (pc := 23) C 4 dX0_ofDrops_23 rfl ?_
  refine aw_istore (pc := 24) C [(7, .int (nI y)), (6, .ref (29 + 16 * j + 2 * r)), (0, .ref 6), (1, .ref (25 + 16 * j)), (2, .int (nI r)), (3, .int (nI y)), (4, .int (nI q)), (5, .int (nI k))] dX0_ofDrops_24 (Nat.le_of_ble_eq_true rfl) rfl ?_
  refine aw_lvs C [0, 1, 2, 3, 4, 5, 6, 7] [(7, .int (nI y)), (6, .ref (29 + 16 * j + 2 * r)), (0, .ref 6), (1, .ref (25 + 16 * j)), (2, .int (nI r)), (3, .int (nI y)), (4, .int (nI q)), (5, .int (nI k))] rfl ?_
  refine aw_conv (σ' := setL (setL σ 0 (vp_updL (filL (σ.2 0) 0 44) 0 1)) 1 (σ.2 1)) (lv' := [(7, .int (nI (y + 0))), (6, .ref (29 + 16 * j + 2 * r)), (0, .ref 6), (1, .ref (25 + 16 * j)), (2, .int (nI r)), (3, .int (nI y)), (4, .int (nI q)), (5, .int (nI k))]) (setL_same (setL σ 0 (vp_updL (filL (σ.2 0) 0 44) 0 1)) 1).symm rfl rfl ?_
  refine loop_up (P := fun m => ∀ (P A : LR) (hI : DInv (σ.1 j) r y q k m P), AW _ K _ (setL (setL σ 0 (P)) 1 (A)) 26 [(7, .int (nI (y + m))), (6, .ref (29 + 16 * j + 2 * r)), (0, .ref 6), (1, .ref (25 + 16 * j)), (2, .int (nI r)), (3, .int (nI y)), (4, .int (nI q)), (5, .int (nI k))] []) q ?_ ?_ 0 (by omega) (vp_updL (filL (σ.2 0) 0 44) 0 1) (σ.2 1) (DInv.first (by omega))
  · intro P A hI
    refine aw_iload (pc := 26) C 0 dX0_ofDrops_26 rfl ?_
    refine aw_iload_n (pc := 28) C 5 dX0_ofDrops_28 rfl ?_
    refine aw_iload (pc := 29) C 6 dX0_ofDrops_29 rfl ?_
    refine aw_iaddN (pc := 31) C y q rfl rfl dX0_ofDrops_31 ?_
    refine aw_icmp_geN (pc := 32) C (y + q) (y + q) 108 rfl rfl (by omega) (by omega) dX0_ofDrops_32 (by decide) (fun h32 => ?_) (fun h32 => absurd h32 (by omega))
    refine aw_lconst (pc := 108) (v := 0) C dX0_ofDrops_108 rfl ?_
    refine aw_lstore (pc := 109) C [(7, .long (0)), (6, .ref (29 + 16 * j + 2 * r)), (0, .ref 6), (1, .ref (25 + 16 * j)), (2, .int (nI r)), (3, .int (nI y)), (4, .int (nI q)), (5, .int (nI k))] dX0_ofDrops_109 (Nat.le_of_ble_eq_true rfl) rfl ?_
    refine aw_iconst (pc := 111) (v := 0) C dX0_ofDrops_111 rfl ?_
    refine aw_istore (pc := 112) C [(9, .int 0), (7, .long (0)), (6, .ref (29 + 16 * j + 2 * r)), (0, .ref 6), (1, .ref (25 + 16 * j)), (2, .int (nI r)), (3, .int (nI y)), (4, .int (nI q)), (5, .int (nI k))] dX0_ofDrops_112 (Nat.le_of_ble_eq_true rfl) rfl ?_
    refine aw_lvs C [0, 1, 2, 3, 4, 5, 6, 7, 8] [(9, .int 0), (7, .long (0)), (6, .ref (29 + 16 * j + 2 * r)), (0, .ref 6), (1, .ref (25 + 16 * j)), (2, .int (nI r)), (3, .int (nI y)), (4, .int (nI q)), (5, .int (nI k))] rfl ?_
    refine aw_conv (σ' := setL (setL σ 0 (P)) 1 (A)) (lv' := [(9, .int (nI 0)), (7, .long (suS P k 0)), (6, .ref (29 + 16 * j + 2 * r)), (0, .ref 6), (1, .ref (25 + 16 * j)), (2, .int (nI r)), (3, .int (nI y)), (4, .int (nI q)), (5, .int (nI k))]) rfl rfl rfl ?_
    refine loop_up (P := fun z => AW _ K _ (setL (setL σ 0 (P)) 1 (A)) 114 [(9, .int (nI z)), (7, .long (suS P k z)), (6, .ref (29 + 16 * j + 2 * r)), (0, .ref 6), (1, .ref (25 + 16 * j)), (2, .int (nI r)), (3, .int (nI y)), (4, .int (nI q)), (5, .int (nI k))] []) 4 ?_ ?_ 0 (by omega) 
    · refine aw_iload (pc := 114) C 0 dX0_ofDrops_114 rfl ?_
      refine aw_iconst (pc := 116) (v := 3) C dX0_ofDrops_116 rfl ?_
      refine aw_icmp_gtN (pc := 117) C 4 3 144 rfl rfl (by omega) (by omega) dX0_ofDrops_117 (by decide) (fun h117 => ?_) (fun h117 => absurd h117 (by omega))
      refine aw_lload (pc := 144) C 1 dX0_ofDrops_144 rfl ?_
      exact aw_lretP (pc := 146) C rfl dX0_ofDrops_146 ⟨P, A, (by rw [hI.sum hkq]), rfl⟩
    · intro z hk114 ih114 
      refine aw_iload (pc := 114) C 0 dX0_ofDrops_114 rfl ?_
      refine aw_iconst (pc := 116) (v := 3) C dX0_ofDrops_116 rfl ?_
      refine aw_icmp_gtN (pc := 117) C z 3 144 rfl rfl (by omega) (by omega) dX0_ofDrops_117 (by decide) (fun h117 => absurd h117 (by omega)) (fun h117 => ?_)
      refine aw_lload (pc := 120) C 1 dX0_ofDrops_120 rfl ?_
      refine aw_aload_n (pc := 122) C 3 dX0_ofDrops_122 rfl ?_
      refine aw_getR (pc := 123) C fl_X0_11 sh6 rfl dX0_ofDrops_123 ?_
      refine aw_iload (pc := 126) C 0 dX0_ofDrops_126 rfl ?_
      refine aw_bipush (pc := 128) (v := 11) C dX0_ofDrops_128 rfl ?_
      refine aw_imulN (pc := 130) C z 11 rfl rfl dX0_ofDrops_130 ?_
      refine aw_iload (pc := 131) C 8 dX0_ofDrops_131 rfl ?_
      refine aw_iaddN (pc := 133) C (z * 11) k rfl rfl dX0_ofDrops_133 ?_
      refine aw_lld (pc := 134) (k := (z * 11) + k) C (P ((z * 11) + k)) sh7 dX0_ofDrops_134 rfl (by omega) rfl ?_
      refine aw_ladd (pc := 135) C dX0_ofDrops_135 ?_
      refine aw_lstore (pc := 136) C [(7, .long ((suS P k z) + (P ((z * 11) + k)))), (9, .int (nI z)), (6, .ref (29 + 16 * j + 2 * r)), (0, .ref 6), (1, .ref (25 + 16 * j)), (2, .int (nI r)), (3, .int (nI y)), (4, .int (nI q)), (5, .int (nI k))] dX0_ofDrops_136 (Nat.le_of_ble_eq_true rfl) rfl ?_
      refine aw_iincN (pc := 138) C 1 z [(9, .int (nI (z + 1))), (7, .long ((suS P k z) + (P ((z * 11) + k)))), (6, .ref (29 + 16 * j + 2 * r)), (0, .ref 6), (1, .ref (25 + 16 * j)), (2, .int (nI r)), (3, .int (nI y)), (4, .int (nI q)), (5, .int (nI k))] dX0_ofDrops_138 rfl rfl rfl (Nat.le_of_ble_eq_true rfl) rfl ?_
      refine aw_goto (pc := 141) C 114 dX0_ofDrops_141 (by decide) ?_
      refine aw_lvs C [0, 1, 2, 3, 4, 5, 6, 7, 8] [(9, .int (nI (z + 1))), (7, .long ((suS P k z) + (P ((z * 11) + k)))), (6, .ref (29 + 16 * j + 2 * r)), (0, .ref 6), (1, .ref (25 + 16 * j)), (2, .int (nI r)), (3, .int (nI y)), (4, .int (nI q)), (5, .int (nI k))] rfl ?_
      exact aw_conv (σ' := setL (setL σ 0 (P)) 1 (A)) (lv' := [(9, .int (nI (z + 1))), (7, .long (suS P k (z + 1))), (6, .ref (29 + 16 * j + 2 * r)), (0, .ref 6), (1, .ref (25 + 16 * j)), (2, .int (nI r)), (3, .int (nI y)), (4, .int (nI q)), (5, .int (nI k))]) rfl rfl rfl ih114
  · intro m hk26 ih26 P A hI
    refine aw_iload (pc := 26) C 0 dX0_ofDrops_26 rfl ?_
    refine aw_iload_n (pc := 28) C 5 dX0_ofDrops_28 rfl ?_
    refine aw_iload (pc := 29) C 6 dX0_ofDrops_29 rfl ?_
    refine aw_iaddN (pc := 31) C y q rfl rfl dX0_ofDrops_31 ?_
    refine aw_icmp_geN (pc := 32) C (y + m) (y + q) 108 rfl rfl (by omega) (by omega) dX0_ofDrops_32 (by decide) (fun h32 => absurd h32 (by omega)) (fun h32 => ?_)
    obtain ⟨g0, hg5, hg⟩ := hok.2.2.2.1 (y + m) (by omega)
    obtain ⟨p, hp1, hp9, hp⟩ := (hok.2.2.2.2.1 r hr).2.2.2.2.2 (y + m) (by omega)
    refine aw_aload_n (pc := 35) C 2 dX0_ofDrops_35 rfl ?_
    refine aw_getR (pc := 36) C fl_X0_11 sh6 rfl dX0_ofDrops_36 ?_
    refine aw_iconst (pc := 39) (v := 0) C dX0_ofDrops_39 rfl ?_
    refine aw_aload_n (pc := 40) C 2 dX0_ofDrops_40 rfl ?_
    refine aw_getR (pc := 41) C fl_X0_15 sh6 rfl dX0_ofDrops_41 ?_
    refine aw_iconst (pc := 44) (v := 0) C dX0_ofDrops_44 rfl ?_
    refine aw_bipush (pc := 45) (v := 44) C dX0_ofDrops_45 rfl ?_
    refine aw_copyL (pc := 47) (sp := 0) (dp := 0) (n := 44) C sh7 sh8 ac_X0_30 (by decide) rfl rfl rfl (by omega) (by omega) (Nat.le_of_ble_eq_true rfl) dX0_ofDrops_47 ?_
    refine aw_conv (σ' := setL (setL σ 0 (P)) 1 (cpyL (P) (A) 0 0 44)) (by first | with_reducible rfl | (simp (disch := omega) only [setR_at, setR_twice, setL_at, setL_twice, setR_2, setL_1, setR_ne, setL_ne, ne_eq, Nat.reduceEqDiff, not_false_eq_true, pk_us, pk_un]; done) | (simp (disch := omega) only [setR_at, setR_twice, setL_at, setL_twice, setR_2, setL_1, setR_ne, setL_ne, ne_eq, Nat.reduceEqDiff, not_false_eq_true, pk_us, pk_un, Option.toList_some, Option.toList_none, List.cons_append, List.nil_append]; done) | ((try simp (disch := omega) only [setR_at, setR_twice, setL_at, setL_twice, setR_2, setL_1, setR_ne, setL_ne, ne_eq, Nat.reduceEqDiff, not_false_eq_true, pk_us, pk_un]); refine Prod.ext (funext fun z => ?_) rfl; simp only [setR]; (repeat' split) <;> first | with_reducible rfl | (exfalso; omega)) | (simp (disch := omega) only [setR_at, setR_twice, setL_at, setL_twice, setR_2, setL_1, setR_ne, setL_ne, ne_eq, Nat.reduceEqDiff, not_false_eq_true, pk_us, pk_un, setL_010, Option.toList_some, Option.toList_none, List.cons_append, List.nil_append]; done) | rfl) rfl rfl ?_
    refine aw_aload_n (pc := 50) C 2 dX0_ofDrops_50 rfl ?_
    refine aw_getR (pc := 51) C fl_X0_11 sh6 rfl dX0_ofDrops_51 ?_
    refine aw_lconst (pc := 54) (v := 0) C dX0_ofDrops_54 rfl ?_
    refine aw_cS0 (pc := 55) C (c_J7_fillL _  7 0 44 sh7 0 (by omega)) lk_X0_24 dX0_ofDrops_55 (by decide) (Nat.le_of_ble_eq_true rfl) rfl rfl ?_
    refine aw_conv (σ' := setL (setL σ 0 (filL (P) 0 44)) 1 (cpyL (P) (A) 0 0 44)) (st' := []) (by first | with_reducible rfl | (simp (disch := omega) only [setR_at, setR_twice, setL_at, setL_twice, setR_2, setL_1, setR_ne, setL_ne, ne_eq, Nat.reduceEqDiff, not_false_eq_true, pk_us, pk_un]; done) | (simp (disch := omega) only [setR_at, setR_twice, setL_at, setL_twice, setR_2, setL_1, setR_ne, setL_ne, ne_eq, Nat.reduceEqDiff, not_false_eq_true, pk_us, pk_un, Option.toList_some, Option.toList_none, List.cons_append, List.nil_append]; done) | ((try simp (disch := omega) only [setR_at, setR_twice, setL_at, setL_twice, setR_2, setL_1, setR_ne, setL_ne, ne_eq, Nat.reduceEqDiff, not_false_eq_true, pk_us, pk_un]); refine Prod.ext (funext fun z => ?_) rfl; simp only [setR]; (repeat' split) <;> first | with_reducible rfl | (exfalso; omega)) | (simp (disch := omega) only [setR_at, setR_twice, setL_at, setL_twice, setR_2, setL_1, setR_ne, setL_ne, ne_eq, Nat.reduceEqDiff, not_false_eq_true, pk_us, pk_un, setL_010, Option.toList_some, Option.toList_none, List.cons_append, List.nil_append]; done) | rfl) rfl (by first | with_reducible rfl | (simp (disch := omega) only [setR_at, setR_twice, setL_at, setL_twice, setR_2, setL_1, setR_ne, setL_ne, ne_eq, Nat.reduceEqDiff, not_false_eq_true, pk_us, pk_un]; done) | (simp (disch := omega) only [setR_at, setR_twice, setL_at, setL_twice, setR_2, setL_1, setR_ne, setL_ne, ne_eq, Nat.reduceEqDiff, not_false_eq_true, pk_us, pk_un, Option.toList_some, Option.toList_none, List.cons_append, List.nil_append]; done) | ((try simp (disch := omega) only [setR_at, setR_twice, setL_at, setL_twice, setR_2, setL_1, setR_ne, setL_ne, ne_eq, Nat.reduceEqDiff, not_false_eq_true, pk_us, pk_un]); refine Prod.ext (funext fun z => ?_) rfl; simp only [setR]; (repeat' split) <;> first | with_reducible rfl | (exfalso; omega)) | (simp (disch := omega) only [setR_at, setR_twice, setL_at, setL_twice, setR_2, setL_1, setR_ne, setL_ne, ne_eq, Nat.reduceEqDiff, not_false_eq_true, pk_us, pk_un, setL_010, Option.toList_some, Option.toList_none, List.cons_append, List.nil_append]; done) | rfl) ?_
    refine aw_iconst (pc := 58) (v := 0) C dX0_ofDrops_58 rfl ?_
    refine aw_istore (pc := 59) C [(8, .int 0), (7, .int (nI (y + m))), (6, .ref (29 + 16 * j + 2 * r)), (0, .ref 6), (1, .ref (25 + 16 * j)), (2, .int (nI r)), (3, .int (nI y)), (4, .int (nI q)), (5, .int (nI k))] dX0_ofDrops_59 (Nat.le_of_ble_eq_true rfl) rfl ?_
    refine aw_lvs C [0, 1, 2, 3, 4, 5, 6, 7, 8] [(8, .int 0), (7, .int (nI (y + m))), (6, .ref (29 + 16 * j + 2 * r)), (0, .ref 6), (1, .ref (25 + 16 * j)), (2, .int (nI r)), (3, .int (nI y)), (4, .int (nI q)), (5, .int (nI k))] rfl ?_
    refine aw_conv (σ' := setL (setL σ 0 (sp4 (filL P 0 44) (cpyL P A 0 0 44) (fun s => oddsA (σ.1 j) r (y + m) (shk (0 < s))) (m + 1) 0)) 1 (cpyL P A 0 0 44)) (lv' := [(8, .int (nI 0)), (7, .int (nI (y + m))), (6, .ref (29 + 16 * j + 2 * r)), (0, .ref 6), (1, .ref (25 + 16 * j)), (2, .int (nI r)), (3, .int (nI y)), (4, .int (nI q)), (5, .int (nI k))]) rfl rfl rfl ?_
    refine loop_up (P := fun s => AW _ K _ (setL (setL σ 0 (sp4 (filL P 0 44) (cpyL P A 0 0 44) (fun s => oddsA (σ.1 j) r (y + m) (shk (0 < s))) (m + 1) s)) 1 (cpyL P A 0 0 44)) 61 [(8, .int (nI s)), (7, .int (nI (y + m))), (6, .ref (29 + 16 * j + 2 * r)), (0, .ref 6), (1, .ref (25 + 16 * j)), (2, .int (nI r)), (3, .int (nI y)), (4, .int (nI q)), (5, .int (nI k))] []) 4 ?_ ?_ 0 (by omega) 
    · refine aw_iload (pc := 61) C 0 dX0_ofDrops_61 rfl ?_
      refine aw_iconst (pc := 63) (v := 3) C dX0_ofDrops_63 rfl ?_
      refine aw_icmp_gtN (pc := 64) C 4 3 102 rfl rfl (by omega) (by omega) dX0_ofDrops_64 (by decide) (fun h64 => ?_) (fun h64 => absurd h64 (by omega))
      refine aw_iincN (pc := 102) C 1 (y + m) [(7, .int (nI (y + m + 1))), (8, .int (nI 4)), (6, .ref (29 + 16 * j + 2 * r)), (0, .ref 6), (1, .ref (25 + 16 * j)), (2, .int (nI r)), (3, .int (nI y)), (4, .int (nI q)), (5, .int (nI k))] dX0_ofDrops_102 rfl rfl rfl (Nat.le_of_ble_eq_true rfl) rfl ?_
      refine aw_goto (pc := 105) C 26 dX0_ofDrops_105 (by decide) ?_
      refine aw_lvs C [0, 2, 3, 4, 5, 6, 7, 8] [(7, .int (nI (y + m + 1))), (6, .ref (29 + 16 * j + 2 * r)), (0, .ref 6), (1, .ref (25 + 16 * j)), (2, .int (nI r)), (3, .int (nI y)), (4, .int (nI q)), (5, .int (nI k))] rfl ?_
      exact aw_conv (σ' := setL (setL σ 0 (sp4 (filL P 0 44) (cpyL P A 0 0 44) (fun s => oddsA (σ.1 j) r (y + m) (shk (0 < s))) (m + 1) 4)) 1 (cpyL P A 0 0 44)) (lv' := [(7, .int (nI (y + (m + 1)))), (6, .ref (29 + 16 * j + 2 * r)), (0, .ref 6), (1, .ref (25 + 16 * j)), (2, .int (nI r)), (3, .int (nI y)), (4, .int (nI q)), (5, .int (nI k))]) rfl rfl rfl (ih26 _ _ (hI.next (by omega) (by omega) (by omega)))
    · intro s hk61 ih61 
      refine aw_iload (pc := 61) C 0 dX0_ofDrops_61 rfl ?_
      refine aw_iconst (pc := 63) (v := 3) C dX0_ofDrops_63 rfl ?_
      refine aw_icmp_gtN (pc := 64) C s 3 102 rfl rfl (by omega) (by omega) dX0_ofDrops_64 (by decide) (fun h64 => absurd h64 (by omega)) (fun h64 => ?_)
      refine aw_aload_n (pc := 67) C 3 dX0_ofDrops_67 rfl ?_
      refine aw_iload (pc := 68) C 0 dX0_ofDrops_68 rfl ?_
      refine aw_aload_n (pc := 70) C 4 dX0_ofDrops_70 rfl ?_
      refine aw_aload (pc := 71) C 2 dX0_ofDrops_71 rfl ?_
      refine aw_iload (pc := 73) C 1 dX0_ofDrops_73 rfl ?_
      refine aw_aload (pc := 75) C 2 dX0_ofDrops_75 rfl ?_
      refine aw_getR (pc := 77) C fl_X0_36 (shR hj (by omega)) rfl dX0_ofDrops_77 ?_
      refine aw_iload (pc := 80) C 1 dX0_ofDrops_80 rfl ?_
      refine aw_ild (pc := 82) (k := y + m) C (33 + 37 * r + (7 + (y + m))) (σ.1 j (33 + 37 * r + (7 + (y + m)))) (shP hj (by omega)) dX0_ofDrops_82 rfl (by omega) (by omega) (by first | with_reducible rfl | (simp (disch := omega) only [setR_at, setR_twice, setL_at, setL_twice, setR_2, setL_1, setR_ne, setL_ne, ne_eq, Nat.reduceEqDiff, not_false_eq_true, pk_us, pk_un]; done) | (simp (disch := omega) only [setR_at, setR_twice, setL_at, setL_twice, setR_2, setL_1, setR_ne, setL_ne, ne_eq, Nat.reduceEqDiff, not_false_eq_true, pk_us, pk_un, Option.toList_some, Option.toList_none, List.cons_append, List.nil_append]; done) | ((try simp (disch := omega) only [setR_at, setR_twice, setL_at, setL_twice, setR_2, setL_1, setR_ne, setL_ne, ne_eq, Nat.reduceEqDiff, not_false_eq_true, pk_us, pk_un]); refine Prod.ext (funext fun z => ?_) rfl; simp only [setR]; (repeat' split) <;> first | with_reducible rfl | (exfalso; omega)) | (simp (disch := omega) only [setR_at, setR_twice, setL_at, setL_twice, setR_2, setL_1, setR_ne, setL_ne, ne_eq, Nat.reduceEqDiff, not_false_eq_true, pk_us, pk_un, setL_010, Option.toList_some, Option.toList_none, List.cons_append, List.nil_append]; done) | rfl) ?_
      refine aw_top C (nI (p)) hp ?_
      refine aw_iload (pc := 83) C 0 dX0_ofDrops_83 rfl ?_
      refine aw_iconst (pc := 85) (v := 0) C dX0_ofDrops_85 rfl ?_
      refine aw_cVI (pc := 86) C (c_X2_oddsOf _  j hj r (by omega) k0 (by simp (disch := omega) only [setR_at, setR_twice, setL_at, setL_twice, setR_2, setL_1, setR_ne, setL_ne, ne_eq, Nat.reduceEqDiff, not_false_eq_true, pk_us, pk_un]; exact hk) hk7 (y + m) p (nI (s)) 0 g0 (by simp (disch := omega) only [setR_at, setR_twice, setL_at, setL_twice, setR_2, setL_1, setR_ne, setL_ne, ne_eq, Nat.reduceEqDiff, not_false_eq_true, pk_us, pk_un]; exact hg) (by omega) (by omega) (by omega) (by omega)) lk_X0_42 (shM hj) rfl dX0_ofDrops_86 (by decide) (Nat.le_of_ble_eq_true rfl) rfl rfl ?_
      refine aw_conv (σ' := setL (setL σ 0 (sp4 (filL P 0 44) (cpyL P A 0 0 44) (fun s => oddsA (σ.1 j) r (y + m) (shk (0 < s))) (m + 1) s)) 1 (cpyL P A 0 0 44)) (st' := [.int (oddsM (σ.1 j) r (y + m) (nI p) (shk (0 < nI (s))) 0), .int (nI s), .ref 6]) (by first | with_reducible rfl | (simp (disch := omega) only [setR_at, setR_twice, setL_at, setL_twice, setR_2, setL_1, setR_ne, setL_ne, ne_eq, Nat.reduceEqDiff, not_false_eq_true, pk_us, pk_un]; done) | (simp (disch := omega) only [setR_at, setR_twice, setL_at, setL_twice, setR_2, setL_1, setR_ne, setL_ne, ne_eq, Nat.reduceEqDiff, not_false_eq_true, pk_us, pk_un, Option.toList_some, Option.toList_none, List.cons_append, List.nil_append]; done) | ((try simp (disch := omega) only [setR_at, setR_twice, setL_at, setL_twice, setR_2, setL_1, setR_ne, setL_ne, ne_eq, Nat.reduceEqDiff, not_false_eq_true, pk_us, pk_un]); refine Prod.ext (funext fun z => ?_) rfl; simp only [setR]; (repeat' split) <;> first | with_reducible rfl | (exfalso; omega)) | (simp (disch := omega) only [setR_at, setR_twice, setL_at, setL_twice, setR_2, setL_1, setR_ne, setL_ne, ne_eq, Nat.reduceEqDiff, not_false_eq_true, pk_us, pk_un, setL_010, Option.toList_some, Option.toList_none, List.cons_append, List.nil_append]; done) | rfl) rfl (by first | with_reducible rfl | (simp (disch := omega) only [setR_at, setR_twice, setL_at, setL_twice, setR_2, setL_1, setR_ne, setL_ne, ne_eq, Nat.reduceEqDiff, not_false_eq_true, pk_us, pk_un]; done) | (simp (disch := omega) only [setR_at, setR_twice, setL_at, setL_twice, setR_2, setL_1, setR_ne, setL_ne, ne_eq, Nat.reduceEqDiff, not_false_eq_true, pk_us, pk_un, Option.toList_some, Option.toList_none, List.cons_append, List.nil_append]; done) | ((try simp (disch := omega) only [setR_at, setR_twice, setL_at, setL_twice, setR_2, setL_1, setR_ne, setL_ne, ne_eq, Nat.reduceEqDiff, not_false_eq_true, pk_us, pk_un]); refine Prod.ext (funext fun z => ?_) rfl; simp only [setR]; (repeat' split) <;> first | with_reducible rfl | (exfalso; omega)) | (simp (disch := omega) only [setR_at, setR_twice, setL_at, setL_twice, setR_2, setL_1, setR_ne, setL_ne, ne_eq, Nat.reduceEqDiff, not_false_eq_true, pk_us, pk_un, setL_010, Option.toList_some, Option.toList_none, List.cons_append, List.nil_append]; done) | rfl) ?_
      refine aw_top C (oddsA (σ.1 j) r (y + m) (shk (0 < s))) (by rw [oddsA, show fl (σ.1 j) r (7 + (y + m)) = nI p from hp, shkN (by omega)]) ?_
      refine aw_iload (pc := 89) C 1 dX0_ofDrops_89 rfl ?_
      refine aw_iload_n (pc := 91) C 6 dX0_ofDrops_91 rfl ?_
      refine aw_isubN (pc := 92) C (y + m) y rfl rfl (by omega) dX0_ofDrops_92 ?_
      refine aw_top C (nI (m)) (by rw [Nat.add_sub_cancel_left]) ?_
      refine aw_cV0 (pc := 93) C (c_X0_spread _  s m (oddsA (σ.1 j) r (y + m) (shk (0 < s))) (by omega) (by omega)) lk_X0_46 sh6 rfl dX0_ofDrops_93 (by decide) (Nat.le_of_ble_eq_true rfl) rfl rfl ?_
      refine aw_conv (σ' := setL (setL σ 0 (sprK (sp4 (filL P 0 44) (cpyL P A 0 0 44) (fun s => oddsA (σ.1 j) r (y + m) (shk (0 < s))) (m + 1) s) (cpyL P A 0 0 44) s (oddsA (σ.1 j) r (y + m) (shk (0 < s))) (m + 1))) 1 (cpyL P A 0 0 44)) (st' := []) (by first | with_reducible rfl | (simp (disch := omega) only [setR_at, setR_twice, setL_at, setL_twice, setR_2, setL_1, setR_ne, setL_ne, ne_eq, Nat.reduceEqDiff, not_false_eq_true, pk_us, pk_un]; done) | (simp (disch := omega) only [setR_at, setR_twice, setL_at, setL_twice, setR_2, setL_1, setR_ne, setL_ne, ne_eq, Nat.reduceEqDiff, not_false_eq_true, pk_us, pk_un, Option.toList_some, Option.toList_none, List.cons_append, List.nil_append]; done) | ((try simp (disch := omega) only [setR_at, setR_twice, setL_at, setL_twice, setR_2, setL_1, setR_ne, setL_ne, ne_eq, Nat.reduceEqDiff, not_false_eq_true, pk_us, pk_un]); refine Prod.ext (funext fun z => ?_) rfl; simp only [setR]; (repeat' split) <;> first | with_reducible rfl | (exfalso; omega)) | (simp (disch := omega) only [setR_at, setR_twice, setL_at, setL_twice, setR_2, setL_1, setR_ne, setL_ne, ne_eq, Nat.reduceEqDiff, not_false_eq_true, pk_us, pk_un, setL_010, Option.toList_some, Option.toList_none, List.cons_append, List.nil_append]; done) | rfl) rfl (by first | with_reducible rfl | (simp (disch := omega) only [setR_at, setR_twice, setL_at, setL_twice, setR_2, setL_1, setR_ne, setL_ne, ne_eq, Nat.reduceEqDiff, not_false_eq_true, pk_us, pk_un]; done) | (simp (disch := omega) only [setR_at, setR_twice, setL_at, setL_twice, setR_2, setL_1, setR_ne, setL_ne, ne_eq, Nat.reduceEqDiff, not_false_eq_true, pk_us, pk_un, Option.toList_some, Option.toList_none, List.cons_append, List.nil_append]; done) | ((try simp (disch := omega) only [setR_at, setR_twice, setL_at, setL_twice, setR_2, setL_1, setR_ne, setL_ne, ne_eq, Nat.reduceEqDiff, not_false_eq_true, pk_us, pk_un]); refine Prod.ext (funext fun z => ?_) rfl; simp only [setR]; (repeat' split) <;> first | with_reducible rfl | (exfalso; omega)) | (simp (disch := omega) only [setR_at, setR_twice, setL_at, setL_twice, setR_2, setL_1, setR_ne, setL_ne, ne_eq, Nat.reduceEqDiff, not_false_eq_true, pk_us, pk_un, setL_010, Option.toList_some, Option.toList_none, List.cons_append, List.nil_append]; done) | rfl) ?_
      refine aw_iincN (pc := 96) C 0 s [(8, .int (nI (s + 1))), (7, .int (nI (y + m))), (6, .ref (29 + 16 * j + 2 * r)), (0, .ref 6), (1, .ref (25 + 16 * j)), (2, .int (nI r)), (3, .int (nI y)), (4, .int (nI q)), (5, .int (nI k))] dX0_ofDrops_96 rfl rfl rfl (Nat.le_of_ble_eq_true rfl) rfl ?_
      refine aw_goto (pc := 99) C 61 dX0_ofDrops_99 (by decide) ?_
      refine aw_lvs C [0, 1, 2, 3, 4, 5, 6, 7, 8] [(8, .int (nI (s + 1))), (7, .int (nI (y + m))), (6, .ref (29 + 16 * j + 2 * r)), (0, .ref 6), (1, .ref (25 + 16 * j)), (2, .int (nI r)), (3, .int (nI y)), (4, .int (nI q)), (5, .int (nI k))] rfl ?_
      exact aw_conv (σ' := setL (setL σ 0 (sp4 (filL P 0 44) (cpyL P A 0 0 44) (fun s => oddsA (σ.1 j) r (y + m) (shk (0 < s))) (m + 1) (s + 1))) 1 (cpyL P A 0 0 44)) (lv' := [(8, .int (nI (s + 1))), (7, .int (nI (y + m))), (6, .ref (29 + 16 * j + 2 * r)), (0, .ref 6), (1, .ref (25 + 16 * j)), (2, .int (nI r)), (3, .int (nI y)), (4, .int (nI q)), (5, .int (nI k))]) rfl rfl rfl ih61
