/-! the JDK: Math, Arrays, Integer, String -/
theorem c_J6_bitCount (σ : St) (x : Int32) : AMet Y_J6_bitCount_0f7a4 [.int x] σ (fz (some (.int (bcS x))) (σ)) := by
  refine am_intro (by decide +kernel) (Nat.le_of_ble_eq_true rfl) (fun K C => ?_)
  refine aw_iload_n (pc := 0) C 0 dJ6_bitCount_0f7a4_0 rfl ?_
  refine aw_iload_n (pc := 1) C 0 dJ6_bitCount_0f7a4_1 rfl ?_
  refine aw_iconst (pc := 2) (v := 1) C dJ6_bitCount_0f7a4_2 rfl ?_
  refine aw_iushr (pc := 3) C dJ6_bitCount_0f7a4_3 ?_
  refine aw_ldcw (pc := 4) C dJ6_bitCount_0f7a4_4 kc_J6_265 ?_
  refine aw_iand (pc := 7) C dJ6_bitCount_0f7a4_7 ?_
  refine aw_isub (pc := 8) C dJ6_bitCount_0f7a4_8 ?_
  refine aw_top C (bc1 x) (rfl) ?_
  refine aw_istore_n (pc := 9) C [(0, .int (bc1 x))] dJ6_bitCount_0f7a4_9 (Nat.le_of_ble_eq_true rfl) rfl ?_
  refine aw_iload_n (pc := 10) C 0 dJ6_bitCount_0f7a4_10 rfl ?_
  refine aw_ldcw (pc := 11) C dJ6_bitCount_0f7a4_11 kc_J6_266 ?_
  refine aw_iand (pc := 14) C dJ6_bitCount_0f7a4_14 ?_
  refine aw_iload_n (pc := 15) C 0 dJ6_bitCount_0f7a4_15 rfl ?_
  refine aw_iconst (pc := 16) (v := 2) C dJ6_bitCount_0f7a4_16 rfl ?_
  refine aw_iushr (pc := 17) C dJ6_bitCount_0f7a4_17 ?_
  refine aw_ldcw (pc := 18) C dJ6_bitCount_0f7a4_18 kc_J6_266 ?_
  refine aw_iand (pc := 21) C dJ6_bitCount_0f7a4_21 ?_
  refine aw_iadd (pc := 22) C dJ6_bitCount_0f7a4_22 ?_
  refine aw_top C (bc2 (bc1 x)) (rfl) ?_
  refine aw_istore_n (pc := 23) C [(0, .int (bc2 (bc1 x)))] dJ6_bitCount_0f7a4_23 (Nat.le_of_ble_eq_true rfl) rfl ?_
  refine aw_iload_n (pc := 24) C 0 dJ6_bitCount_0f7a4_24 rfl ?_
  refine aw_iload_n (pc := 25) C 0 dJ6_bitCount_0f7a4_25 rfl ?_
  refine aw_iconst (pc := 26) (v := 4) C dJ6_bitCount_0f7a4_26 rfl ?_
  refine aw_iushr (pc := 27) C dJ6_bitCount_0f7a4_27 ?_
  refine aw_iadd (pc := 28) C dJ6_bitCount_0f7a4_28 ?_
  refine aw_ldcw (pc := 29) C dJ6_bitCount_0f7a4_29 kc_J6_267 ?_
  refine aw_iand (pc := 32) C dJ6_bitCount_0f7a4_32 ?_
  refine aw_top C (bc3 (bc2 (bc1 x))) (rfl) ?_
  refine aw_istore_n (pc := 33) C [(0, .int (bc3 (bc2 (bc1 x))))] dJ6_bitCount_0f7a4_33 (Nat.le_of_ble_eq_true rfl) rfl ?_
  refine aw_iload_n (pc := 34) C 0 dJ6_bitCount_0f7a4_34 rfl ?_
  refine aw_iload_n (pc := 35) C 0 dJ6_bitCount_0f7a4_35 rfl ?_
  refine aw_bipush (pc := 36) (v := 8) C dJ6_bitCount_0f7a4_36 rfl ?_
  refine aw_iushr (pc := 38) C dJ6_bitCount_0f7a4_38 ?_
  refine aw_iadd (pc := 39) C dJ6_bitCount_0f7a4_39 ?_
  refine aw_top C (bc4 (bc3 (bc2 (bc1 x)))) (rfl) ?_
  refine aw_istore_n (pc := 40) C [(0, .int (bc4 (bc3 (bc2 (bc1 x)))))] dJ6_bitCount_0f7a4_40 (Nat.le_of_ble_eq_true rfl) rfl ?_
  refine aw_iload_n (pc := 41) C 0 dJ6_bitCount_0f7a4_41 rfl ?_
  refine aw_iload_n (pc := 42) C 0 dJ6_bitCount_0f7a4_42 rfl ?_
  refine aw_bipush (pc := 43) (v := 16) C dJ6_bitCount_0f7a4_43 rfl ?_
  refine aw_iushr (pc := 45) C dJ6_bitCount_0f7a4_45 ?_
  refine aw_iadd (pc := 46) C dJ6_bitCount_0f7a4_46 ?_
  refine aw_top C (bc5 (bc4 (bc3 (bc2 (bc1 x))))) (rfl) ?_
  refine aw_istore_n (pc := 47) C [(0, .int (bc5 (bc4 (bc3 (bc2 (bc1 x))))))] dJ6_bitCount_0f7a4_47 (Nat.le_of_ble_eq_true rfl) rfl ?_
  refine aw_iload_n (pc := 48) C 0 dJ6_bitCount_0f7a4_48 rfl ?_
  refine aw_bipush (pc := 49) (v := 63) C dJ6_bitCount_0f7a4_49 rfl ?_
  refine aw_iand (pc := 51) C dJ6_bitCount_0f7a4_51 ?_
  exact aw_iret (pc := 52) C rfl dJ6_bitCount_0f7a4_52 rfl rfl
theorem c_J7_fill (σ : St) (c r o n : Nat) (hc : SH[c]? = some (.inr (.inl (r, o, n)))) (v : Int32) (hn : n < 1000) : AMet Y_J7_fill_53178 [.ref c, .int v] σ (fz none (setR σ r (filK (σ.1 r) o v n))) := by
  refine am_intro (by decide +kernel) (Nat.le_of_ble_eq_true rfl) (fun K C => ?_)
  refine aw_iconst (pc := 0) (v := 0) C dJ7_fill_53178_0 rfl ?_
  refine aw_istore_n (pc := 1) C [(2, .int 0), (0, .ref c), (1, .int v)] dJ7_fill_53178_1 (Nat.le_of_ble_eq_true rfl) rfl ?_
  refine aw_aload_n (pc := 2) C 1 dJ7_fill_53178_2 rfl ?_
  refine aw_alenI (pc := 3) C hc dJ7_fill_53178_3 ?_
  refine aw_istore_n (pc := 4) C [(3, .int (nI n)), (2, .int 0), (0, .ref c), (1, .int v)] dJ7_fill_53178_4 (Nat.le_of_ble_eq_true rfl) rfl ?_
  refine aw_lvs C [1, 0, 2, 3] [(2, .int 0), (3, .int (nI n)), (0, .ref c), (1, .int v)] rfl ?_
  refine aw_conv (σ' := setR σ r (filK (σ.1 r) o v 0)) (lv' := [(2, .int (nI 0)), (3, .int (nI n)), (0, .ref c), (1, .int v)]) (by rw [filK_0, setR_same]) rfl rfl ?_
  refine loop_up (P := fun k => AW _ K _ (setR σ r (filK (σ.1 r) o v k)) 5 [(2, .int (nI k)), (3, .int (nI n)), (0, .ref c), (1, .int v)] []) n ?_ ?_ 0 (by omega) 
  · refine aw_iload_n (pc := 5) C 0 dJ7_fill_53178_5 rfl ?_
    refine aw_iload_n (pc := 6) C 1 dJ7_fill_53178_6 rfl ?_
    refine aw_icmp_geN (pc := 7) C n n 20 rfl rfl (by omega) (by omega) dJ7_fill_53178_7 (by decide) (fun h7 => ?_) (fun h7 => absurd h7 (by omega))
    exact aw_vret (pc := 20) C rfl dJ7_fill_53178_20 rfl
  · intro k hk5 ih5 
    refine aw_iload_n (pc := 5) C 0 dJ7_fill_53178_5 rfl ?_
    refine aw_iload_n (pc := 6) C 1 dJ7_fill_53178_6 rfl ?_
    refine aw_icmp_geN (pc := 7) C k n 20 rfl rfl (by omega) (by omega) dJ7_fill_53178_7 (by decide) (fun h7 => absurd h7 (by omega)) (fun h7 => ?_)
    refine aw_aload_n (pc := 10) C 2 dJ7_fill_53178_10 rfl ?_
    refine aw_iload_n (pc := 11) C 0 dJ7_fill_53178_11 rfl ?_
    refine aw_iload_n (pc := 12) C 3 dJ7_fill_53178_12 rfl ?_
    refine aw_ist (pc := 13) (k := k) C (o + k) (setR σ r (upd (filK (σ.1 r) o v k) (o + k) (v))) hc dJ7_fill_53178_13 rfl (by omega) (by omega) (by first | rfl | (simp (disch := omega) only [setR_at, setR_twice, setL_at, setL_twice, setR_2, setL_1, setR_ne, setL_ne, ne_eq, Nat.reduceEqDiff, not_false_eq_true, pk_us, pk_un]; done) | ((try simp (disch := omega) only [setR_at, setR_twice, setL_at, setL_twice, setR_2, setL_1, setR_ne, setL_ne, ne_eq, Nat.reduceEqDiff, not_false_eq_true, pk_us, pk_un]); refine Prod.ext (funext fun z => ?_) rfl; simp only [setR]; (repeat' split) <;> first | rfl | (exfalso; omega))) ?_
    refine aw_iincN (pc := 14) C 0 k [(2, .int (nI (k + 1))), (3, .int (nI n)), (0, .ref c), (1, .int v)] dJ7_fill_53178_14 rfl rfl rfl (Nat.le_of_ble_eq_true rfl) rfl ?_
    refine aw_goto (pc := 17) C 5 dJ7_fill_53178_17 (by decide) ?_
    refine aw_lvs C [0, 1, 2, 3] [(2, .int (nI (k + 1))), (3, .int (nI n)), (0, .ref c), (1, .int v)] rfl ?_
    exact aw_conv (σ' := setR σ r (filK (σ.1 r) o v (k + 1))) (lv' := [(2, .int (nI (k + 1))), (3, .int (nI n)), (0, .ref c), (1, .int v)]) (by rw [filK_s]) rfl rfl ih5
theorem c_J7_fillL (σ : St) (c r n : Nat) (hc : SH[c]? = some (.inr (.inr (.inl (r, n))))) (v : Int64) (hn : n < 1000) : AMet Y_J7_fill_d0a16 [.ref c, .long (v)] σ (fz none (setL σ r (filL (σ.2 r) v n))) := by
  refine am_intro (by decide +kernel) (Nat.le_of_ble_eq_true rfl) (fun K C => ?_)
  refine aw_iconst (pc := 0) (v := 0) C dJ7_fill_d0a16_0 rfl ?_
  refine aw_istore_n (pc := 1) C [(3, .int 0), (0, .ref c), (1, .long (v))] dJ7_fill_d0a16_1 (Nat.le_of_ble_eq_true rfl) rfl ?_
  refine aw_aload_n (pc := 2) C 1 dJ7_fill_d0a16_2 rfl ?_
  refine aw_alenL (pc := 3) C hc dJ7_fill_d0a16_3 ?_
  refine aw_istore (pc := 4) C [(4, .int (nI n)), (3, .int 0), (0, .ref c), (1, .long (v))] dJ7_fill_d0a16_4 (Nat.le_of_ble_eq_true rfl) rfl ?_
  refine aw_lvs C [1, 0, 2, 3] [(3, .int 0), (4, .int (nI n)), (0, .ref c), (1, .long (v))] rfl ?_
  refine aw_conv (σ' := setL σ r (filL (σ.2 r) v 0)) (lv' := [(3, .int (nI 0)), (4, .int (nI n)), (0, .ref c), (1, .long (v))]) (by rw [filL_0, setL_same]) rfl rfl ?_
  refine loop_up (P := fun k => AW _ K _ (setL σ r (filL (σ.2 r) v k)) 6 [(3, .int (nI k)), (4, .int (nI n)), (0, .ref c), (1, .long (v))] []) n ?_ ?_ 0 (by omega) 
  · refine aw_iload_n (pc := 6) C 0 dJ7_fill_d0a16_6 rfl ?_
    refine aw_iload (pc := 7) C 1 dJ7_fill_d0a16_7 rfl ?_
    refine aw_icmp_geN (pc := 9) C n n 22 rfl rfl (by omega) (by omega) dJ7_fill_d0a16_9 (by decide) (fun h9 => ?_) (fun h9 => absurd h9 (by omega))
    exact aw_vret (pc := 22) C rfl dJ7_fill_d0a16_22 rfl
  · intro k hk6 ih6 
    refine aw_iload_n (pc := 6) C 0 dJ7_fill_d0a16_6 rfl ?_
    refine aw_iload (pc := 7) C 1 dJ7_fill_d0a16_7 rfl ?_
    refine aw_icmp_geN (pc := 9) C k n 22 rfl rfl (by omega) (by omega) dJ7_fill_d0a16_9 (by decide) (fun h9 => absurd h9 (by omega)) (fun h9 => ?_)
    refine aw_aload_n (pc := 12) C 2 dJ7_fill_d0a16_12 rfl ?_
    refine aw_iload_n (pc := 13) C 0 dJ7_fill_d0a16_13 rfl ?_
    refine aw_lload_n (pc := 14) C 3 dJ7_fill_d0a16_14 rfl ?_
    refine aw_lst (pc := 15) (k := k) C (setL σ r (vp_updL (filL (σ.2 r) v k) k (v))) hc dJ7_fill_d0a16_15 rfl (by omega) (by first | rfl | (simp (disch := omega) only [setR_at, setR_twice, setL_at, setL_twice, setR_2, setL_1, setR_ne, setL_ne, ne_eq, Nat.reduceEqDiff, not_false_eq_true, pk_us, pk_un]; done) | ((try simp (disch := omega) only [setR_at, setR_twice, setL_at, setL_twice, setR_2, setL_1, setR_ne, setL_ne, ne_eq, Nat.reduceEqDiff, not_false_eq_true, pk_us, pk_un]); refine Prod.ext (funext fun z => ?_) rfl; simp only [setR]; (repeat' split) <;> first | rfl | (exfalso; omega))) ?_
    refine aw_iincN (pc := 16) C 0 k [(3, .int (nI (k + 1))), (4, .int (nI n)), (0, .ref c), (1, .long (v))] dJ7_fill_d0a16_16 rfl rfl rfl (Nat.le_of_ble_eq_true rfl) rfl ?_
    refine aw_goto (pc := 19) C 6 dJ7_fill_d0a16_19 (by decide) ?_
    refine aw_lvs C [0, 1, 2, 3] [(3, .int (nI (k + 1))), (4, .int (nI n)), (0, .ref c), (1, .long (v))] rfl ?_
    exact aw_conv (σ' := setL σ r (filL (σ.2 r) v (k + 1))) (lv' := [(3, .int (nI (k + 1))), (4, .int (nI n)), (0, .ref c), (1, .long (v))]) (by rw [filL_s]) rfl rfl ih6
theorem c_J0_coder (σ : St) (i : Nat) (q : String × Nat × Nat) (hq : STR[i]? = some q) : AMet Y_J0_coder_7d493 [.ref (200 + i)] σ (fz (some (.int 0)) (σ)) := by
  refine am_intro (by decide +kernel) (Nat.le_of_ble_eq_true rfl) (fun K C => ?_)
  refine aw_comp (pc := 0) C rfl dJ0_coder_7d493_0 ?_
  refine aw_if_eq (pc := 3) C 13 dJ0_coder_7d493_3 (by decide) (fun h3 => absurd h3 (by decide)) (fun h3 => ?_)
  refine aw_aload_n (pc := 6) C 0 dJ0_coder_7d493_6 rfl ?_
  refine aw_strC (pc := 7) C rfl hq dJ0_coder_7d493_7 ?_
  refine aw_goto (pc := 10) C 14 dJ0_coder_7d493_10 (by decide) ?_
  exact aw_zret (pc := 14) C rfl rfl dJ0_coder_7d493_14 rfl rfl
theorem c_J0_isLatin1 (σ : St) (i : Nat) (q : String × Nat × Nat) (hq : STR[i]? = some q) : AMet Y_J0_isLatin1_aae02 [.ref (200 + i)] σ (fz (some (.int 1)) (σ)) := by
  refine am_intro (by decide +kernel) (Nat.le_of_ble_eq_true rfl) (fun K C => ?_)
  refine aw_comp (pc := 0) C rfl dJ0_isLatin1_aae02_0 ?_
  refine aw_if_eq (pc := 3) C 17 dJ0_isLatin1_aae02_3 (by decide) (fun h3 => absurd h3 (by decide)) (fun h3 => ?_)
  refine aw_aload_n (pc := 6) C 0 dJ0_isLatin1_aae02_6 rfl ?_
  refine aw_strC (pc := 7) C rfl hq dJ0_isLatin1_aae02_7 ?_
  refine aw_if_ne (pc := 10) C 17 dJ0_isLatin1_aae02_10 (by decide) (fun h10 => absurd h10 (by decide)) (fun h10 => ?_)
  refine aw_iconst (pc := 13) (v := 1) C dJ0_isLatin1_aae02_13 rfl ?_
  refine aw_goto (pc := 14) C 18 dJ0_isLatin1_aae02_14 (by decide) ?_
  exact aw_zret (pc := 18) C rfl rfl dJ0_isLatin1_aae02_18 rfl rfl
theorem c_J0_length (σ : St) (i : Nat) (q : String × Nat × Nat) (hq : STR[i]? = some q) : AMet Y_J0_length_8abf5 [.ref (200 + i)] σ (fz (some (.int (nI (wordB q.2.2).length))) (σ)) := by
  refine am_intro (by decide +kernel) (Nat.le_of_ble_eq_true rfl) (fun K C => ?_)
  refine aw_aload_n (pc := 0) C 0 dJ0_length_8abf5_0 rfl ?_
  refine aw_strV (pc := 1) C rfl hq dJ0_length_8abf5_1 ?_
  refine aw_alenB (pc := 4) C hq dJ0_length_8abf5_4 ?_
  refine aw_aload_n (pc := 5) C 0 dJ0_length_8abf5_5 rfl ?_
  refine aw_cWI (pc := 6) C (c_J0_coder _ i q hq ) lk_J0_335 hq rfl dJ0_length_8abf5_6 (by decide) (Nat.le_of_ble_eq_true rfl) rfl rfl ?_
  refine aw_ishr (pc := 9) C dJ0_length_8abf5_9 ?_
  refine aw_top C (nI ((wordB q.2.2).length)) (shr0 _) ?_
  exact aw_iret (pc := 10) C rfl dJ0_length_8abf5_10 rfl rfl
theorem c_J3_n (σ : St) (i n : Nat) (h : i < n) (hn : n < 100) : AMet Y_J3_checkIndex_8e157 [.int (nI i), .int (nI n), .null] σ (fz (some (.int (nI i))) (σ)) := by
  refine am_intro (by decide +kernel) (Nat.le_of_ble_eq_true rfl) (fun K C => ?_)
  refine aw_iload_n (pc := 0) C 0 dJ3_checkIndex_8e157_0 rfl ?_
  refine aw_if_lt (pc := 1) C 9 dJ3_checkIndex_8e157_1 (by decide) (fun h1 => absurd h1 (nI_pos (by omega))) (fun h1 => ?_)
  refine aw_iload_n (pc := 4) C 0 dJ3_checkIndex_8e157_4 rfl ?_
  refine aw_iload_n (pc := 5) C 1 dJ3_checkIndex_8e157_5 rfl ?_
  refine aw_icmp_ltN (pc := 6) C i n 16 rfl rfl (by omega) (by omega) dJ3_checkIndex_8e157_6 (by decide) (fun h6 => ?_) (fun h6 => absurd h6 (by omega))
  refine aw_iload_n (pc := 16) C 0 dJ3_checkIndex_8e157_16 rfl ?_
  exact aw_iret (pc := 17) C rfl dJ3_checkIndex_8e157_17 rfl rfl
theorem c_J3_r (σ : St) (i n : Nat) (h : i < n) (hn : n < 100) : AMet Y_J3_checkIndex_8e157 [.int (nI i), .int (nI n), .ref 400] σ (fz (some (.int (nI i))) (σ)) := by
  refine am_intro (by decide +kernel) (Nat.le_of_ble_eq_true rfl) (fun K C => ?_)
  refine aw_iload_n (pc := 0) C 0 dJ3_checkIndex_8e157_0 rfl ?_
  refine aw_if_lt (pc := 1) C 9 dJ3_checkIndex_8e157_1 (by decide) (fun h1 => absurd h1 (nI_pos (by omega))) (fun h1 => ?_)
  refine aw_iload_n (pc := 4) C 0 dJ3_checkIndex_8e157_4 rfl ?_
  refine aw_iload_n (pc := 5) C 1 dJ3_checkIndex_8e157_5 rfl ?_
  refine aw_icmp_ltN (pc := 6) C i n 16 rfl rfl (by omega) (by omega) dJ3_checkIndex_8e157_6 (by decide) (fun h6 => ?_) (fun h6 => absurd h6 (by omega))
  refine aw_iload_n (pc := 16) C 0 dJ3_checkIndex_8e157_16 rfl ?_
  exact aw_iret (pc := 17) C rfl dJ3_checkIndex_8e157_17 rfl rfl
theorem c_J0_checkIndex (σ : St) (i n : Nat) (h : i < n) (hn : n < 100) : AMet Y_J0_checkIndex_df160 [.int (nI i), .int (nI n)] σ (fz none (σ)) := by
  refine am_intro (by decide +kernel) (Nat.le_of_ble_eq_true rfl) (fun K C => ?_)
  refine aw_iload_n (pc := 0) C 0 dJ0_checkIndex_df160_0 rfl ?_
  refine aw_iload_n (pc := 1) C 1 dJ0_checkIndex_df160_1 rfl ?_
  refine aw_fmt (pc := 2) C rfl dJ0_checkIndex_df160_2 ?_ ?_
  · refine aw_cSI (pc := 5) C (c_J3_n _ i n (by omega) (by omega)) lk_J0_1059 dJ0_checkIndex_df160_5 (by decide) (Nat.le_of_ble_eq_true rfl) rfl rfl ?_
    refine aw_pop (pc := 8) C dJ0_checkIndex_df160_8 rfl ?_
    exact aw_vret (pc := 9) C rfl dJ0_checkIndex_df160_9 rfl
  · refine aw_cSI (pc := 5) C (c_J3_r _ i n (by omega) (by omega)) lk_J0_1059 dJ0_checkIndex_df160_5 (by decide) (Nat.le_of_ble_eq_true rfl) rfl rfl ?_
    refine aw_pop (pc := 8) C dJ0_checkIndex_df160_8 rfl ?_
    exact aw_vret (pc := 9) C rfl dJ0_checkIndex_df160_9 rfl
theorem c_J1_charAt (σ : St) (i : Nat) (q : String × Nat × Nat) (hq : STR[i]? = some q) (k : Nat) (hk : k < (wordB q.2.2).length) : AMet Y_J1_charAt_3b067 [.ref (300 + i), .int (nI k)] σ (fz (some (.int ((wordB q.2.2).getD k 0))) (σ)) := by
  refine am_intro (by decide +kernel) (Nat.le_of_ble_eq_true rfl) (fun K C => ?_)
  refine aw_iload_n (pc := 0) C 1 dJ1_charAt_3b067_0 rfl ?_
  refine aw_aload_n (pc := 1) C 0 dJ1_charAt_3b067_1 rfl ?_
  refine aw_alenB (pc := 2) C hq dJ1_charAt_3b067_2 ?_
  refine aw_cS0 (pc := 3) C (c_J0_checkIndex _ k ((wordB q.2.2).length) hk (word_len hq)) lk_J1_9 dJ1_charAt_3b067_3 (by decide) (Nat.le_of_ble_eq_true rfl) rfl rfl ?_
  refine aw_aload_n (pc := 6) C 0 dJ1_charAt_3b067_6 rfl ?_
  refine aw_iload_n (pc := 7) C 1 dJ1_charAt_3b067_7 rfl ?_
  refine aw_baldB (pc := 8) (k := k) C hq dJ1_charAt_3b067_8 rfl hk ?_
  refine aw_sipush (pc := 9) (v := 255) C dJ1_charAt_3b067_9 rfl ?_
  refine aw_iand (pc := 12) C dJ1_charAt_3b067_12 ?_
  refine aw_i2c (pc := 13) C dJ1_charAt_3b067_13 ?_
  refine aw_top C ((wordB q.2.2).getD k 0) ((chr_ok hq hk).1) ?_
  exact aw_zret (pc := 14) C rfl (chr_ok hq hk).2 dJ1_charAt_3b067_14 rfl rfl
theorem c_J0_charAt (σ : St) (i : Nat) (q : String × Nat × Nat) (hq : STR[i]? = some q) (k : Nat) (hk : k < (wordB q.2.2).length) : AMet Y_J0_charAt_5068e [.ref (200 + i), .int (nI k)] σ (fz (some (.int ((wordB q.2.2).getD k 0))) (σ)) := by
  refine am_intro (by decide +kernel) (Nat.le_of_ble_eq_true rfl) (fun K C => ?_)
  refine aw_aload_n (pc := 0) C 0 dJ0_charAt_5068e_0 rfl ?_
  refine aw_cWI (pc := 1) C (c_J0_isLatin1 _ i q hq ) lk_J0_492 hq rfl dJ0_charAt_5068e_1 (by decide) (Nat.le_of_ble_eq_true rfl) rfl rfl ?_
  refine aw_if_eq (pc := 4) C 16 dJ0_charAt_5068e_4 (by decide) (fun h4 => absurd h4 (by decide)) (fun h4 => ?_)
  refine aw_aload_n (pc := 7) C 0 dJ0_charAt_5068e_7 rfl ?_
  refine aw_strV (pc := 8) C rfl hq dJ0_charAt_5068e_8 ?_
  refine aw_iload_n (pc := 11) C 1 dJ0_charAt_5068e_11 rfl ?_
  refine aw_cSI (pc := 12) C (c_J1_charAt _ i q hq k hk) lk_J0_495 dJ0_charAt_5068e_12 (by decide) (Nat.le_of_ble_eq_true rfl) rfl rfl ?_
  exact aw_zret (pc := 15) C rfl (chr_ok hq hk).2 dJ0_charAt_5068e_15 rfl rfl
