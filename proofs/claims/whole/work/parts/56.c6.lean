/-! the class: means -/
theorem c_X1_through (σ : St) (j : Nat) (hj : j < 3) (i : Nat) (hi : i < 6) (k : Nat) (hk : σ.1 j (33 + 37 * i + 0) = nI k) (hk7 : k < 7) (y s p : Nat) (g : Nat) (hg : σ.1 j (3 + y) = nI g) (hg5 : g < 5) (hy3 : y < 30) (hs : s < 4) (hp1 : 1 ≤ p) (hp9 : p ≤ 9) : AMet Y_X1_through [.ref 2, .ref (25 + 16 * j), .ref (29 + 16 * j + 2 * i), .int (nI y), .int (nI s), .int (nI p)] σ (fz (some (.int (behS (σ.1 5) (σ.1 j) i y s (nI p)))) (σ)) := by
  refine am_intro (by decide +kernel) (Nat.le_of_ble_eq_true rfl) (fun K C => ?_)
  refine aw_aload_n (pc := 0) C 1 dX1_through_0 rfl ?_
  refine aw_aload_n (pc := 1) C 2 dX1_through_1 rfl ?_
  refine aw_iload_n (pc := 2) C 3 dX1_through_2 rfl ?_
  refine aw_iload (pc := 3) C 5 dX1_through_3 rfl ?_
  refine aw_iload (pc := 5) C 4 dX1_through_5 rfl ?_
  refine aw_iconst (pc := 7) (v := 0) C dX1_through_7 rfl ?_
  refine aw_cVI (pc := 8) C (c_X2_oddsOf _  j hj i hi k hk hk7 y p (nI (s)) 0 g hg (by omega) (by omega) (by omega) (by omega)) lk_X1_50 (shM hj) rfl dX1_through_8 (by decide) (Nat.le_of_ble_eq_true rfl) rfl rfl ?_
  refine aw_top C (oddsM (σ.1 j) i y (nI p) (shk (0 < s)) 0) (by rw [shkN (by omega)]) ?_
  refine aw_istore (pc := 11) C [(6, .int (oddsM (σ.1 j) i y (nI p) (shk (0 < s)) 0)), (0, .ref 2), (1, .ref (25 + 16 * j)), (2, .ref (29 + 16 * j + 2 * i)), (3, .int (nI y)), (4, .int (nI s)), (5, .int (nI p))] dX1_through_11 (Nat.le_of_ble_eq_true rfl) rfl ?_
  refine aw_aload_n (pc := 13) C 1 dX1_through_13 rfl ?_
  refine aw_getR (pc := 14) C fl_X1_9 sh2 rfl dX1_through_14 ?_
  refine aw_iconst (pc := 17) (v := 0) C dX1_through_17 rfl ?_
  refine aw_iload (pc := 18) C 5 dX1_through_18 rfl ?_
  refine aw_iconst (pc := 20) (v := 1) C dX1_through_20 rfl ?_
  refine aw_isub (pc := 21) C dX1_through_21 ?_
  refine aw_mmax (pc := 22) C lk_X1_54 (by decide) (Nat.le_of_ble_eq_true rfl) dX1_through_22 ?_
  refine aw_top C (nI (s - 1)) (mxsub hs) ?_
  refine aw_ild (pc := 25) (k := s - 1) C (s - 1) (σ.1 5 (s - 1)) sh3 dX1_through_25 rfl (by omega) rfl rfl ?_
  refine aw_istore (pc := 26) C [(7, .int (σ.1 5 (s - 1))), (6, .int (oddsM (σ.1 j) i y (nI p) (shk (0 < s)) 0)), (0, .ref 2), (1, .ref (25 + 16 * j)), (2, .ref (29 + 16 * j + 2 * i)), (3, .int (nI y)), (4, .int (nI s)), (5, .int (nI p))] dX1_through_26 (Nat.le_of_ble_eq_true rfl) rfl ?_
  refine aw_sipush (pc := 28) (v := 1000) C dX1_through_28 rfl ?_
  refine aw_aload_n (pc := 31) C 3 dX1_through_31 rfl ?_
  refine aw_gld (pc := 32) C (σ.1 j 0) fl_X1_60 (shM hj) rfl dX1_through_32 rfl ?_
  refine aw_imul (pc := 35) C dX1_through_35 ?_
  refine aw_aload_n (pc := 36) C 2 dX1_through_36 rfl ?_
  refine aw_getR (pc := 37) C fl_X1_9 sh2 rfl dX1_through_37 ?_
  refine aw_iconst (pc := 40) (v := 3) C dX1_through_40 rfl ?_
  refine aw_ild (pc := 41) (k := 3) C (3) (σ.1 5 3) sh3 dX1_through_41 rfl (by omega) rfl rfl ?_
  refine aw_iadd (pc := 42) C dX1_through_42 ?_
  refine aw_istore (pc := 43) C [(8, .int ((1000 * (σ.1 j 0)) + (σ.1 5 3))), (7, .int (σ.1 5 (s - 1))), (6, .int (oddsM (σ.1 j) i y (nI p) (shk (0 < s)) 0)), (0, .ref 2), (1, .ref (25 + 16 * j)), (2, .ref (29 + 16 * j + 2 * i)), (3, .int (nI y)), (4, .int (nI s)), (5, .int (nI p))] dX1_through_43 (Nat.le_of_ble_eq_true rfl) rfl ?_
  refine aw_sipush (pc := 45) (v := 1000) C dX1_through_45 rfl ?_
  refine aw_aload_n (pc := 48) C 5 dX1_through_48 rfl ?_
  refine aw_iload (pc := 49) C 8 dX1_through_49 rfl ?_
  refine aw_cVI (pc := 51) C (c_X4_takes _ j hj i hi k hk hk7 (nI (p))) lk_X1_64 (shR hj hi) rfl dX1_through_51 (by decide) (Nat.le_of_ble_eq_true rfl) rfl rfl ?_
  refine aw_imul (pc := 54) C dX1_through_54 ?_
  refine aw_bipush (pc := 55) (v := 24) C dX1_through_55 rfl ?_
  refine aw_iload (pc := 57) C 2 dX1_through_57 rfl ?_
  refine aw_isub (pc := 59) C dX1_through_59 ?_
  refine aw_iload (pc := 60) C 1 dX1_through_60 rfl ?_
  refine aw_imul (pc := 62) C dX1_through_62 ?_
  refine aw_iload (pc := 63) C 2 dX1_through_63 rfl ?_
  refine aw_iload (pc := 65) C 0 dX1_through_65 rfl ?_
  refine aw_imul (pc := 67) C dX1_through_67 ?_
  refine aw_iadd (pc := 68) C dX1_through_68 ?_
  refine aw_bipush (pc := 69) (v := 24) C dX1_through_69 rfl ?_
  refine aw_idiv (pc := 71) C dX1_through_71 (by decide) ?_
  refine aw_iadd (pc := 72) C dX1_through_72 ?_
  exact aw_iret (pc := 73) C rfl dX1_through_73 rfl rfl
theorem c_X1_goBack (σ : St) : AMet Y_X1_goBack [.ref 2] σ (fz none (setR σ 5 (cpyR (σ.1 6) (σ.1 5) (0 + 0) (0 + 0) 4))) := by
  refine am_intro (by decide +kernel) (Nat.le_of_ble_eq_true rfl) (fun K C => ?_)
  refine aw_aload_n (pc := 0) C 0 dX1_goBack_0 rfl ?_
  refine aw_getR (pc := 1) C fl_X1_15 sh2 rfl dX1_goBack_1 ?_
  refine aw_iconst (pc := 4) (v := 0) C dX1_goBack_4 rfl ?_
  refine aw_aload_n (pc := 5) C 0 dX1_goBack_5 rfl ?_
  refine aw_getR (pc := 6) C fl_X1_9 sh2 rfl dX1_goBack_6 ?_
  refine aw_iconst (pc := 9) (v := 0) C dX1_goBack_9 rfl ?_
  refine aw_iconst (pc := 10) (v := 4) C dX1_goBack_10 rfl ?_
  refine aw_copyI (pc := 11) (sp := 0) (dp := 0) (n := 4) C sh4 sh3 ac_X1_68 (by decide) rfl rfl rfl (by omega) (by omega) (Nat.le_of_ble_eq_true rfl) dX1_goBack_11 ?_
  exact aw_vret (pc := 14) C rfl dX1_goBack_14 rfl
theorem c_X1_chosenPace (σ : St) (y s : Nat) (hy : y < 30) (hs : s < 4) : AMet Y_X1_chosenPace [.ref 2, .int (nI y), .int (nI s)] σ (fz (some (.int (σ.1 7 (y * 4 + s)))) (σ)) := by
  refine am_intro (by decide +kernel) (Nat.le_of_ble_eq_true rfl) (fun K C => ?_)
  refine aw_aload_n (pc := 0) C 0 dX1_chosenPace_0 rfl ?_
  refine aw_getR (pc := 1) C fl_X1_18 sh2 rfl dX1_chosenPace_1 ?_
  refine aw_iload_n (pc := 4) C 1 dX1_chosenPace_4 rfl ?_
  refine aw_iconst (pc := 5) (v := 4) C dX1_chosenPace_5 rfl ?_
  refine aw_imulN (pc := 6) C y 4 rfl rfl dX1_chosenPace_6 ?_
  refine aw_iload_n (pc := 7) C 2 dX1_chosenPace_7 rfl ?_
  refine aw_iaddN (pc := 8) C (y * 4) s rfl rfl dX1_chosenPace_8 ?_
  refine aw_ild (pc := 9) (k := (y * 4) + s) C ((y * 4) + s) (σ.1 7 ((y * 4) + s)) sh5 dX1_chosenPace_9 rfl (by omega) rfl rfl ?_
  exact aw_iret (pc := 10) C rfl dX1_chosenPace_10 rfl rfl
theorem c_X1_atPaces (σ : St) (j : Nat) (hj : j < 3) (n : Nat) (hok : Ok n (σ.1 j)) (r a e s : Nat) (hr : r < n) (hae : a ≤ e) (he : e ≤ 30) (hs : s < 4) : AMet Y_X1_atPaces [.ref 2, .ref (25 + 16 * j), .int (nI r), .int (nI a), .int (nI e), .int (nI s)] σ (ApO σ (mRow false (σ.1 j) r e a s)) := by
  refine am_intro (by decide +kernel) (Nat.le_of_ble_eq_true rfl) (fun K C => ?_)
  have hz := hok.1
  have hn := hok.2.1
  obtain ⟨k, hk7, hk⟩ := (hok.2.2.2.2.1 r hr).1
  obtain ⟨c, rfl⟩ : ∃ c, e = a + c := ⟨e - a, by omega⟩
  refine aw_aload_n (pc := 0) C 1 dX1_atPaces_0 rfl ?_
  refine aw_getR (pc := 1) C fl_X1_21 (shM hj) rfl dX1_atPaces_1 ?_
  refine aw_iload_n (pc := 4) C 2 dX1_atPaces_4 rfl ?_
  refine aw_aald (pc := 5) (k := r) C (shRs hj) dX1_atPaces_5 rfl (by omega) ?_
  refine aw_astore (pc := 6) C [(6, .ref (29 + 16 * j + 2 * r)), (0, .ref 2), (1, .ref (25 + 16 * j)), (2, .int (nI r)), (3, .int (nI a)), (4, .int (nI (a + c))), (5, .int (nI s))] dX1_atPaces_6 (Nat.le_of_ble_eq_true rfl) rfl ?_
  refine aw_aload_n (pc := 8) C 1 dX1_atPaces_8 rfl ?_
  refine aw_getR (pc := 9) C fl_X1_9 sh2 rfl dX1_atPaces_9 ?_
  refine aw_iconst (pc := 12) (v := 0) C dX1_atPaces_12 rfl ?_
  refine aw_cS0 (pc := 13) C (c_J7_fill _  (3) 5 (0) 4 sh3 0 (by omega)) lk_X1_27 dX1_atPaces_13 (by decide) (Nat.le_of_ble_eq_true rfl) rfl rfl ?_
  refine aw_iload (pc := 16) C 5 dX1_atPaces_16 rfl ?_
  refine aw_iconst (pc := 18) (v := 1) C dX1_atPaces_18 rfl ?_
  refine aw_isub (pc := 19) C dX1_atPaces_19 ?_
  refine aw_istore (pc := 20) C [(7, .int ((nI (a + c)) - 1)), (6, .ref (29 + 16 * j + 2 * r)), (0, .ref 2), (1, .ref (25 + 16 * j)), (2, .int (nI r)), (3, .int (nI a)), (4, .int (nI (a + c))), (5, .int (nI s))] dX1_atPaces_20 (Nat.le_of_ble_eq_true rfl) rfl ?_
  refine aw_lvs C [0, 1, 2, 3, 4, 5, 6, 7] [(7, .int ((nI (a + c)) - 1)), (6, .ref (29 + 16 * j + 2 * r)), (0, .ref 2), (1, .ref (25 + 16 * j)), (2, .int (nI r)), (3, .int (nI a)), (4, .int (nI (a + c))), (5, .int (nI s))] rfl ?_
  refine aw_conv (σ' := setR (setR σ 5 (filK (σ.1 5) 0 0 4)) 6 (σ.1 6)) (lv' := [(7, .int (dI (a + c))), (6, .ref (29 + 16 * j + 2 * r)), (0, .ref 2), (1, .ref (25 + 16 * j)), (2, .int (nI r)), (3, .int (nI a)), (4, .int (nI (a + c))), (5, .int (nI s))]) (setR_same (setR σ 5 (filK (σ.1 5) 0 0 4)) 6).symm (by rw [dI_sub]) rfl ?_
  refine loop_dn (P := fun t => t ≤ c → ∀ (f g : Fl) (hI : RInv false (σ.1 j) r (a + c) (a + t) f), AW _ K _ (setR (setR σ 5 (f)) 6 (g)) 22 [(7, .int (dI (a + t))), (6, .ref (29 + 16 * j + 2 * r)), (0, .ref 2), (1, .ref (25 + 16 * j)), (2, .int (nI r)), (3, .int (nI a)), (4, .int (nI (a + c))), (5, .int (nI s))] []) ?_ ?_ c (by omega) (filK (σ.1 5) 0 0 4) (σ.1 6) RInv.first
  · intro hk22 f g hI
    refine aw_iload (pc := 22) C 0 dX1_atPaces_22 rfl ?_
    refine aw_iload_n (pc := 24) C 5 dX1_atPaces_24 rfl ?_
    refine aw_icmp_lt (pc := 25) C 79 dX1_atPaces_25 (by decide) (fun h25 => ?_) (fun h25 => absurd h25 (fun z => z (dI_lt (by omega))))
    refine aw_aload_n (pc := 79) C 2 dX1_atPaces_79 rfl ?_
    refine aw_getR (pc := 80) C fl_X1_9 sh2 rfl dX1_atPaces_80 ?_
    refine aw_iload (pc := 83) C 7 dX1_atPaces_83 rfl ?_
    refine aw_ild (pc := 85) (k := s) C (s) (f s) sh3 dX1_atPaces_85 rfl (by omega) rfl (by first | with_reducible rfl | (simp (disch := omega) only [setR_at, setR_twice, setL_at, setL_twice, setR_2, setL_1, setR_ne, setL_ne, ne_eq, Nat.reduceEqDiff, not_false_eq_true, pk_us, pk_un]; done) | (simp (disch := omega) only [setR_at, setR_twice, setL_at, setL_twice, setR_2, setL_1, setR_ne, setL_ne, ne_eq, Nat.reduceEqDiff, not_false_eq_true, pk_us, pk_un, Option.toList_some, Option.toList_none, List.cons_append, List.nil_append]; done) | ((try simp (disch := omega) only [setR_at, setR_twice, setL_at, setL_twice, setR_2, setL_1, setR_ne, setL_ne, ne_eq, Nat.reduceEqDiff, not_false_eq_true, pk_us, pk_un]); refine Prod.ext (funext fun z => ?_) rfl; simp only [setR]; (repeat' split) <;> first | with_reducible rfl | (exfalso; omega)) | rfl) ?_
    refine aw_top C (mRow false (σ.1 j) r (a + c) a s) (hI s hs) ?_
    exact aw_iretP (pc := 86) C rfl dX1_atPaces_86 ⟨f, g, rfl, rfl⟩
  · intro t ih22 hk22 f g hI
    refine aw_iload (pc := 22) C 0 dX1_atPaces_22 rfl ?_
    refine aw_iload_n (pc := 24) C 5 dX1_atPaces_24 rfl ?_
    refine aw_icmp_ltN (pc := 25) C (a + t) a 79 rfl rfl (by omega) (by omega) dX1_atPaces_25 (by decide) (fun h25 => absurd h25 (by omega)) (fun h25 => ?_)
    obtain ⟨g0, hg5, hg⟩ := hok.2.2.2.1 (a + t) (by omega)
    obtain ⟨p, hp1, hp9, hp⟩ := (hok.2.2.2.2.1 r hr).2.2.2.2.2 (a + t) (by omega)
    refine aw_iconst (pc := 28) (v := 0) C dX1_atPaces_28 rfl ?_
    refine aw_istore (pc := 29) C [(8, .int 0), (7, .int (nI (a + t))), (6, .ref (29 + 16 * j + 2 * r)), (0, .ref 2), (1, .ref (25 + 16 * j)), (2, .int (nI r)), (3, .int (nI a)), (4, .int (nI (a + c))), (5, .int (nI s))] dX1_atPaces_29 (Nat.le_of_ble_eq_true rfl) rfl ?_
    refine aw_lvs C [0, 1, 2, 3, 4, 5, 6, 7, 8] [(8, .int 0), (7, .int (nI (a + t))), (6, .ref (29 + 16 * j + 2 * r)), (0, .ref 2), (1, .ref (25 + 16 * j)), (2, .int (nI r)), (3, .int (nI a)), (4, .int (nI (a + c))), (5, .int (nI s))] rfl ?_
    refine aw_conv (σ' := setR (setR σ 5 (f)) 6 (g)) (lv' := [(8, .int (nI 0)), (7, .int (nI (a + t))), (6, .ref (29 + 16 * j + 2 * r)), (0, .ref 2), (1, .ref (25 + 16 * j)), (2, .int (nI r)), (3, .int (nI a)), (4, .int (nI (a + c))), (5, .int (nI s))]) rfl rfl rfl ?_
    refine loop_up (P := fun q => ∀ (g : Fl) (hJ : HInv false (σ.1 j) r (a + c) (a + t) q g), AW _ K _ (setR (setR σ 5 (f)) 6 (g)) 31 [(8, .int (nI q)), (7, .int (nI (a + t))), (6, .ref (29 + 16 * j + 2 * r)), (0, .ref 2), (1, .ref (25 + 16 * j)), (2, .int (nI r)), (3, .int (nI a)), (4, .int (nI (a + c))), (5, .int (nI s))] []) 4 ?_ ?_ 0 (by omega) g (fun z hz => by omega)
    · intro g hJ
      refine aw_iload (pc := 31) C 0 dX1_atPaces_31 rfl ?_
      refine aw_iconst (pc := 33) (v := 3) C dX1_atPaces_33 rfl ?_
      refine aw_icmp_gtN (pc := 34) C 4 3 69 rfl rfl (by omega) (by omega) dX1_atPaces_34 (by decide) (fun h34 => ?_) (fun h34 => absurd h34 (by omega))
      refine aw_aload_n (pc := 69) C 3 dX1_atPaces_69 rfl ?_
      refine aw_cV0 (pc := 70) C (c_X1_goBack _  ) lk_X1_42 sh2 rfl dX1_atPaces_70 (by decide) (Nat.le_of_ble_eq_true rfl) rfl rfl ?_
      refine aw_conv (σ' := setR (setR σ 5 (cpyR (g) (f) (0 + 0) (0 + 0) 4)) 6 (g)) (st' := []) (by first | with_reducible rfl | (simp (disch := omega) only [setR_at, setR_twice, setL_at, setL_twice, setR_2, setL_1, setR_ne, setL_ne, ne_eq, Nat.reduceEqDiff, not_false_eq_true, pk_us, pk_un]; done) | (simp (disch := omega) only [setR_at, setR_twice, setL_at, setL_twice, setR_2, setL_1, setR_ne, setL_ne, ne_eq, Nat.reduceEqDiff, not_false_eq_true, pk_us, pk_un, Option.toList_some, Option.toList_none, List.cons_append, List.nil_append]; done) | ((try simp (disch := omega) only [setR_at, setR_twice, setL_at, setL_twice, setR_2, setL_1, setR_ne, setL_ne, ne_eq, Nat.reduceEqDiff, not_false_eq_true, pk_us, pk_un]); refine Prod.ext (funext fun z => ?_) rfl; simp only [setR]; (repeat' split) <;> first | with_reducible rfl | (exfalso; omega)) | rfl) rfl (by first | with_reducible rfl | (simp (disch := omega) only [setR_at, setR_twice, setL_at, setL_twice, setR_2, setL_1, setR_ne, setL_ne, ne_eq, Nat.reduceEqDiff, not_false_eq_true, pk_us, pk_un]; done) | (simp (disch := omega) only [setR_at, setR_twice, setL_at, setL_twice, setR_2, setL_1, setR_ne, setL_ne, ne_eq, Nat.reduceEqDiff, not_false_eq_true, pk_us, pk_un, Option.toList_some, Option.toList_none, List.cons_append, List.nil_append]; done) | ((try simp (disch := omega) only [setR_at, setR_twice, setL_at, setL_twice, setR_2, setL_1, setR_ne, setL_ne, ne_eq, Nat.reduceEqDiff, not_false_eq_true, pk_us, pk_un]); refine Prod.ext (funext fun z => ?_) rfl; simp only [setR]; (repeat' split) <;> first | with_reducible rfl | (exfalso; omega)) | rfl) ?_
      refine aw_iinc (pc := 73) C 1 ((nI (a + t)) + (-1)) [(7, .int ((nI (a + t)) + (-1))), (8, .int (nI 4)), (6, .ref (29 + 16 * j + 2 * r)), (0, .ref 2), (1, .ref (25 + 16 * j)), (2, .int (nI r)), (3, .int (nI a)), (4, .int (nI (a + c))), (5, .int (nI s))] dX1_atPaces_73 rfl rfl (Nat.le_of_ble_eq_true rfl) rfl ?_
      refine aw_goto (pc := 76) C 22 dX1_atPaces_76 (by decide) ?_
      refine aw_lvs C [0, 2, 3, 4, 5, 6, 7, 8] [(7, .int ((nI (a + t)) + (-1))), (6, .ref (29 + 16 * j + 2 * r)), (0, .ref 2), (1, .ref (25 + 16 * j)), (2, .int (nI r)), (3, .int (nI a)), (4, .int (nI (a + c))), (5, .int (nI s))] rfl ?_
      exact aw_conv (σ' := setR (setR σ 5 (cpyR (g) (f) (0 + 0) (0 + 0) 4)) 6 (g)) (lv' := [(7, .int (dI (a + t))), (6, .ref (29 + 16 * j + 2 * r)), (0, .ref 2), (1, .ref (25 + 16 * j)), (2, .int (nI r)), (3, .int (nI a)), (4, .int (nI (a + c))), (5, .int (nI s))]) rfl (by rw [dI_dec]) rfl (ih22 (by omega) _ _ (RInv.back hJ))
    · intro q hk31 ih31 g hJ
      refine aw_iload (pc := 31) C 0 dX1_atPaces_31 rfl ?_
      refine aw_iconst (pc := 33) (v := 3) C dX1_atPaces_33 rfl ?_
      refine aw_icmp_gtN (pc := 34) C q 3 69 rfl rfl (by omega) (by omega) dX1_atPaces_34 (by decide) (fun h34 => absurd h34 (by omega)) (fun h34 => ?_)
      refine aw_aload_n (pc := 37) C 3 dX1_atPaces_37 rfl ?_
      refine aw_getR (pc := 38) C fl_X1_15 sh2 rfl dX1_atPaces_38 ?_
      refine aw_iload (pc := 41) C 0 dX1_atPaces_41 rfl ?_
      refine aw_aload_n (pc := 43) C 3 dX1_atPaces_43 rfl ?_
      refine aw_aload_n (pc := 44) C 4 dX1_atPaces_44 rfl ?_
      refine aw_aload (pc := 45) C 2 dX1_atPaces_45 rfl ?_
      refine aw_iload (pc := 47) C 1 dX1_atPaces_47 rfl ?_
      refine aw_iload (pc := 49) C 0 dX1_atPaces_49 rfl ?_
      refine aw_aload (pc := 51) C 2 dX1_atPaces_51 rfl ?_
      refine aw_getR (pc := 53) C fl_X1_33 (shR hj (by omega)) rfl dX1_atPaces_53 ?_
      refine aw_iload (pc := 56) C 1 dX1_atPaces_56 rfl ?_
      refine aw_ild (pc := 58) (k := a + t) C (33 + 37 * r + (7 + (a + t))) (σ.1 j (33 + 37 * r + (7 + (a + t)))) (shP hj (by omega)) dX1_atPaces_58 rfl (by omega) (by omega) (by first | with_reducible rfl | (simp (disch := omega) only [setR_at, setR_twice, setL_at, setL_twice, setR_2, setL_1, setR_ne, setL_ne, ne_eq, Nat.reduceEqDiff, not_false_eq_true, pk_us, pk_un]; done) | (simp (disch := omega) only [setR_at, setR_twice, setL_at, setL_twice, setR_2, setL_1, setR_ne, setL_ne, ne_eq, Nat.reduceEqDiff, not_false_eq_true, pk_us, pk_un, Option.toList_some, Option.toList_none, List.cons_append, List.nil_append]; done) | ((try simp (disch := omega) only [setR_at, setR_twice, setL_at, setL_twice, setR_2, setL_1, setR_ne, setL_ne, ne_eq, Nat.reduceEqDiff, not_false_eq_true, pk_us, pk_un]); refine Prod.ext (funext fun z => ?_) rfl; simp only [setR]; (repeat' split) <;> first | with_reducible rfl | (exfalso; omega)) | rfl) ?_
      refine aw_top C (nI (p)) hp ?_
      refine aw_cVI (pc := 59) C (c_X1_through _  j hj r (by omega) k (by simp (disch := omega) only [setR_at, setR_twice, setL_at, setL_twice, setR_2, setL_1, setR_ne, setL_ne, ne_eq, Nat.reduceEqDiff, not_false_eq_true, pk_us, pk_un]; exact hk) hk7 (a + t) q p g0 (by simp (disch := omega) only [setR_at, setR_twice, setL_at, setL_twice, setR_2, setL_1, setR_ne, setL_ne, ne_eq, Nat.reduceEqDiff, not_false_eq_true, pk_us, pk_un]; exact hg) (by omega) (by omega) (by omega) (by omega) (by omega)) lk_X1_38 sh2 rfl dX1_atPaces_59 (by decide) (Nat.le_of_ble_eq_true rfl) rfl rfl ?_
      refine aw_conv (σ' := setR (setR σ 5 (f)) 6 (g)) (st' := [.int (behS f (σ.1 j) r (a + t) q (nI p)), .int (nI q), .ref 4]) (by first | with_reducible rfl | (simp (disch := omega) only [setR_at, setR_twice, setL_at, setL_twice, setR_2, setL_1, setR_ne, setL_ne, ne_eq, Nat.reduceEqDiff, not_false_eq_true, pk_us, pk_un]; done) | (simp (disch := omega) only [setR_at, setR_twice, setL_at, setL_twice, setR_2, setL_1, setR_ne, setL_ne, ne_eq, Nat.reduceEqDiff, not_false_eq_true, pk_us, pk_un, Option.toList_some, Option.toList_none, List.cons_append, List.nil_append]; done) | ((try simp (disch := omega) only [setR_at, setR_twice, setL_at, setL_twice, setR_2, setL_1, setR_ne, setL_ne, ne_eq, Nat.reduceEqDiff, not_false_eq_true, pk_us, pk_un]); refine Prod.ext (funext fun z => ?_) rfl; simp only [setR]; (repeat' split) <;> first | with_reducible rfl | (exfalso; omega)) | rfl) rfl (by first | with_reducible rfl | (simp (disch := omega) only [setR_at, setR_twice, setL_at, setL_twice, setR_2, setL_1, setR_ne, setL_ne, ne_eq, Nat.reduceEqDiff, not_false_eq_true, pk_us, pk_un]; done) | (simp (disch := omega) only [setR_at, setR_twice, setL_at, setL_twice, setR_2, setL_1, setR_ne, setL_ne, ne_eq, Nat.reduceEqDiff, not_false_eq_true, pk_us, pk_un, Option.toList_some, Option.toList_none, List.cons_append, List.nil_append]; done) | ((try simp (disch := omega) only [setR_at, setR_twice, setL_at, setL_twice, setR_2, setL_1, setR_ne, setL_ne, ne_eq, Nat.reduceEqDiff, not_false_eq_true, pk_us, pk_un]); refine Prod.ext (funext fun z => ?_) rfl; simp only [setR]; (repeat' split) <;> first | with_reducible rfl | (exfalso; omega)) | rfl) ?_
      refine aw_top C (mRow false (σ.1 j) r (a + c) (a + t) q) (mRow_f hI (by omega) (by omega) hp) ?_
      refine aw_ist (pc := 62) (k := q) C (q) (setR (setR σ 5 (f)) 6 (upd g q (mRow false (σ.1 j) r (a + c) (a + t) q))) sh4 dX1_atPaces_62 rfl (by omega) rfl (by first | with_reducible rfl | (simp (disch := omega) only [setR_at, setR_twice, setL_at, setL_twice, setR_2, setL_1, setR_ne, setL_ne, ne_eq, Nat.reduceEqDiff, not_false_eq_true, pk_us, pk_un]; done) | (simp (disch := omega) only [setR_at, setR_twice, setL_at, setL_twice, setR_2, setL_1, setR_ne, setL_ne, ne_eq, Nat.reduceEqDiff, not_false_eq_true, pk_us, pk_un, Option.toList_some, Option.toList_none, List.cons_append, List.nil_append]; done) | ((try simp (disch := omega) only [setR_at, setR_twice, setL_at, setL_twice, setR_2, setL_1, setR_ne, setL_ne, ne_eq, Nat.reduceEqDiff, not_false_eq_true, pk_us, pk_un]); refine Prod.ext (funext fun z => ?_) rfl; simp only [setR]; (repeat' split) <;> first | with_reducible rfl | (exfalso; omega)) | rfl) ?_
      refine aw_iincN (pc := 63) C 0 q [(8, .int (nI (q + 1))), (7, .int (nI (a + t))), (6, .ref (29 + 16 * j + 2 * r)), (0, .ref 2), (1, .ref (25 + 16 * j)), (2, .int (nI r)), (3, .int (nI a)), (4, .int (nI (a + c))), (5, .int (nI s))] dX1_atPaces_63 rfl rfl rfl (Nat.le_of_ble_eq_true rfl) rfl ?_
      refine aw_goto (pc := 66) C 31 dX1_atPaces_66 (by decide) ?_
      refine aw_lvs C [0, 1, 2, 3, 4, 5, 6, 7, 8] [(8, .int (nI (q + 1))), (7, .int (nI (a + t))), (6, .ref (29 + 16 * j + 2 * r)), (0, .ref 2), (1, .ref (25 + 16 * j)), (2, .int (nI r)), (3, .int (nI a)), (4, .int (nI (a + c))), (5, .int (nI s))] rfl ?_
      exact aw_conv (σ' := setR (setR σ 5 (f)) 6 (upd g q (mRow false (σ.1 j) r (a + c) (a + t) q))) (lv' := [(8, .int (nI (q + 1))), (7, .int (nI (a + t))), (6, .ref (29 + 16 * j + 2 * r)), (0, .ref 2), (1, .ref (25 + 16 * j)), (2, .int (nI r)), (3, .int (nI a)), (4, .int (nI (a + c))), (5, .int (nI s))]) rfl rfl rfl (ih31 _ (HInv.put hJ rfl))
