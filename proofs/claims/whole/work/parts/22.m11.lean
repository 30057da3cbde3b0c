/-! the reference: drops, gum, who is suspect -/
theorem c_X9_drops (σ : St) (n : Nat) (hn : σ.1 20 2 = nI n) (hz : n ≤ 6) (r y k j : Int32) : AMet Y_X9_drops [.ref 73, .int r, .int y, .int k, .int j] σ (PML σ (sDrops (σ.1 20) n r y k j)) := by
  refine am_intro (by decide +kernel) (Nat.le_of_ble_eq_true rfl) (fun K C => ?_)
  refine aw_aload_n (pc := 0) C 0 dX9_drops_0 rfl ?_
  refine aw_iload_n (pc := 1) C 1 dX9_drops_1 rfl ?_
  refine aw_iload_n (pc := 2) C 2 dX9_drops_2 rfl ?_
  refine aw_iload_n (pc := 3) C 3 dX9_drops_3 rfl ?_
  refine aw_bipush (pc := 4) (v := 10) C dX9_drops_4 rfl ?_
  refine aw_cVI (pc := 6) C (c_X9_isStretch _ n hn hz r y k 10 ) lk_X9_181 sh73 rfl dX9_drops_6 (by decide) (Nat.le_of_ble_eq_true rfl) rfl rfl ?_
  refine aw_if_eqB (pc := 9) C 37 dX9_drops_9 (by decide) (fun h9 => ?_) (fun h9 => ?_)
  · refine aw_aload_n (pc := 37) C 0 dX9_drops_37 rfl ?_
    refine aw_ldc (pc := 38) C dX9_drops_38 kc_X9_46 ?_
    refine aw_cVI (pc := 40) C (c_X9_finds _ (-100000001) 0 (by decide) (by decide)) lk_X9_48 sh73 rfl dX9_drops_40 (by decide) (Nat.le_of_ble_eq_true rfl) rfl rfl ?_
    refine aw_i2l (pc := 43) C dX9_drops_43 ?_
    exact aw_lretP (pc := 44) C rfl dX9_drops_44 (pml_low (by rw [sDrops, if_neg (fun z => h9 (z.1))]) rfl rfl)
  · refine aw_iload (pc := 12) C 4 dX9_drops_12 rfl ?_
    refine aw_i2l (pc := 14) C dX9_drops_14 ?_
    refine aw_lconst (pc := 15) (v := 0) C dX9_drops_15 rfl ?_
    refine aw_iload_n (pc := 16) C 3 dX9_drops_16 rfl ?_
    refine aw_i2l (pc := 17) C dX9_drops_17 ?_
    refine aw_cSI (pc := 18) C (c_X9_in _ j 0 k _ _ _ rfl (by decide) rfl) lk_X9_54 dX9_drops_18 (by decide) (Nat.le_of_ble_eq_true rfl) rfl rfl ?_
    refine aw_if_eqB (pc := 21) C 37 dX9_drops_21 (by decide) (fun h21 => ?_) (fun h21 => ?_)
    · refine aw_aload_n (pc := 37) C 0 dX9_drops_37 rfl ?_
      refine aw_ldc (pc := 38) C dX9_drops_38 kc_X9_46 ?_
      refine aw_cVI (pc := 40) C (c_X9_finds _ (-100000001) 0 (by decide) (by decide)) lk_X9_48 sh73 rfl dX9_drops_40 (by decide) (Nat.le_of_ble_eq_true rfl) rfl rfl ?_
      refine aw_i2l (pc := 43) C dX9_drops_43 ?_
      exact aw_lretP (pc := 44) C rfl dX9_drops_44 (pml_low (by rw [sDrops, if_neg (fun z => h21 (z.2))]) rfl rfl)
    · obtain ⟨rr, yy, kk, rfl, rfl, rfl, hrr, hyy, hkk, hyk⟩ := str_nat h9 hz (B := 10) rfl (by omega)
      obtain ⟨jj, rfl, -, hjj⟩ := rg 0 kk h21 (by omega) (by omega)
      refine aw_aload_n (pc := 24) C 0 dX9_drops_24 rfl ?_
      refine aw_iload_n (pc := 25) C 1 dX9_drops_25 rfl ?_
      refine aw_iload_n (pc := 26) C 2 dX9_drops_26 rfl ?_
      refine aw_iload_n (pc := 27) C 3 dX9_drops_27 rfl ?_
      refine aw_iload (pc := 28) C 4 dX9_drops_28 rfl ?_
      refine aw_iconst (pc := 30) (v := 0) C dX9_drops_30 rfl ?_
      refine aw_cVL (pc := 31) C (c_X9_dropping _  rr (by omega) kk yy jj 0 (by omega) (by omega) (by omega)) (lk_X9_189 kk) sh73 rfl dX9_drops_31 (by show 4 + kk + 1 ≤ 17; omega) (Nat.le_of_ble_eq_true rfl) rfl rfl ?_
      refine aw_goto (pc := 34) C 44 dX9_drops_34 (by decide) ?_
      exact aw_lretP (pc := 44) C rfl dX9_drops_44 (pml_of (by rw [sDrops, if_pos ⟨h9, h21⟩, cl_nI (show rr < 2147483648 by omega), cl_nI (show yy < 2147483648 by omega), cl_nI (show kk < 2147483648 by omega), cl_nI (show jj < 2147483648 by omega)]) rfl rfl)
theorem c_X9_droppingAs (σ : St) (kd : Int32) (r y n k : Nat) (hr : r < 6) (hy : y + n ≤ 30) (hn : n ≤ 12) (hk : k < 100) : AMet Y_X9_droppingAs [.ref 73, .int kd, .int (nI r), .int (nI y), .int (nI n), .int (nI k)] σ (fz (some (.long (dS (asK (σ.1 20) r kd) r n y k 0))) (σ)) := by
  refine am_intro (by decide +kernel) (Nat.le_of_ble_eq_true rfl) (fun K C => ?_)
  refine aw_aload_n (pc := 0) C 0 dX9_droppingAs_0 rfl ?_
  refine aw_iload_n (pc := 1) C 2 dX9_droppingAs_1 rfl ?_
  refine aw_iconst (pc := 2) (v := 0) C dX9_droppingAs_2 rfl ?_
  refine aw_cVI (pc := 3) C (c_X9_is _ r 0 (by omega)) lk_X9_62 sh73 rfl dX9_droppingAs_3 (by decide) (Nat.le_of_ble_eq_true rfl) rfl rfl ?_
  refine aw_istore (pc := 6) C [(6, .int (σ.1 20 (33 + 37 * r + 0))), (0, .ref 73), (1, .int kd), (2, .int (nI r)), (3, .int (nI y)), (4, .int (nI n)), (5, .int (nI k))] dX9_droppingAs_6 (Nat.le_of_ble_eq_true rfl) rfl ?_
  refine aw_aload_n (pc := 8) C 1 dX9_droppingAs_8 rfl ?_
  refine aw_iload_n (pc := 9) C 3 dX9_droppingAs_9 rfl ?_
  refine aw_iconst (pc := 10) (v := 0) C dX9_droppingAs_10 rfl ?_
  refine aw_iload_n (pc := 11) C 2 dX9_droppingAs_11 rfl ?_
  refine aw_cV0 (pc := 12) C (c_X9_makes _ r 0 kd (by omega)) lk_X9_77 sh73 rfl dX9_droppingAs_12 (by decide) (Nat.le_of_ble_eq_true rfl) rfl rfl ?_
  refine aw_aload_n (pc := 15) C 1 dX9_droppingAs_15 rfl ?_
  refine aw_iload_n (pc := 16) C 3 dX9_droppingAs_16 rfl ?_
  refine aw_iload_n (pc := 17) C 4 dX9_droppingAs_17 rfl ?_
  refine aw_iload (pc := 18) C 5 dX9_droppingAs_18 rfl ?_
  refine aw_iload (pc := 20) C 6 dX9_droppingAs_20 rfl ?_
  refine aw_iconst (pc := 22) (v := 0) C dX9_droppingAs_22 rfl ?_
  refine aw_cVL (pc := 23) C (c_X9_dropping _  r (by omega) n y k 0 (by omega) (by omega) (by omega)) (lk_X9_189 n) sh73 rfl dX9_droppingAs_23 (by show 4 + n + 1 ≤ 17; omega) (Nat.le_of_ble_eq_true rfl) rfl rfl ?_
  refine aw_conv (σ' := setR σ 20 (upd (σ.1 20) (33 + 37 * r + 0) (kd))) (st' := [.long (dS (upd (σ.1 20) (33 + 37 * r + 0) (kd)) r n y k 0)]) (by first | rfl | (simp (disch := omega) only [setR_at, setR_twice, setL_at, setL_twice, setR_2, setL_1, setR_ne, setL_ne, ne_eq, Nat.reduceEqDiff, not_false_eq_true, pk_us, pk_un]; done) | ((try simp (disch := omega) only [setR_at, setR_twice, setL_at, setL_twice, setR_2, setL_1, setR_ne, setL_ne, ne_eq, Nat.reduceEqDiff, not_false_eq_true, pk_us, pk_un]); refine Prod.ext (funext fun z => ?_) rfl; simp only [setR]; (repeat' split) <;> first | rfl | (exfalso; omega))) rfl (by first | rfl | (simp (disch := omega) only [setR_at, setR_twice, setL_at, setL_twice, setR_2, setL_1, setR_ne, setL_ne, ne_eq, Nat.reduceEqDiff, not_false_eq_true, pk_us, pk_un]; done) | ((try simp (disch := omega) only [setR_at, setR_twice, setL_at, setL_twice, setR_2, setL_1, setR_ne, setL_ne, ne_eq, Nat.reduceEqDiff, not_false_eq_true, pk_us, pk_un]); refine Prod.ext (funext fun z => ?_) rfl; simp only [setR]; (repeat' split) <;> first | rfl | (exfalso; omega))) ?_
  refine aw_lstore (pc := 26) C [(7, .long (dS (upd (σ.1 20) (33 + 37 * r + 0) (kd)) r n y k 0)), (6, .int (σ.1 20 (33 + 37 * r + 0))), (0, .ref 73), (1, .int kd), (2, .int (nI r)), (3, .int (nI y)), (4, .int (nI n)), (5, .int (nI k))] dX9_droppingAs_26 (Nat.le_of_ble_eq_true rfl) rfl ?_
  refine aw_aload_n (pc := 28) C 2 dX9_droppingAs_28 rfl ?_
  refine aw_iload_n (pc := 29) C 4 dX9_droppingAs_29 rfl ?_
  refine aw_iconst (pc := 30) (v := 0) C dX9_droppingAs_30 rfl ?_
  refine aw_iload (pc := 31) C 1 dX9_droppingAs_31 rfl ?_
  refine aw_cV0 (pc := 33) C (c_X9_makes _ r 0 (σ.1 20 (33 + 37 * r + 0)) (by omega)) lk_X9_77 sh73 rfl dX9_droppingAs_33 (by decide) (Nat.le_of_ble_eq_true rfl) rfl rfl ?_
  refine aw_conv (σ' := setR σ 20 (upd (upd (σ.1 20) (33 + 37 * r + 0) (kd)) (33 + 37 * r + 0) (σ.1 20 (33 + 37 * r + 0)))) (st' := []) (by first | rfl | (simp (disch := omega) only [setR_at, setR_twice, setL_at, setL_twice, setR_2, setL_1, setR_ne, setL_ne, ne_eq, Nat.reduceEqDiff, not_false_eq_true, pk_us, pk_un]; done) | ((try simp (disch := omega) only [setR_at, setR_twice, setL_at, setL_twice, setR_2, setL_1, setR_ne, setL_ne, ne_eq, Nat.reduceEqDiff, not_false_eq_true, pk_us, pk_un]); refine Prod.ext (funext fun z => ?_) rfl; simp only [setR]; (repeat' split) <;> first | rfl | (exfalso; omega))) rfl (by first | rfl | (simp (disch := omega) only [setR_at, setR_twice, setL_at, setL_twice, setR_2, setL_1, setR_ne, setL_ne, ne_eq, Nat.reduceEqDiff, not_false_eq_true, pk_us, pk_un]; done) | ((try simp (disch := omega) only [setR_at, setR_twice, setL_at, setL_twice, setR_2, setL_1, setR_ne, setL_ne, ne_eq, Nat.reduceEqDiff, not_false_eq_true, pk_us, pk_un]); refine Prod.ext (funext fun z => ?_) rfl; simp only [setR]; (repeat' split) <;> first | rfl | (exfalso; omega))) ?_
  refine aw_lload (pc := 36) C 0 dX9_droppingAs_36 rfl ?_
  exact aw_lret (pc := 38) C rfl dX9_droppingAs_38 rfl (by show setR σ 20 (upd (asK (σ.1 20) r kd) (33 + 37 * r + 0) (fl (σ.1 20) r 0)) = σ; rw [asK_back, setR_same])
theorem c_X9_gum (σ : St) (n : Nat) (hn : σ.1 20 2 = nI n) (hz : n ≤ 6) (r y k j w : Int32) : AMet Y_X9_gum [.ref 73, .int r, .int y, .int k, .int j, .int w] σ (PML σ (sGum (σ.1 20) n r y k j w)) := by
  refine am_intro (by decide +kernel) (Nat.le_of_ble_eq_true rfl) (fun K C => ?_)
  refine aw_aload_n (pc := 0) C 0 dX9_gum_0 rfl ?_
  refine aw_iload_n (pc := 1) C 1 dX9_gum_1 rfl ?_
  refine aw_iload_n (pc := 2) C 2 dX9_gum_2 rfl ?_
  refine aw_iload_n (pc := 3) C 3 dX9_gum_3 rfl ?_
  refine aw_bipush (pc := 4) (v := 8) C dX9_gum_4 rfl ?_
  refine aw_cVI (pc := 6) C (c_X9_isStretch _ n hn hz r y k 8 ) lk_X9_181 sh73 rfl dX9_gum_6 (by decide) (Nat.le_of_ble_eq_true rfl) rfl rfl ?_
  refine aw_if_eqB (pc := 9) C 39 dX9_gum_9 (by decide) (fun h9 => ?_) (fun h9 => ?_)
  · refine aw_aload_n (pc := 39) C 0 dX9_gum_39 rfl ?_
    refine aw_ldc (pc := 40) C dX9_gum_40 kc_X9_46 ?_
    refine aw_cVI (pc := 42) C (c_X9_finds _ (-100000001) 0 (by decide) (by decide)) lk_X9_48 sh73 rfl dX9_gum_42 (by decide) (Nat.le_of_ble_eq_true rfl) rfl rfl ?_
    refine aw_i2l (pc := 45) C dX9_gum_45 ?_
    exact aw_lretP (pc := 46) C rfl dX9_gum_46 (pml_low (by rw [sGum, if_neg (fun z => h9 (z.1))]) rfl rfl)
  · refine aw_iload_n (pc := 12) C 3 dX9_gum_12 rfl ?_
    refine aw_if_eq (pc := 13) C 39 dX9_gum_13 (by decide) (fun h13 => ?_) (fun h13 => ?_)
    · refine aw_aload_n (pc := 39) C 0 dX9_gum_39 rfl ?_
      refine aw_ldc (pc := 40) C dX9_gum_40 kc_X9_46 ?_
      refine aw_cVI (pc := 42) C (c_X9_finds _ (-100000001) 0 (by decide) (by decide)) lk_X9_48 sh73 rfl dX9_gum_42 (by decide) (Nat.le_of_ble_eq_true rfl) rfl rfl ?_
      refine aw_i2l (pc := 45) C dX9_gum_45 ?_
      exact aw_lretP (pc := 46) C rfl dX9_gum_46 (pml_low (by rw [sGum, if_neg (fun z => z.2.1 h13)]) rfl rfl)
    · refine aw_iload (pc := 16) C 4 dX9_gum_16 rfl ?_
      refine aw_i2l (pc := 18) C dX9_gum_18 ?_
      refine aw_lconst (pc := 19) (v := 0) C dX9_gum_19 rfl ?_
      refine aw_iload_n (pc := 20) C 3 dX9_gum_20 rfl ?_
      refine aw_i2l (pc := 21) C dX9_gum_21 ?_
      refine aw_cSI (pc := 22) C (c_X9_in _ j 0 k _ _ _ rfl (by decide) rfl) lk_X9_54 dX9_gum_22 (by decide) (Nat.le_of_ble_eq_true rfl) rfl rfl ?_
      refine aw_if_eqB (pc := 25) C 39 dX9_gum_25 (by decide) (fun h25 => ?_) (fun h25 => ?_)
      · refine aw_aload_n (pc := 39) C 0 dX9_gum_39 rfl ?_
        refine aw_ldc (pc := 40) C dX9_gum_40 kc_X9_46 ?_
        refine aw_cVI (pc := 42) C (c_X9_finds _ (-100000001) 0 (by decide) (by decide)) lk_X9_48 sh73 rfl dX9_gum_42 (by decide) (Nat.le_of_ble_eq_true rfl) rfl rfl ?_
        refine aw_i2l (pc := 45) C dX9_gum_45 ?_
        exact aw_lretP (pc := 46) C rfl dX9_gum_46 (pml_low (by rw [sGum, if_neg (fun z => h25 (z.2.2.1))]) rfl rfl)
      · refine aw_iload (pc := 28) C 5 dX9_gum_28 rfl ?_
        refine aw_i2l (pc := 30) C dX9_gum_30 ?_
        refine aw_lconst (pc := 31) (v := 0) C dX9_gum_31 rfl ?_
        refine aw_lconst (pc := 32) (v := 1) C dX9_gum_32 rfl ?_
        refine aw_cSI (pc := 33) C (c_X9_in _ w 0 1 _ _ _ rfl (by decide) (by decide)) lk_X9_54 dX9_gum_33 (by decide) (Nat.le_of_ble_eq_true rfl) rfl rfl ?_
        refine aw_if_neB (pc := 36) C 47 dX9_gum_36 (by decide) (fun h36 => ?_) (fun h36 => ?_)
        · obtain ⟨rr, yy, kk, rfl, rfl, rfl, hrr, hyy, hkk, hyk⟩ := str_nat h9 hz (B := 8) rfl (by omega)
          obtain ⟨jj, rfl, -, hjj⟩ := rg 0 kk h25 (by omega) (by omega)
          refine aw_aload_n (pc := 47) C 0 dX9_gum_47 rfl ?_
          refine aw_iload (pc := 48) C 5 dX9_gum_48 rfl ?_
          refine aw_if_ne (pc := 50) C 57 dX9_gum_50 (by decide) (fun h50 => ?_) (fun h50 => ?_)
          · refine aw_aload_n (pc := 57) C 0 dX9_gum_57 rfl ?_
            refine aw_iload_n (pc := 58) C 1 dX9_gum_58 rfl ?_
            refine aw_iconst (pc := 59) (v := 0) C dX9_gum_59 rfl ?_
            refine aw_cVI (pc := 60) C (c_X9_is _ rr 0 (by omega)) lk_X9_62 sh73 rfl dX9_gum_60 (by decide) (Nat.le_of_ble_eq_true rfl) rfl rfl ?_
            refine aw_iload_n (pc := 63) C 1 dX9_gum_63 rfl ?_
            refine aw_iload_n (pc := 64) C 2 dX9_gum_64 rfl ?_
            refine aw_iload_n (pc := 65) C 3 dX9_gum_65 rfl ?_
            refine aw_iload (pc := 66) C 4 dX9_gum_66 rfl ?_
            refine aw_cVL (pc := 68) C (c_X9_droppingAs _ (σ.1 20 (33 + 37 * rr + 0)) rr yy kk jj (by omega) (by omega) (by omega) (by omega)) lk_X9_216 sh73 rfl dX9_gum_68 (by decide) (Nat.le_of_ble_eq_true rfl) rfl rfl ?_
            exact aw_lretP (pc := 71) C rfl dX9_gum_71 (pml_of (by rw [sGum, if_pos ⟨h9, h13, h25, h36⟩, cl_nI (show rr < 2147483648 by omega), cl_nI (show kk < 2147483648 by omega), cl_nI (show yy < 2147483648 by omega), cl_nI (show jj < 2147483648 by omega), if_neg h50]) rfl rfl)
          · refine aw_iconst (pc := 53) (v := 5) C dX9_gum_53 rfl ?_
            refine aw_goto (pc := 54) C 63 dX9_gum_54 (by decide) ?_
            refine aw_iload_n (pc := 63) C 1 dX9_gum_63 rfl ?_
            refine aw_iload_n (pc := 64) C 2 dX9_gum_64 rfl ?_
            refine aw_iload_n (pc := 65) C 3 dX9_gum_65 rfl ?_
            refine aw_iload (pc := 66) C 4 dX9_gum_66 rfl ?_
            refine aw_cVL (pc := 68) C (c_X9_droppingAs _ 5 rr yy kk jj (by omega) (by omega) (by omega) (by omega)) lk_X9_216 sh73 rfl dX9_gum_68 (by decide) (Nat.le_of_ble_eq_true rfl) rfl rfl ?_
            exact aw_lretP (pc := 71) C rfl dX9_gum_71 (pml_of (by rw [sGum, if_pos ⟨h9, h13, h25, h36⟩, cl_nI (show rr < 2147483648 by omega), cl_nI (show kk < 2147483648 by omega), cl_nI (show yy < 2147483648 by omega), cl_nI (show jj < 2147483648 by omega), if_pos h50]) rfl rfl)
        · refine aw_aload_n (pc := 39) C 0 dX9_gum_39 rfl ?_
          refine aw_ldc (pc := 40) C dX9_gum_40 kc_X9_46 ?_
          refine aw_cVI (pc := 42) C (c_X9_finds _ (-100000001) 0 (by decide) (by decide)) lk_X9_48 sh73 rfl dX9_gum_42 (by decide) (Nat.le_of_ble_eq_true rfl) rfl rfl ?_
          refine aw_i2l (pc := 45) C dX9_gum_45 ?_
          exact aw_lretP (pc := 46) C rfl dX9_gum_46 (pml_low (by rw [sGum, if_neg (fun z => h36 (z.2.2.2))]) rfl rfl)
theorem c_X9_suspect (σ : St) (n : Nat) (hn : σ.1 20 2 = nI n) (hz : n ≤ 6) (r y k : Int32) : AMet Y_X9_suspect [.ref 73, .int r, .int y, .int k] σ (PM σ (sSuspect (σ.1 20) n r y k)) := by
  refine am_intro (by decide +kernel) (Nat.le_of_ble_eq_true rfl) (fun K C => ?_)
  refine aw_aload_n (pc := 0) C 0 dX9_suspect_0 rfl ?_
  refine aw_iload_n (pc := 1) C 1 dX9_suspect_1 rfl ?_
  refine aw_iload_n (pc := 2) C 2 dX9_suspect_2 rfl ?_
  refine aw_iload_n (pc := 3) C 3 dX9_suspect_3 rfl ?_
  refine aw_bipush (pc := 4) (v := 8) C dX9_suspect_4 rfl ?_
  refine aw_cVI (pc := 6) C (c_X9_isStretch _ n hn hz r y k 8 ) lk_X9_181 sh73 rfl dX9_suspect_6 (by decide) (Nat.le_of_ble_eq_true rfl) rfl rfl ?_
  refine aw_if_eqB (pc := 9) C 16 dX9_suspect_9 (by decide) (fun h9 => ?_) (fun h9 => ?_)
  · refine aw_aload_n (pc := 16) C 0 dX9_suspect_16 rfl ?_
    refine aw_ldc (pc := 17) C dX9_suspect_17 kc_X9_46 ?_
    refine aw_cVI (pc := 19) C (c_X9_finds _ (-100000001) 0 (by decide) (by decide)) lk_X9_48 sh73 rfl dX9_suspect_19 (by decide) (Nat.le_of_ble_eq_true rfl) rfl rfl ?_
    exact aw_iretP (pc := 22) C rfl dX9_suspect_22 (pm_of (an' := .inl 0) (by rw [sSuspect, if_neg (fun z => h9 z.1)]) rfl rfl)
  · refine aw_iload_n (pc := 12) C 3 dX9_suspect_12 rfl ?_
    refine aw_if_ne (pc := 13) C 23 dX9_suspect_13 (by decide) (fun h13 => ?_) (fun h13 => ?_)
    · obtain ⟨rr, yy, kk, rfl, rfl, rfl, hrr, hyy, hkk, hyk⟩ := str_nat h9 hz (B := 8) rfl (by omega)
      refine aw_iload_n (pc := 23) C 3 dX9_suspect_23 rfl ?_
      refine aw_istore (pc := 24) C [(4, .int (nI kk)), (0, .ref 73), (1, .int (nI rr)), (2, .int (nI yy)), (3, .int (nI kk))] dX9_suspect_24 (Nat.le_of_ble_eq_true rfl) rfl ?_
      refine aw_lvs C [0, 1, 2, 3, 4] [(4, .int (nI kk)), (0, .ref 73), (1, .int (nI rr)), (2, .int (nI yy)), (3, .int (nI kk))] rfl ?_
      refine aw_conv (σ' := σ) (lv' := [(4, .int (nI kk)), (0, .ref 73), (1, .int (nI rr)), (2, .int (nI yy)), (3, .int (nI kk))]) rfl rfl rfl ?_
      refine loop_dn (P := fun m => m ≤ kk + 1 → ∀ (hI : susS (σ.1 20) rr yy kk (kk + 1) = susS (σ.1 20) rr yy kk m), AW _ K _ (σ) 26 [(4, .int (dI m)), (0, .ref 73), (1, .int (nI rr)), (2, .int (nI yy)), (3, .int (nI kk))] []) ?_ ?_ (kk + 1) (by omega) rfl
      · intro hk26 hI
        refine aw_iload (pc := 26) C 0 dX9_suspect_26 rfl ?_
        refine aw_if_lt (pc := 28) C 79 dX9_suspect_28 (by decide) (fun h28 => ?_) (fun h28 => absurd h28 (by decide))
        refine aw_aload_n (pc := 79) C 1 dX9_suspect_79 rfl ?_
        refine aw_ldc (pc := 80) C dX9_suspect_80 kc_X9_47 ?_
        refine aw_cVI (pc := 82) C (c_X9_finds _ (-100000004) 3 (by decide) (by decide)) lk_X9_48 sh73 rfl dX9_suspect_82 (by decide) (Nat.le_of_ble_eq_true rfl) rfl rfl ?_
        exact aw_iretP (pc := 85) C rfl dX9_suspect_85 (pm_of (an' := .inl 3) (by rw [sSuspect, if_pos ⟨h9, h13⟩, cl_nI (show rr < 2147483648 by omega), cl_nI (show yy < 2147483648 by omega), cl_nI (show kk < 2147483648 by omega), hI, susS]) rfl rfl)
      · intro m ih26 hk26 hI
        refine aw_iload (pc := 26) C 0 dX9_suspect_26 rfl ?_
        refine aw_if_lt (pc := 28) C 79 dX9_suspect_28 (by decide) (fun h28 => absurd h28 (nI_pos (by omega))) (fun h28 => ?_)
        refine aw_aload_n (pc := 31) C 1 dX9_suspect_31 rfl ?_
        refine aw_iconst (pc := 32) (v := 5) C dX9_suspect_32 rfl ?_
        refine aw_iload_n (pc := 33) C 2 dX9_suspect_33 rfl ?_
        refine aw_iload_n (pc := 34) C 3 dX9_suspect_34 rfl ?_
        refine aw_iload_n (pc := 35) C 4 dX9_suspect_35 rfl ?_
        refine aw_iload (pc := 36) C 0 dX9_suspect_36 rfl ?_
        refine aw_cVL (pc := 38) C (c_X9_droppingAs _ 5 rr yy kk m (by omega) (by omega) (by omega) (by omega)) lk_X9_216 sh73 rfl dX9_suspect_38 (by decide) (Nat.le_of_ble_eq_true rfl) rfl rfl ?_
        refine aw_lstore (pc := 41) C [(5, .long (dS (asK (σ.1 20) rr 5) rr kk yy m 0)), (4, .int (nI m)), (0, .ref 73), (1, .int (nI rr)), (2, .int (nI yy)), (3, .int (nI kk))] dX9_suspect_41 (Nat.le_of_ble_eq_true rfl) rfl ?_
        refine aw_lload (pc := 43) C 0 dX9_suspect_43 rfl ?_
        refine aw_lconst (pc := 45) (v := 0) C dX9_suspect_45 rfl ?_
        refine aw_lcmp (pc := 46) C dX9_suspect_46 ?_
        refine aw_if_leC (pc := 47) C 73 dX9_suspect_47 (by decide) (fun h47 => ?_) (fun h47 => ?_)
        · refine aw_iinc (pc := 73) C 1 ((nI (m)) + (-1)) [(4, .int ((nI (m)) + (-1))), (5, .long (dS (asK (σ.1 20) rr 5) rr kk yy m 0)), (0, .ref 73), (1, .int (nI rr)), (2, .int (nI yy)), (3, .int (nI kk))] dX9_suspect_73 rfl rfl (Nat.le_of_ble_eq_true rfl) rfl ?_
          refine aw_goto (pc := 76) C 26 dX9_suspect_76 (by decide) ?_
          refine aw_lvs C [0, 2, 3, 4, 5] [(4, .int ((nI (m)) + (-1))), (0, .ref 73), (1, .int (nI rr)), (2, .int (nI yy)), (3, .int (nI kk))] rfl ?_
          exact aw_conv (σ' := σ) (lv' := [(4, .int (dI m)), (0, .ref 73), (1, .int (nI rr)), (2, .int (nI yy)), (3, .int (nI kk))]) rfl (by rw [dI_dec]) rfl (ih26 (by omega) (by rw [hI, susS, if_neg (fun z => Int64.not_lt.mpr h47 z.1)]))
        · refine aw_lload (pc := 50) C 0 dX9_suspect_50 rfl ?_
          refine aw_ldc2 (pc := 52) C dX9_suspect_52 kc_X9_214 ?_
          refine aw_aload_n (pc := 55) C 2 dX9_suspect_55 rfl ?_
          refine aw_iload_n (pc := 56) C 3 dX9_suspect_56 rfl ?_
          refine aw_iload_n (pc := 57) C 4 dX9_suspect_57 rfl ?_
          refine aw_iload_n (pc := 58) C 5 dX9_suspect_58 rfl ?_
          refine aw_iload (pc := 59) C 1 dX9_suspect_59 rfl ?_
          refine aw_iconst (pc := 61) (v := 0) C dX9_suspect_61 rfl ?_
          refine aw_cVL (pc := 62) C (c_X9_dropping _  rr (by omega) kk yy m 0 (by omega) (by omega) (by omega)) (lk_X9_189 kk) sh73 rfl dX9_suspect_62 (by show 4 + kk + 1 ≤ 18; omega) (Nat.le_of_ble_eq_true rfl) rfl rfl ?_
          refine aw_lmul (pc := 65) C dX9_suspect_65 ?_
          refine aw_lcmp (pc := 66) C dX9_suspect_66 ?_
          refine aw_if_ltC (pc := 67) C 73 dX9_suspect_67 (by decide) (fun h67 => ?_) (fun h67 => ?_)
          · refine aw_iinc (pc := 73) C 1 ((nI (m)) + (-1)) [(4, .int ((nI (m)) + (-1))), (5, .long (dS (asK (σ.1 20) rr 5) rr kk yy m 0)), (0, .ref 73), (1, .int (nI rr)), (2, .int (nI yy)), (3, .int (nI kk))] dX9_suspect_73 rfl rfl (Nat.le_of_ble_eq_true rfl) rfl ?_
            refine aw_goto (pc := 76) C 26 dX9_suspect_76 (by decide) ?_
            refine aw_lvs C [0, 2, 3, 4, 5] [(4, .int ((nI (m)) + (-1))), (0, .ref 73), (1, .int (nI rr)), (2, .int (nI yy)), (3, .int (nI kk))] rfl ?_
            exact aw_conv (σ' := σ) (lv' := [(4, .int (dI m)), (0, .ref 73), (1, .int (nI rr)), (2, .int (nI yy)), (3, .int (nI kk))]) rfl (by rw [dI_dec]) rfl (ih26 (by omega) (by rw [hI, susS, if_neg (fun z => Int64.not_le.mpr h67 z.2)]))
          · refine aw_iload (pc := 70) C 1 dX9_suspect_70 rfl ?_
            exact aw_iretP (pc := 72) C rfl dX9_suspect_72 (pm_of (an' := .inr (nI m, σ.1 20)) (by rw [sSuspect, if_pos ⟨h9, h13⟩, cl_nI (show rr < 2147483648 by omega), cl_nI (show yy < 2147483648 by omega), cl_nI (show kk < 2147483648 by omega), hI, susS, if_pos ⟨Int64.not_le.mp h47, Int64.not_lt.mp h67⟩]) rfl (setR_same σ 20).symm)
    · refine aw_aload_n (pc := 16) C 0 dX9_suspect_16 rfl ?_
      refine aw_ldc (pc := 17) C dX9_suspect_17 kc_X9_46 ?_
      refine aw_cVI (pc := 19) C (c_X9_finds _ (-100000001) 0 (by decide) (by decide)) lk_X9_48 sh73 rfl dX9_suspect_19 (by decide) (Nat.le_of_ble_eq_true rfl) rfl rfl ?_
      exact aw_iretP (pc := 22) C rfl dX9_suspect_22 (pm_of (an' := .inl 0) (by rw [sSuspect, if_neg (fun z => z.2 h13)]) rfl rfl)
