/-! the class: NUMBERS and words of THE TAPE -/
theorem c_X6_value (σ : St) (t p : Nat) (hA : CTK (σ.1 13) (σ.1 11) t p) : AMet Y_X6_value [.ref 13] σ (fz (some (.int (valC (σ.1 11) t p))) (σ)) := by
  refine am_intro (by decide +kernel) (Nat.le_of_ble_eq_true rfl) (fun K C => ?_)
  have hA1 := hA.1
  have hpt := hA.2.1
  have htl := too_le (b := σ.1 11) hpt
  have hge := too_ge (b := σ.1 11) (t := t) (p := p)
  have hfl := fr_le (b := σ.1 11) hpt
  refine aw_aload_n (pc := 0) C 0 dX6_value_0 rfl ?_
  refine aw_gld (pc := 1) C (σ.1 13 1) fl_X6_22 sh13 rfl dX6_value_1 rfl ?_
  refine aw_top C (ctk (σ.1 11) t p) (hA.2.2.2.1) ?_
  refine aw_iconst (pc := 4) (v := 2) C dX6_value_4 rfl ?_
  refine aw_icmp_eq (pc := 5) C 10 dX6_value_5 (by decide) (fun h5 => ?_) (fun h5 => ?_)
  · refine aw_iconst (pc := 10) (v := 0) C dX6_value_10 rfl ?_
    refine aw_istore_n (pc := 11) C [(1, .int 0), (0, .ref 13)] dX6_value_11 (Nat.le_of_ble_eq_true rfl) rfl ?_
    refine aw_aload_n (pc := 12) C 1 dX6_value_12 rfl ?_
    refine aw_gld (pc := 13) C (σ.1 13 2) fl_X6_25 sh13 rfl dX6_value_13 rfl ?_
    refine aw_top C (nI (fr (σ.1 11) t p)) hA.2.2.2.2.1 ?_
    refine aw_istore_n (pc := 16) C [(2, .int (nI (fr (σ.1 11) t p))), (1, .int 0), (0, .ref 13)] dX6_value_16 (Nat.le_of_ble_eq_true rfl) rfl ?_
    refine aw_lvs C [0, 1, 2] [(2, .int (nI (fr (σ.1 11) t p))), (1, .int 0), (0, .ref 13)] rfl ?_
    refine aw_conv (σ' := σ) (lv' := [(2, .int (nI (fr (σ.1 11) t p + 0))), (1, .int (vlC (σ.1 11) (fr (σ.1 11) t p) 0)), (0, .ref 13)]) rfl rfl rfl ?_
    refine loop_up (P := fun k => AW _ K _ (σ) 17 [(2, .int (nI (fr (σ.1 11) t p + k))), (1, .int (vlC (σ.1 11) (fr (σ.1 11) t p) k)), (0, .ref 13)] []) (too (σ.1 11) t p - fr (σ.1 11) t p) ?_ ?_ 0 (by omega) 
    · refine aw_iload_n (pc := 17) C 0 dX6_value_17 rfl ?_
      refine aw_aload_n (pc := 18) C 2 dX6_value_18 rfl ?_
      refine aw_gld (pc := 19) C (σ.1 13 3) fl_X6_28 sh13 rfl dX6_value_19 rfl ?_
      refine aw_top C (nI (too (σ.1 11) t p)) hA.2.2.2.2.2 ?_
      refine aw_icmp_geN (pc := 22) C (fr (σ.1 11) t p + (too (σ.1 11) t p - fr (σ.1 11) t p)) (too (σ.1 11) t p) 52 rfl rfl (by omega) (by omega) dX6_value_22 (by decide) (fun h22 => ?_) (fun h22 => absurd h22 (by omega))
      refine aw_iload_n (pc := 52) C 1 dX6_value_52 rfl ?_
      exact aw_iret (pc := 53) C rfl dX6_value_53 (by rw [valC, if_pos ((ctk2 hpt).mp h5)]) rfl
    · intro k hk17 ih17 
      refine aw_iload_n (pc := 17) C 0 dX6_value_17 rfl ?_
      refine aw_aload_n (pc := 18) C 2 dX6_value_18 rfl ?_
      refine aw_gld (pc := 19) C (σ.1 13 3) fl_X6_28 sh13 rfl dX6_value_19 rfl ?_
      refine aw_top C (nI (too (σ.1 11) t p)) hA.2.2.2.2.2 ?_
      refine aw_icmp_geN (pc := 22) C (fr (σ.1 11) t p + k) (too (σ.1 11) t p) 52 rfl rfl (by omega) (by omega) dX6_value_22 (by decide) (fun h22 => absurd h22 (by omega)) (fun h22 => ?_)
      refine aw_sipush (pc := 25) (v := 1000) C dX6_value_25 rfl ?_
      refine aw_iload_n (pc := 28) C 1 dX6_value_28 rfl ?_
      refine aw_bipush (pc := 29) (v := 10) C dX6_value_29 rfl ?_
      refine aw_imul (pc := 31) C dX6_value_31 ?_
      refine aw_aload_n (pc := 32) C 2 dX6_value_32 rfl ?_
      refine aw_getR (pc := 33) C fl_X6_9 sh13 rfl dX6_value_33 ?_
      refine aw_iload_n (pc := 36) C 0 dX6_value_36 rfl ?_
      refine aw_ild (pc := 37) (k := fr (σ.1 11) t p + k) C (fr (σ.1 11) t p + k) (σ.1 11 (fr (σ.1 11) t p + k)) sh14 dX6_value_37 rfl (by omega) rfl rfl ?_
      refine aw_iadd (pc := 38) C dX6_value_38 ?_
      refine aw_bipush (pc := 39) (v := 48) C dX6_value_39 rfl ?_
      refine aw_isub (pc := 41) C dX6_value_41 ?_
      refine aw_mmin (pc := 42) C lk_X6_42 (by decide) (Nat.le_of_ble_eq_true rfl) dX6_value_42 ?_
      refine aw_istore_n (pc := 45) C [(1, .int (mnI 1000 ((((vlC (σ.1 11) (fr (σ.1 11) t p) k) * 10) + (σ.1 11 (fr (σ.1 11) t p + k))) - 48))), (2, .int (nI (fr (σ.1 11) t p + k))), (0, .ref 13)] dX6_value_45 (Nat.le_of_ble_eq_true rfl) rfl ?_
      refine aw_iincN (pc := 46) C 1 (fr (σ.1 11) t p + k) [(2, .int (nI (fr (σ.1 11) t p + k + 1))), (1, .int (mnI 1000 ((((vlC (σ.1 11) (fr (σ.1 11) t p) k) * 10) + (σ.1 11 (fr (σ.1 11) t p + k))) - 48))), (0, .ref 13)] dX6_value_46 rfl rfl rfl (Nat.le_of_ble_eq_true rfl) rfl ?_
      refine aw_goto (pc := 49) C 17 dX6_value_49 (by decide) ?_
      refine aw_lvs C [0, 1, 2] [(2, .int (nI (fr (σ.1 11) t p + k + 1))), (1, .int (mnI 1000 ((((vlC (σ.1 11) (fr (σ.1 11) t p) k) * 10) + (σ.1 11 (fr (σ.1 11) t p + k))) - 48))), (0, .ref 13)] rfl ?_
      exact aw_conv (σ' := σ) (lv' := [(2, .int (nI (fr (σ.1 11) t p + (k + 1)))), (1, .int (vlC (σ.1 11) (fr (σ.1 11) t p) (k + 1))), (0, .ref 13)]) rfl rfl rfl ih17
  · refine aw_iconst (pc := 8) (v := (-1)) C dX6_value_8 rfl ?_
    exact aw_iret (pc := 9) C rfl dX6_value_9 (by rw [valC, if_neg (fun z => h5 ((ctk2 hpt).mpr z))]) rfl
theorem c_X6_isWord (σ : St) (t p : Nat) (hA : CTK (σ.1 13) (σ.1 11) t p) (i : Nat) (q : String × Nat × Nat) (hq : STR[i]? = some q) : AMet Y_X6_isWord [.ref 13, .ref (200 + i)] σ (fz (some (.int (b2i (wdB (σ.1 11) t p q.2.2 = true)))) (σ)) := by
  refine am_intro (by decide +kernel) (Nat.le_of_ble_eq_true rfl) (fun K C => ?_)
  have hA1 := hA.1
  have hpt := hA.2.1
  have htl := too_le (b := σ.1 11) hpt
  have hge := too_ge (b := σ.1 11) (t := t) (p := p)
  have hfl := fr_le (b := σ.1 11) hpt
  have hwl := word_len hq
  refine aw_aload_n (pc := 0) C 0 dX6_isWord_0 rfl ?_
  refine aw_gld (pc := 1) C (σ.1 13 1) fl_X6_22 sh13 rfl dX6_isWord_1 rfl ?_
  refine aw_top C (ctk (σ.1 11) t p) (hA.2.2.2.1) ?_
  refine aw_iconst (pc := 4) (v := 1) C dX6_isWord_4 rfl ?_
  refine aw_icmp_ne (pc := 5) C 24 dX6_isWord_5 (by decide) (fun h5 => ?_) (fun h5 => ?_)
  · refine aw_iconst (pc := 24) (v := 0) C dX6_isWord_24 rfl ?_
    exact aw_zret (pc := 25) C rfl rfl dX6_isWord_25 (b2i_f (fun z => h5 ((ctk1 hpt).mpr (wdB_iff.mp z).1))).symm rfl
  · refine aw_aload_n (pc := 8) C 0 dX6_isWord_8 rfl ?_
    refine aw_gld (pc := 9) C (σ.1 13 3) fl_X6_28 sh13 rfl dX6_isWord_9 rfl ?_
    refine aw_top C (nI (too (σ.1 11) t p)) hA.2.2.2.2.2 ?_
    refine aw_aload_n (pc := 12) C 0 dX6_isWord_12 rfl ?_
    refine aw_gld (pc := 13) C (σ.1 13 2) fl_X6_25 sh13 rfl dX6_isWord_13 rfl ?_
    refine aw_top C (nI (fr (σ.1 11) t p)) hA.2.2.2.2.1 ?_
    refine aw_isubN (pc := 16) C (too (σ.1 11) t p) (fr (σ.1 11) t p) rfl rfl hge dX6_isWord_16 ?_
    refine aw_aload_n (pc := 17) C 1 dX6_isWord_17 rfl ?_
    refine aw_cWI (pc := 18) C (c_J0_length _ i q hq ) lk_X6_48 hq rfl dX6_isWord_18 (by decide) (Nat.le_of_ble_eq_true rfl) rfl rfl ?_
    refine aw_icmp_eqN (pc := 21) C ((too (σ.1 11) t p) - (fr (σ.1 11) t p)) ((wordB q.2.2).length) 26 rfl rfl (by omega) (by omega) dX6_isWord_21 (by decide) (fun h21 => ?_) (fun h21 => ?_)
    · refine aw_iconst (pc := 26) (v := 0) C dX6_isWord_26 rfl ?_
      refine aw_istore_n (pc := 27) C [(2, .int 0), (0, .ref 13), (1, .ref (200 + i))] dX6_isWord_27 (Nat.le_of_ble_eq_true rfl) rfl ?_
      refine aw_lvs C [0, 1, 2] [(2, .int 0), (0, .ref 13), (1, .ref (200 + i))] rfl ?_
      refine aw_conv (σ' := σ) (lv' := [(2, .int (nI 0)), (0, .ref 13), (1, .ref (200 + i))]) rfl rfl rfl ?_
      refine loop_up (P := fun k => ∀ (hm : mt (σ.1 11) (fr (σ.1 11) t p) (wordB q.2.2) k = true), AW _ K _ (σ) 28 [(2, .int (nI k)), (0, .ref 13), (1, .ref (200 + i))] []) ((wordB q.2.2).length) ?_ ?_ 0 (by omega) rfl
      · intro hm
        refine aw_iload_n (pc := 28) C 0 dX6_isWord_28 rfl ?_
        refine aw_aload_n (pc := 29) C 2 dX6_isWord_29 rfl ?_
        refine aw_cWI (pc := 30) C (c_J0_length _ i q hq ) lk_X6_48 hq rfl dX6_isWord_30 (by decide) (Nat.le_of_ble_eq_true rfl) rfl rfl ?_
        refine aw_icmp_geN (pc := 33) C ((wordB q.2.2).length) ((wordB q.2.2).length) 63 rfl rfl (by omega) (by omega) dX6_isWord_33 (by decide) (fun h33 => ?_) (fun h33 => absurd h33 (by omega))
        refine aw_iconst (pc := 63) (v := 1) C dX6_isWord_63 rfl ?_
        exact aw_zret (pc := 64) C rfl rfl dX6_isWord_64 (b2i_t (wdB_iff.mpr ⟨(ctk1 hpt).mp h5, h21, hm⟩)).symm rfl
      · intro k hk28 ih28 hm
        refine aw_iload_n (pc := 28) C 0 dX6_isWord_28 rfl ?_
        refine aw_aload_n (pc := 29) C 2 dX6_isWord_29 rfl ?_
        refine aw_cWI (pc := 30) C (c_J0_length _ i q hq ) lk_X6_48 hq rfl dX6_isWord_30 (by decide) (Nat.le_of_ble_eq_true rfl) rfl rfl ?_
        refine aw_icmp_geN (pc := 33) C k ((wordB q.2.2).length) 63 rfl rfl (by omega) (by omega) dX6_isWord_33 (by decide) (fun h33 => absurd h33 (by omega)) (fun h33 => ?_)
        refine aw_aload_n (pc := 36) C 1 dX6_isWord_36 rfl ?_
        refine aw_getR (pc := 37) C fl_X6_9 sh13 rfl dX6_isWord_37 ?_
        refine aw_aload_n (pc := 40) C 1 dX6_isWord_40 rfl ?_
        refine aw_gld (pc := 41) C (σ.1 13 2) fl_X6_25 sh13 rfl dX6_isWord_41 rfl ?_
        refine aw_top C (nI (fr (σ.1 11) t p)) hA.2.2.2.2.1 ?_
        refine aw_iload_n (pc := 44) C 0 dX6_isWord_44 rfl ?_
        refine aw_iaddN (pc := 45) C (fr (σ.1 11) t p) k rfl rfl dX6_isWord_45 ?_
        refine aw_ild (pc := 46) (k := (fr (σ.1 11) t p) + k) C ((fr (σ.1 11) t p) + k) (σ.1 11 ((fr (σ.1 11) t p) + k)) sh14 dX6_isWord_46 rfl (by omega) rfl rfl ?_
        refine aw_aload_n (pc := 47) C 2 dX6_isWord_47 rfl ?_
        refine aw_iload_n (pc := 48) C 0 dX6_isWord_48 rfl ?_
        refine aw_cWI (pc := 49) C (c_J0_charAt _ i q hq k (by omega)) lk_X6_54 hq rfl dX6_isWord_49 (by decide) (Nat.le_of_ble_eq_true rfl) rfl rfl ?_
        refine aw_icmp_eq (pc := 52) C 57 dX6_isWord_52 (by decide) (fun h52 => ?_) (fun h52 => ?_)
        · refine aw_iincN (pc := 57) C 0 k [(2, .int (nI (k + 1))), (0, .ref 13), (1, .ref (200 + i))] dX6_isWord_57 rfl rfl rfl (Nat.le_of_ble_eq_true rfl) rfl ?_
          refine aw_goto (pc := 60) C 28 dX6_isWord_60 (by decide) ?_
          refine aw_lvs C [0, 1, 2] [(2, .int (nI (k + 1))), (0, .ref 13), (1, .ref (200 + i))] rfl ?_
          exact aw_conv (σ' := σ) (lv' := [(2, .int (nI (k + 1))), (0, .ref 13), (1, .ref (200 + i))]) rfl rfl rfl (ih28 (mt_s.mpr ⟨hm, h52⟩))
        · refine aw_iconst (pc := 55) (v := 0) C dX6_isWord_55 rfl ?_
          exact aw_zret (pc := 56) C rfl rfl dX6_isWord_56 (b2i_f (fun z => h52 (mt_s.mp (mt_mono (k := k + 1) (by omega) (wdB_iff.mp z).2.2)).2)).symm rfl
    · refine aw_iconst (pc := 24) (v := 0) C dX6_isWord_24 rfl ?_
      exact aw_zret (pc := 25) C rfl rfl dX6_isWord_25 (b2i_f (fun z => h21 (wdB_iff.mp z).2.1)).symm rfl
theorem c_X6_adv (σ : St) (t p : Nat) (hA : CTK (σ.1 13) (σ.1 11) t p) (hK : TpOk (σ.1 11) (σ.1 12) t) : AMet Y_X6_advance [.ref 13] σ (fun r s => ∃ φ, CTK φ (σ.1 11) t (too (σ.1 11) t p) ∧ r = none ∧ s = setR σ 13 φ) := am_mono (c_X6_advance σ t hA.2.2.1 hA.1 hK (too (σ.1 11) t p) hA.2.2.2.2.2 (too_le hA.2.1)) (fun w s h => ⟨_, hA.next, h.1, h.2⟩)
theorem c_X6_rewind (σ : St) (t : Nat) (ht : σ.1 13 0 = nI t) (h120 : t ≤ 120) (hK : TpOk (σ.1 11) (σ.1 12) t) : AMet Y_X6_rewind [.ref 13] σ (fun r s => ∃ φ, CTK φ (σ.1 11) t 0 ∧ r = none ∧ s = setR σ 13 φ) := by
  refine am_intro (by decide +kernel) (Nat.le_of_ble_eq_true rfl) (fun K C => ?_)
  refine aw_aload_n (pc := 0) C 0 dX6_rewind_0 rfl ?_
  refine aw_iconst (pc := 1) (v := 0) C dX6_rewind_1 rfl ?_
  refine aw_pst (pc := 2) C (setR σ 13 (upd (σ.1 13) 3 (0))) fp_X6_28 sh13 rfl dX6_rewind_2 rfl ?_
  refine aw_aload_n (pc := 5) C 0 dX6_rewind_5 rfl ?_
  refine aw_cV0 (pc := 6) C (c_X6_advance _ t (by simp (disch := omega) only [setR_at, setR_twice, setL_at, setL_twice, setR_2, setL_1, setR_ne, setL_ne, ne_eq, Nat.reduceEqDiff, not_false_eq_true, pk_us, pk_un]; exact ht) h120 (by simp (disch := omega) only [setR_at, setR_twice, setL_at, setL_twice, setR_2, setL_1, setR_ne, setL_ne, ne_eq, Nat.reduceEqDiff, not_false_eq_true, pk_us, pk_un]; exact hK) 0 (by simp (disch := omega) only [setR_at, setR_twice, setL_at, setL_twice, setR_2, setL_1, setR_ne, setL_ne, ne_eq, Nat.reduceEqDiff, not_false_eq_true, pk_us, pk_un] <;> rfl) (by omega) ) lk_X6_39 sh13 rfl dX6_rewind_6 (by decide) (Nat.le_of_ble_eq_true rfl) rfl rfl ?_
  refine aw_conv (σ' := setR σ 13 (tapR (upd (σ.1 13) 3 0) (σ.1 11) t 0)) (st' := []) (by first | with_reducible rfl | (simp (disch := omega) only [setR_at, setR_twice, setL_at, setL_twice, setR_2, setL_1, setR_ne, setL_ne, ne_eq, Nat.reduceEqDiff, not_false_eq_true, pk_us, pk_un]; done) | (simp (disch := omega) only [setR_at, setR_twice, setL_at, setL_twice, setR_2, setL_1, setR_ne, setL_ne, ne_eq, Nat.reduceEqDiff, not_false_eq_true, pk_us, pk_un, Option.toList_some, Option.toList_none, List.cons_append, List.nil_append]; done) | ((try simp (disch := omega) only [setR_at, setR_twice, setL_at, setL_twice, setR_2, setL_1, setR_ne, setL_ne, ne_eq, Nat.reduceEqDiff, not_false_eq_true, pk_us, pk_un]); refine Prod.ext (funext fun z => ?_) rfl; simp only [setR]; (repeat' split) <;> first | with_reducible rfl | (exfalso; omega)) | rfl) rfl (by first | with_reducible rfl | (simp (disch := omega) only [setR_at, setR_twice, setL_at, setL_twice, setR_2, setL_1, setR_ne, setL_ne, ne_eq, Nat.reduceEqDiff, not_false_eq_true, pk_us, pk_un]; done) | (simp (disch := omega) only [setR_at, setR_twice, setL_at, setL_twice, setR_2, setL_1, setR_ne, setL_ne, ne_eq, Nat.reduceEqDiff, not_false_eq_true, pk_us, pk_un, Option.toList_some, Option.toList_none, List.cons_append, List.nil_append]; done) | ((try simp (disch := omega) only [setR_at, setR_twice, setL_at, setL_twice, setR_2, setL_1, setR_ne, setL_ne, ne_eq, Nat.reduceEqDiff, not_false_eq_true, pk_us, pk_un]); refine Prod.ext (funext fun z => ?_) rfl; simp only [setR]; (repeat' split) <;> first | with_reducible rfl | (exfalso; omega)) | rfl) ?_
  exact aw_vretP (pc := 9) C rfl dX6_rewind_9 ⟨tapR (upd (σ.1 13) 3 0) (σ.1 11) t 0, ⟨h120, by omega, ht, rfl, rfl, rfl⟩, rfl, rfl⟩
