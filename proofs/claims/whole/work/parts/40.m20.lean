/-! the reference: words, numbers, signs -/
theorem c_X9_isWord (σ : St) (t p : Nat) (hA : TK (σ.1 23) (σ.1 29) t p 0) (i : Nat) (q : String × Nat × Nat) (hq : STR[i]? = some q) : AMet Y_X9_isWord [.ref 73, .ref (200 + i)] σ (fz (some (.int (b2i (wdB (σ.1 29) t p q.2.2 = true)))) (σ)) := by
  refine am_intro (by decide +kernel) (Nat.le_of_ble_eq_true rfl) (fun K C => ?_)
  have hA1 := hA.1
  have hpt := hA.2.1
  have htl := too_le (b := σ.1 29) hpt
  have hge := too_ge (b := σ.1 29) (t := t) (p := p)
  have hfl := fr_le (b := σ.1 29) hpt
  have hwl := word_len hq
  refine aw_aload_n (pc := 0) C 0 dX9_isWord_0 rfl ?_
  refine aw_gld (pc := 1) C (σ.1 23 6) fl_X9_244 sh73 rfl dX9_isWord_1 rfl ?_
  refine aw_top C (0) hA.2.2.2.2.2.2.2 ?_
  refine aw_if_ne (pc := 4) C 35 dX9_isWord_4 (by decide) (fun h4 => absurd h4 (by decide)) (fun h4 => ?_)
  refine aw_aload_n (pc := 7) C 0 dX9_isWord_7 rfl ?_
  refine aw_gld (pc := 8) C (σ.1 23 2) fl_X9_241 sh73 rfl dX9_isWord_8 rfl ?_
  refine aw_top C (srt (σ.1 29) t p) (hA.2.2.2.1) ?_
  refine aw_iconst (pc := 11) (v := 1) C dX9_isWord_11 rfl ?_
  refine aw_icmp_ne (pc := 12) C 35 dX9_isWord_12 (by decide) (fun h12 => ?_) (fun h12 => ?_)
  · refine aw_iconst (pc := 35) (v := 0) C dX9_isWord_35 rfl ?_
    refine aw_istore_n (pc := 36) C [(2, .int 0), (0, .ref 73), (1, .ref (200 + i))] dX9_isWord_36 (Nat.le_of_ble_eq_true rfl) rfl ?_
    refine aw_iconst (pc := 37) (v := 0) C dX9_isWord_37 rfl ?_
    refine aw_istore_n (pc := 38) C [(3, .int 0), (2, .int 0), (0, .ref 73), (1, .ref (200 + i))] dX9_isWord_38 (Nat.le_of_ble_eq_true rfl) rfl ?_
    refine aw_iload_n (pc := 39) C 1 dX9_isWord_39 rfl ?_
    refine aw_if_eq (pc := 40) C 82 dX9_isWord_40 (by decide) (fun h40 => ?_) (fun h40 => absurd h40 (by decide))
    refine aw_iload_n (pc := 82) C 1 dX9_isWord_82 rfl ?_
    exact aw_zret (pc := 83) C rfl rfl dX9_isWord_83 (b2i_f (fun z => h12 (wdB_iff.mp z).1)).symm rfl
  · refine aw_aload_n (pc := 15) C 0 dX9_isWord_15 rfl ?_
    refine aw_gld (pc := 16) C (σ.1 23 4) fl_X9_228 sh73 rfl dX9_isWord_16 rfl ?_
    refine aw_top C (nI (too (σ.1 29) t p)) hA.2.2.2.2.2.1 ?_
    refine aw_aload_n (pc := 19) C 0 dX9_isWord_19 rfl ?_
    refine aw_gld (pc := 20) C (σ.1 23 3) fl_X9_231 sh73 rfl dX9_isWord_20 rfl ?_
    refine aw_top C (nI (fr (σ.1 29) t p)) hA.2.2.2.2.1 ?_
    refine aw_isubN (pc := 23) C (too (σ.1 29) t p) (fr (σ.1 29) t p) rfl rfl hge dX9_isWord_23 ?_
    refine aw_aload_n (pc := 24) C 1 dX9_isWord_24 rfl ?_
    refine aw_cWI (pc := 25) C (c_J0_length _ i q hq ) lk_X9_248 hq rfl dX9_isWord_25 (by decide) (Nat.le_of_ble_eq_true rfl) rfl rfl ?_
    refine aw_icmp_neN (pc := 28) C ((too (σ.1 29) t p) - (fr (σ.1 29) t p)) ((wordB q.2.2).length) 35 rfl rfl (by omega) (by omega) dX9_isWord_28 (by decide) (fun h28 => ?_) (fun h28 => ?_)
    · refine aw_iconst (pc := 35) (v := 0) C dX9_isWord_35 rfl ?_
      refine aw_istore_n (pc := 36) C [(2, .int 0), (0, .ref 73), (1, .ref (200 + i))] dX9_isWord_36 (Nat.le_of_ble_eq_true rfl) rfl ?_
      refine aw_iconst (pc := 37) (v := 0) C dX9_isWord_37 rfl ?_
      refine aw_istore_n (pc := 38) C [(3, .int 0), (2, .int 0), (0, .ref 73), (1, .ref (200 + i))] dX9_isWord_38 (Nat.le_of_ble_eq_true rfl) rfl ?_
      refine aw_iload_n (pc := 39) C 1 dX9_isWord_39 rfl ?_
      refine aw_if_eq (pc := 40) C 82 dX9_isWord_40 (by decide) (fun h40 => ?_) (fun h40 => absurd h40 (by decide))
      refine aw_iload_n (pc := 82) C 1 dX9_isWord_82 rfl ?_
      exact aw_zret (pc := 83) C rfl rfl dX9_isWord_83 (b2i_f (fun z => h28 (wdB_iff.mp z).2.1)).symm rfl
    · refine aw_iconst (pc := 31) (v := 1) C dX9_isWord_31 rfl ?_
      refine aw_goto (pc := 32) C 36 dX9_isWord_32 (by decide) ?_
      refine aw_istore_n (pc := 36) C [(2, .int 1), (0, .ref 73), (1, .ref (200 + i))] dX9_isWord_36 (Nat.le_of_ble_eq_true rfl) rfl ?_
      refine aw_iconst (pc := 37) (v := 0) C dX9_isWord_37 rfl ?_
      refine aw_istore_n (pc := 38) C [(3, .int 0), (2, .int 1), (0, .ref 73), (1, .ref (200 + i))] dX9_isWord_38 (Nat.le_of_ble_eq_true rfl) rfl ?_
      refine aw_lvs C [0, 1, 2, 3] [(3, .int 0), (2, .int 1), (0, .ref 73), (1, .ref (200 + i))] rfl ?_
      refine aw_conv (σ' := σ) (lv' := [(3, .int (nI 0)), (2, .int (b2i (mt (σ.1 29) (fr (σ.1 29) t p) (wordB q.2.2) 0 = true))), (0, .ref 73), (1, .ref (200 + i))]) rfl rfl rfl ?_
      refine loop_up (P := fun k => AW _ K _ (σ) 39 [(3, .int (nI k)), (2, .int (b2i (mt (σ.1 29) (fr (σ.1 29) t p) (wordB q.2.2) k = true))), (0, .ref 73), (1, .ref (200 + i))] []) ((wordB q.2.2).length) ?_ ?_ 0 (by omega) 
      · refine aw_iload_n (pc := 39) C 1 dX9_isWord_39 rfl ?_
        refine aw_if_eqB (pc := 40) C 82 dX9_isWord_40 (by decide) (fun h40 => ?_) (fun h40 => ?_)
        · refine aw_iload_n (pc := 82) C 1 dX9_isWord_82 rfl ?_
          exact aw_zret (pc := 83) C rfl (b2i_nar _) dX9_isWord_83 ((b2i_f h40).trans (b2i_f (fun z => h40 (mt_mono (by omega) (wdB_iff.mp z).2.2))).symm) rfl
        · refine aw_iload_n (pc := 43) C 0 dX9_isWord_43 rfl ?_
          refine aw_aload_n (pc := 44) C 3 dX9_isWord_44 rfl ?_
          refine aw_cWI (pc := 45) C (c_J0_length _ i q hq ) lk_X9_248 hq rfl dX9_isWord_45 (by decide) (Nat.le_of_ble_eq_true rfl) rfl rfl ?_
          refine aw_icmp_geN (pc := 48) C ((wordB q.2.2).length) ((wordB q.2.2).length) 82 rfl rfl (by omega) (by omega) dX9_isWord_48 (by decide) (fun h48 => ?_) (fun h48 => absurd h48 (by omega))
          refine aw_iload_n (pc := 82) C 1 dX9_isWord_82 rfl ?_
          exact aw_zret (pc := 83) C rfl (b2i_nar _) dX9_isWord_83 (b2i_cong ⟨fun z => wdB_iff.mpr ⟨h12, h28, z⟩, fun z => (wdB_iff.mp z).2.2⟩) rfl
      · intro k hk39 ih39 
        refine aw_iload_n (pc := 39) C 1 dX9_isWord_39 rfl ?_
        refine aw_if_eqB (pc := 40) C 82 dX9_isWord_40 (by decide) (fun h40 => ?_) (fun h40 => ?_)
        · refine aw_iload_n (pc := 82) C 1 dX9_isWord_82 rfl ?_
          exact aw_zret (pc := 83) C rfl (b2i_nar _) dX9_isWord_83 ((b2i_f h40).trans (b2i_f (fun z => h40 (mt_mono (by omega) (wdB_iff.mp z).2.2))).symm) rfl
        · refine aw_iload_n (pc := 43) C 0 dX9_isWord_43 rfl ?_
          refine aw_aload_n (pc := 44) C 3 dX9_isWord_44 rfl ?_
          refine aw_cWI (pc := 45) C (c_J0_length _ i q hq ) lk_X9_248 hq rfl dX9_isWord_45 (by decide) (Nat.le_of_ble_eq_true rfl) rfl rfl ?_
          refine aw_icmp_geN (pc := 48) C k ((wordB q.2.2).length) 82 rfl rfl (by omega) (by omega) dX9_isWord_48 (by decide) (fun h48 => absurd h48 (by omega)) (fun h48 => ?_)
          refine aw_aload_n (pc := 51) C 2 dX9_isWord_51 rfl ?_
          refine aw_getR (pc := 52) C fl_X9_34 sh73 rfl dX9_isWord_52 ?_
          refine aw_aload_n (pc := 55) C 2 dX9_isWord_55 rfl ?_
          refine aw_gld (pc := 56) C (σ.1 23 3) fl_X9_231 sh73 rfl dX9_isWord_56 rfl ?_
          refine aw_top C (nI (fr (σ.1 29) t p)) hA.2.2.2.2.1 ?_
          refine aw_iload_n (pc := 59) C 0 dX9_isWord_59 rfl ?_
          refine aw_iaddN (pc := 60) C (fr (σ.1 29) t p) k rfl rfl dX9_isWord_60 ?_
          refine aw_ild (pc := 61) (k := (fr (σ.1 29) t p) + k) C ((fr (σ.1 29) t p) + k) (σ.1 29 ((fr (σ.1 29) t p) + k)) sh82 dX9_isWord_61 rfl (by omega) rfl rfl ?_
          refine aw_aload_n (pc := 62) C 3 dX9_isWord_62 rfl ?_
          refine aw_iload_n (pc := 63) C 0 dX9_isWord_63 rfl ?_
          refine aw_cWI (pc := 64) C (c_J0_charAt _ i q hq k (by omega)) lk_X9_253 hq rfl dX9_isWord_64 (by decide) (Nat.le_of_ble_eq_true rfl) rfl rfl ?_
          refine aw_icmp_ne (pc := 67) C 74 dX9_isWord_67 (by decide) (fun h67 => ?_) (fun h67 => ?_)
          · refine aw_iconst (pc := 74) (v := 0) C dX9_isWord_74 rfl ?_
            refine aw_top C (b2i (mt (σ.1 29) (fr (σ.1 29) t p) (wordB q.2.2) (k + 1) = true)) (b2i_f (fun z => h67 (mt_s.mp z).2)).symm ?_
            refine aw_istore_n (pc := 75) C [(2, .int (b2i (mt (σ.1 29) (fr (σ.1 29) t p) (wordB q.2.2) (k + 1) = true))), (3, .int (nI k)), (0, .ref 73), (1, .ref (200 + i))] dX9_isWord_75 (Nat.le_of_ble_eq_true rfl) rfl ?_
            refine aw_iincN (pc := 76) C 1 k [(3, .int (nI (k + 1))), (2, .int (b2i (mt (σ.1 29) (fr (σ.1 29) t p) (wordB q.2.2) (k + 1) = true))), (0, .ref 73), (1, .ref (200 + i))] dX9_isWord_76 rfl rfl rfl (Nat.le_of_ble_eq_true rfl) rfl ?_
            refine aw_goto (pc := 79) C 39 dX9_isWord_79 (by decide) ?_
            refine aw_lvs C [0, 1, 2, 3] [(3, .int (nI (k + 1))), (2, .int (b2i (mt (σ.1 29) (fr (σ.1 29) t p) (wordB q.2.2) (k + 1) = true))), (0, .ref 73), (1, .ref (200 + i))] rfl ?_
            exact aw_conv (σ' := σ) (lv' := [(3, .int (nI (k + 1))), (2, .int (b2i (mt (σ.1 29) (fr (σ.1 29) t p) (wordB q.2.2) (k + 1) = true))), (0, .ref 73), (1, .ref (200 + i))]) rfl rfl rfl ih39
          · refine aw_iconst (pc := 70) (v := 1) C dX9_isWord_70 rfl ?_
            refine aw_goto (pc := 71) C 75 dX9_isWord_71 (by decide) ?_
            refine aw_top C (b2i (mt (σ.1 29) (fr (σ.1 29) t p) (wordB q.2.2) (k + 1) = true)) (b2i_t (mt_s.mpr ⟨h40, h67⟩)).symm ?_
            refine aw_istore_n (pc := 75) C [(2, .int (b2i (mt (σ.1 29) (fr (σ.1 29) t p) (wordB q.2.2) (k + 1) = true))), (3, .int (nI k)), (0, .ref 73), (1, .ref (200 + i))] dX9_isWord_75 (Nat.le_of_ble_eq_true rfl) rfl ?_
            refine aw_iincN (pc := 76) C 1 k [(3, .int (nI (k + 1))), (2, .int (b2i (mt (σ.1 29) (fr (σ.1 29) t p) (wordB q.2.2) (k + 1) = true))), (0, .ref 73), (1, .ref (200 + i))] dX9_isWord_76 rfl rfl rfl (Nat.le_of_ble_eq_true rfl) rfl ?_
            refine aw_goto (pc := 79) C 39 dX9_isWord_79 (by decide) ?_
            refine aw_lvs C [0, 1, 2, 3] [(3, .int (nI (k + 1))), (2, .int (b2i (mt (σ.1 29) (fr (σ.1 29) t p) (wordB q.2.2) (k + 1) = true))), (0, .ref 73), (1, .ref (200 + i))] rfl ?_
            exact aw_conv (σ' := σ) (lv' := [(3, .int (nI (k + 1))), (2, .int (b2i (mt (σ.1 29) (fr (σ.1 29) t p) (wordB q.2.2) (k + 1) = true))), (0, .ref 73), (1, .ref (200 + i))]) rfl rfl rfl ih39
theorem c_X9_isWord_b (σ : St) (hB : σ.1 23 6 = 1) (i : Nat) (q : String × Nat × Nat) (hq : STR[i]? = some q) : AMet Y_X9_isWord [.ref 73, .ref (200 + i)] σ (fz (some (.int 0)) (σ)) := by
  refine am_intro (by decide +kernel) (Nat.le_of_ble_eq_true rfl) (fun K C => ?_)
  refine aw_aload_n (pc := 0) C 0 dX9_isWord_0 rfl ?_
  refine aw_gld (pc := 1) C (σ.1 23 6) fl_X9_244 sh73 rfl dX9_isWord_1 rfl ?_
  refine aw_top C (1) hB ?_
  refine aw_if_ne (pc := 4) C 35 dX9_isWord_4 (by decide) (fun h4 => ?_) (fun h4 => absurd h4 (by decide))
  refine aw_iconst (pc := 35) (v := 0) C dX9_isWord_35 rfl ?_
  refine aw_istore_n (pc := 36) C [(2, .int 0), (0, .ref 73), (1, .ref (200 + i))] dX9_isWord_36 (Nat.le_of_ble_eq_true rfl) rfl ?_
  refine aw_iconst (pc := 37) (v := 0) C dX9_isWord_37 rfl ?_
  refine aw_istore_n (pc := 38) C [(3, .int 0), (2, .int 0), (0, .ref 73), (1, .ref (200 + i))] dX9_isWord_38 (Nat.le_of_ble_eq_true rfl) rfl ?_
  refine aw_iload_n (pc := 39) C 1 dX9_isWord_39 rfl ?_
  refine aw_if_eq (pc := 40) C 82 dX9_isWord_40 (by decide) (fun h40 => ?_) (fun h40 => absurd h40 (by decide))
  refine aw_iload_n (pc := 82) C 1 dX9_isWord_82 rfl ?_
  exact aw_zret (pc := 83) C rfl rfl dX9_isWord_83 rfl rfl
