/-! the reference: what takes TOKENS -/
theorem c_X9_tok (σ : St) (t p : Nat) (hA : TK (σ.1 23) (σ.1 29) t p 0) : AMet Y_X9_token [.ref 73] σ (TokO σ t p) := am_mono (c_X9_token σ t hA.2.2.1 hA.1 (too (σ.1 29) t p) hA.2.2.2.2.2.1 (too_le hA.2.1)) (fun w s h => ⟨_, hA.next, rfl, h.1, h.2⟩)
theorem c_X9_takesW (σ : St) (t p : Nat) (hA : TK (σ.1 23) (σ.1 29) t p 0) (i : Nat) (q : String × Nat × Nat) (hq : STR[i]? = some q) : AMet Y_X9_takes_ [.ref 73, .ref (200 + i)] σ (TakesO σ t p q.2.2) := by
  refine am_intro (by decide +kernel) (Nat.le_of_ble_eq_true rfl) (fun K C => ?_)
  refine aw_aload_n (pc := 0) C 0 dX9_takes__0 rfl ?_
  refine aw_aload_n (pc := 1) C 1 dX9_takes__1 rfl ?_
  refine aw_cVI (pc := 2) C (c_X9_isWord _ t p hA i q hq ) lk_X9_257 sh73 rfl dX9_takes__2 (by decide) (Nat.le_of_ble_eq_true rfl) rfl rfl ?_
  refine aw_if_neB (pc := 5) C 10 dX9_takes__5 (by decide) (fun h5 => ?_) (fun h5 => ?_)
  · refine aw_aload_n (pc := 10) C 0 dX9_takes__10 rfl ?_
    refine aw_callV (pc := 11) C (c_X9_tok _ t p hA ) lk_X9_261 sh73 rfl (by decide) rfl (Nat.le_of_ble_eq_true rfl) dX9_takes__11 rfl (fun w s hq => ?_)
    rcases hq with ⟨φ11, hφ11, h011, rfl, rfl⟩
    have hφ11 : TK φ11 (σ.1 29) t (too (σ.1 29) t p) 0 := hφ11
    have h011 : φ11 0 = σ.1 23 0 := h011
    refine aw_conv (σ' := setR σ 23 (φ11)) (st' := []) (by first | rfl | (simp (disch := omega) only [setR_at, setR_twice, setL_at, setL_twice, setR_2, setL_1, setR_ne, setL_ne, ne_eq, Nat.reduceEqDiff, not_false_eq_true, pk_us, pk_un]; done) | ((try simp (disch := omega) only [setR_at, setR_twice, setL_at, setL_twice, setR_2, setL_1, setR_ne, setL_ne, ne_eq, Nat.reduceEqDiff, not_false_eq_true, pk_us, pk_un]); refine Prod.ext (funext fun z => ?_) rfl; simp only [setR]; (repeat' split) <;> first | rfl | (exfalso; omega))) rfl (by first | rfl | (simp (disch := omega) only [setR_at, setR_twice, setL_at, setL_twice, setR_2, setL_1, setR_ne, setL_ne, ne_eq, Nat.reduceEqDiff, not_false_eq_true, pk_us, pk_un]; done) | ((try simp (disch := omega) only [setR_at, setR_twice, setL_at, setL_twice, setR_2, setL_1, setR_ne, setL_ne, ne_eq, Nat.reduceEqDiff, not_false_eq_true, pk_us, pk_un]); refine Prod.ext (funext fun z => ?_) rfl; simp only [setR]; (repeat' split) <;> first | rfl | (exfalso; omega))) ?_
    refine aw_iconst (pc := 14) (v := 1) C dX9_takes__14 rfl ?_
    exact aw_zretP (pc := 15) C rfl rfl dX9_takes__15 (Or.inl ⟨h5, rfl, φ11, hφ11, h011, rfl⟩)
  · refine aw_iconst (pc := 8) (v := 0) C dX9_takes__8 rfl ?_
    exact aw_zretP (pc := 9) C rfl rfl dX9_takes__9 (Or.inr ⟨h5, rfl, rfl⟩)
theorem c_X9_takesW_b (σ : St) (hB : σ.1 23 6 = 1) (i : Nat) (q : String × Nat × Nat) (hq : STR[i]? = some q) : AMet Y_X9_takes_ [.ref 73, .ref (200 + i)] σ (fz (some (.int 0)) (σ)) := by
  refine am_intro (by decide +kernel) (Nat.le_of_ble_eq_true rfl) (fun K C => ?_)
  refine aw_aload_n (pc := 0) C 0 dX9_takes__0 rfl ?_
  refine aw_aload_n (pc := 1) C 1 dX9_takes__1 rfl ?_
  refine aw_cVI (pc := 2) C (c_X9_isWord_b _ hB i q hq ) lk_X9_257 sh73 rfl dX9_takes__2 (by decide) (Nat.le_of_ble_eq_true rfl) rfl rfl ?_
  refine aw_if_ne (pc := 5) C 10 dX9_takes__5 (by decide) (fun h5 => absurd h5 (by decide)) (fun h5 => ?_)
  refine aw_iconst (pc := 8) (v := 0) C dX9_takes__8 rfl ?_
  exact aw_zret (pc := 9) C rfl rfl dX9_takes__9 rfl rfl
theorem c_X9_isSign (σ : St) (t p : Nat) (hA : TK (σ.1 23) (σ.1 29) t p 0) (c : Int32) : AMet Y_X9_isSign [.ref 73, .int c] σ (fz (some (.int (b2i (srt (σ.1 29) t p = 3 ∧ σ.1 29 (fr (σ.1 29) t p) = c)))) (σ)) := by
  refine am_intro (by decide +kernel) (Nat.le_of_ble_eq_true rfl) (fun K C => ?_)
  have hA1 := hA.1
  have hpt := hA.2.1
  have htl := too_le (b := σ.1 29) hpt
  have hge := too_ge (b := σ.1 29) (t := t) (p := p)
  have hfl := fr_le (b := σ.1 29) hpt
  refine aw_aload_n (pc := 0) C 0 dX9_isSign_0 rfl ?_
  refine aw_gld (pc := 1) C (σ.1 23 6) fl_X9_244 sh73 rfl dX9_isSign_1 rfl ?_
  refine aw_top C (0) hA.2.2.2.2.2.2.2 ?_
  refine aw_if_ne (pc := 4) C 32 dX9_isSign_4 (by decide) (fun h4 => absurd h4 (by decide)) (fun h4 => ?_)
  refine aw_aload_n (pc := 7) C 0 dX9_isSign_7 rfl ?_
  refine aw_gld (pc := 8) C (σ.1 23 2) fl_X9_241 sh73 rfl dX9_isSign_8 rfl ?_
  refine aw_top C (srt (σ.1 29) t p) (hA.2.2.2.1) ?_
  refine aw_iconst (pc := 11) (v := 3) C dX9_isSign_11 rfl ?_
  refine aw_icmp_ne (pc := 12) C 32 dX9_isSign_12 (by decide) (fun h12 => ?_) (fun h12 => ?_)
  · refine aw_iconst (pc := 32) (v := 0) C dX9_isSign_32 rfl ?_
    exact aw_zret (pc := 33) C rfl rfl dX9_isSign_33 (b2i_f (fun z => h12 z.1)).symm rfl
  · have hlt : fr (σ.1 29) t p < t := Nat.lt_of_le_of_ne hfl (fun z => absurd (h12.symm.trans (srt0.mpr z)) (by decide))
    refine aw_aload_n (pc := 15) C 0 dX9_isSign_15 rfl ?_
    refine aw_getR (pc := 16) C fl_X9_34 sh73 rfl dX9_isSign_16 ?_
    refine aw_aload_n (pc := 19) C 0 dX9_isSign_19 rfl ?_
    refine aw_gld (pc := 20) C (σ.1 23 3) fl_X9_231 sh73 rfl dX9_isSign_20 rfl ?_
    refine aw_top C (nI (fr (σ.1 29) t p)) hA.2.2.2.2.1 ?_
    refine aw_ild (pc := 23) (k := fr (σ.1 29) t p) C (fr (σ.1 29) t p) (σ.1 29 (fr (σ.1 29) t p)) sh82 dX9_isSign_23 rfl (by omega) rfl rfl ?_
    refine aw_iload_n (pc := 24) C 1 dX9_isSign_24 rfl ?_
    refine aw_icmp_ne (pc := 25) C 32 dX9_isSign_25 (by decide) (fun h25 => ?_) (fun h25 => ?_)
    · refine aw_iconst (pc := 32) (v := 0) C dX9_isSign_32 rfl ?_
      exact aw_zret (pc := 33) C rfl rfl dX9_isSign_33 (b2i_f (fun z => h25 z.2)).symm rfl
    · refine aw_iconst (pc := 28) (v := 1) C dX9_isSign_28 rfl ?_
      refine aw_goto (pc := 29) C 33 dX9_isSign_29 (by decide) ?_
      exact aw_zret (pc := 33) C rfl rfl dX9_isSign_33 (b2i_t ⟨h12, h25⟩).symm rfl
theorem c_X9_isSign_b (σ : St) (hB : σ.1 23 6 = 1) (c : Int32) : AMet Y_X9_isSign [.ref 73, .int c] σ (fz (some (.int 0)) (σ)) := by
  refine am_intro (by decide +kernel) (Nat.le_of_ble_eq_true rfl) (fun K C => ?_)
  refine aw_aload_n (pc := 0) C 0 dX9_isSign_0 rfl ?_
  refine aw_gld (pc := 1) C (σ.1 23 6) fl_X9_244 sh73 rfl dX9_isSign_1 rfl ?_
  refine aw_top C (1) hB ?_
  refine aw_if_ne (pc := 4) C 32 dX9_isSign_4 (by decide) (fun h4 => ?_) (fun h4 => absurd h4 (by decide))
  refine aw_iconst (pc := 32) (v := 0) C dX9_isSign_32 rfl ?_
  exact aw_zret (pc := 33) C rfl rfl dX9_isSign_33 rfl rfl
theorem c_X9_number (σ : St) (t p : Nat) (hA : TK (σ.1 23) (σ.1 29) t p 0) (lo hi : Int32) : AMet Y_X9_number [.ref 73, .int lo, .int hi] σ (NumO σ t p lo hi) := by
  refine am_intro (by decide +kernel) (Nat.le_of_ble_eq_true rfl) (fun K C => ?_)
  refine aw_aload_n (pc := 0) C 0 dX9_number_0 rfl ?_
  refine aw_aload_n (pc := 1) C 0 dX9_number_1 rfl ?_
  refine aw_gld (pc := 2) C (σ.1 23 6) fl_X9_244 sh73 rfl dX9_number_2 rfl ?_
  refine aw_top C (0) hA.2.2.2.2.2.2.2 ?_
  refine aw_if_ne (pc := 5) C 31 dX9_number_5 (by decide) (fun h5 => absurd h5 (by decide)) (fun h5 => ?_)
  refine aw_aload_n (pc := 8) C 0 dX9_number_8 rfl ?_
  refine aw_gld (pc := 9) C (σ.1 23 2) fl_X9_241 sh73 rfl dX9_number_9 rfl ?_
  refine aw_top C (srt (σ.1 29) t p) (hA.2.2.2.1) ?_
  refine aw_iconst (pc := 12) (v := 2) C dX9_number_12 rfl ?_
  refine aw_icmp_ne (pc := 13) C 31 dX9_number_13 (by decide) (fun h13 => ?_) (fun h13 => ?_)
  · refine aw_iconst (pc := 31) (v := 1) C dX9_number_31 rfl ?_
    refine aw_goto (pc := 32) C 36 dX9_number_32 (by decide) ?_
    refine aw_pstZ (pc := 36) C (setR σ 23 (upd (σ.1 23) 6 (1))) fp_X9_244 sh73 rfl rfl rfl dX9_number_36 rfl ?_
    refine aw_aload_n (pc := 39) C 0 dX9_number_39 rfl ?_
    refine aw_gld (pc := 40) C (σ.1 23 5) fl_X9_238 sh73 rfl dX9_number_40 (by first | rfl | (simp (disch := omega) only [setR_at, setR_twice, setL_at, setL_twice, setR_2, setL_1, setR_ne, setL_ne, ne_eq, Nat.reduceEqDiff, not_false_eq_true, pk_us, pk_un]; done) | ((try simp (disch := omega) only [setR_at, setR_twice, setL_at, setL_twice, setR_2, setL_1, setR_ne, setL_ne, ne_eq, Nat.reduceEqDiff, not_false_eq_true, pk_us, pk_un]); refine Prod.ext (funext fun z => ?_) rfl; simp only [setR]; (repeat' split) <;> first | rfl | (exfalso; omega))) ?_
    refine aw_top C (val (σ.1 29) t p) (hA.2.2.2.2.2.2.1) ?_
    refine aw_istore_n (pc := 43) C [(3, .int (val (σ.1 29) t p)), (0, .ref 73), (1, .int lo), (2, .int hi)] dX9_number_43 (Nat.le_of_ble_eq_true rfl) rfl ?_
    refine aw_aload_n (pc := 44) C 1 dX9_number_44 rfl ?_
    refine aw_gld (pc := 45) C (1) fl_X9_244 sh73 rfl dX9_number_45 (by first | rfl | (simp (disch := omega) only [setR_at, setR_twice, setL_at, setL_twice, setR_2, setL_1, setR_ne, setL_ne, ne_eq, Nat.reduceEqDiff, not_false_eq_true, pk_us, pk_un]; done) | ((try simp (disch := omega) only [setR_at, setR_twice, setL_at, setL_twice, setR_2, setL_1, setR_ne, setL_ne, ne_eq, Nat.reduceEqDiff, not_false_eq_true, pk_us, pk_un]); refine Prod.ext (funext fun z => ?_) rfl; simp only [setR]; (repeat' split) <;> first | rfl | (exfalso; omega))) ?_
    refine aw_if_ne (pc := 48) C 55 dX9_number_48 (by decide) (fun h48 => ?_) (fun h48 => absurd h48 (by decide))
    refine aw_iload_n (pc := 55) C 0 dX9_number_55 rfl ?_
    exact aw_iretP (pc := 56) C rfl dX9_number_56 (Or.inr ⟨fun z => h13 z.1, rfl, _, hA.bad, rfl, rfl⟩)
  · refine aw_aload_n (pc := 16) C 0 dX9_number_16 rfl ?_
    refine aw_gld (pc := 17) C (σ.1 23 5) fl_X9_238 sh73 rfl dX9_number_17 rfl ?_
    refine aw_top C (val (σ.1 29) t p) (hA.2.2.2.2.2.2.1) ?_
    refine aw_i2l (pc := 20) C dX9_number_20 ?_
    refine aw_iload_n (pc := 21) C 1 dX9_number_21 rfl ?_
    refine aw_i2l (pc := 22) C dX9_number_22 ?_
    refine aw_iload_n (pc := 23) C 2 dX9_number_23 rfl ?_
    refine aw_i2l (pc := 24) C dX9_number_24 ?_
    refine aw_cSI (pc := 25) C (c_X9_in _ (val (σ.1 29) t p) lo hi _ _ _ rfl rfl rfl) lk_X9_54 dX9_number_25 (by decide) (Nat.le_of_ble_eq_true rfl) rfl rfl ?_
    refine aw_if_neB (pc := 28) C 35 dX9_number_28 (by decide) (fun h28 => ?_) (fun h28 => ?_)
    · refine aw_iconst (pc := 35) (v := 0) C dX9_number_35 rfl ?_
      refine aw_pstZ (pc := 36) C (setR σ 23 (upd (σ.1 23) 6 (0))) fp_X9_244 sh73 rfl rfl rfl dX9_number_36 rfl ?_
      refine aw_aload_n (pc := 39) C 0 dX9_number_39 rfl ?_
      refine aw_gld (pc := 40) C (σ.1 23 5) fl_X9_238 sh73 rfl dX9_number_40 (by first | rfl | (simp (disch := omega) only [setR_at, setR_twice, setL_at, setL_twice, setR_2, setL_1, setR_ne, setL_ne, ne_eq, Nat.reduceEqDiff, not_false_eq_true, pk_us, pk_un]; done) | ((try simp (disch := omega) only [setR_at, setR_twice, setL_at, setL_twice, setR_2, setL_1, setR_ne, setL_ne, ne_eq, Nat.reduceEqDiff, not_false_eq_true, pk_us, pk_un]); refine Prod.ext (funext fun z => ?_) rfl; simp only [setR]; (repeat' split) <;> first | rfl | (exfalso; omega))) ?_
      refine aw_top C (val (σ.1 29) t p) (hA.2.2.2.2.2.2.1) ?_
      refine aw_istore_n (pc := 43) C [(3, .int (val (σ.1 29) t p)), (0, .ref 73), (1, .int lo), (2, .int hi)] dX9_number_43 (Nat.le_of_ble_eq_true rfl) rfl ?_
      refine aw_aload_n (pc := 44) C 1 dX9_number_44 rfl ?_
      refine aw_gld (pc := 45) C (0) fl_X9_244 sh73 rfl dX9_number_45 (by first | rfl | (simp (disch := omega) only [setR_at, setR_twice, setL_at, setL_twice, setR_2, setL_1, setR_ne, setL_ne, ne_eq, Nat.reduceEqDiff, not_false_eq_true, pk_us, pk_un]; done) | ((try simp (disch := omega) only [setR_at, setR_twice, setL_at, setL_twice, setR_2, setL_1, setR_ne, setL_ne, ne_eq, Nat.reduceEqDiff, not_false_eq_true, pk_us, pk_un]); refine Prod.ext (funext fun z => ?_) rfl; simp only [setR]; (repeat' split) <;> first | rfl | (exfalso; omega))) ?_
      refine aw_if_ne (pc := 48) C 55 dX9_number_48 (by decide) (fun h48 => absurd h48 (by decide)) (fun h48 => ?_)
      refine aw_conv (σ' := σ) (by rw [hA.good, setR_same]) rfl rfl ?_
      refine aw_aload_n (pc := 51) C 1 dX9_number_51 rfl ?_
      refine aw_callV (pc := 52) C (c_X9_tok _ t p hA ) lk_X9_261 sh73 rfl (by decide) rfl (Nat.le_of_ble_eq_true rfl) dX9_number_52 rfl (fun w s hq => ?_)
      rcases hq with ⟨φ52, hφ52, h052, rfl, rfl⟩
      have hφ52 : TK φ52 (σ.1 29) t (too (σ.1 29) t p) 0 := hφ52
      have h052 : φ52 0 = σ.1 23 0 := h052
      refine aw_conv (σ' := setR σ 23 (φ52)) (st' := []) (by first | rfl | (simp (disch := omega) only [setR_at, setR_twice, setL_at, setL_twice, setR_2, setL_1, setR_ne, setL_ne, ne_eq, Nat.reduceEqDiff, not_false_eq_true, pk_us, pk_un]; done) | ((try simp (disch := omega) only [setR_at, setR_twice, setL_at, setL_twice, setR_2, setL_1, setR_ne, setL_ne, ne_eq, Nat.reduceEqDiff, not_false_eq_true, pk_us, pk_un]); refine Prod.ext (funext fun z => ?_) rfl; simp only [setR]; (repeat' split) <;> first | rfl | (exfalso; omega))) rfl (by first | rfl | (simp (disch := omega) only [setR_at, setR_twice, setL_at, setL_twice, setR_2, setL_1, setR_ne, setL_ne, ne_eq, Nat.reduceEqDiff, not_false_eq_true, pk_us, pk_un]; done) | ((try simp (disch := omega) only [setR_at, setR_twice, setL_at, setL_twice, setR_2, setL_1, setR_ne, setL_ne, ne_eq, Nat.reduceEqDiff, not_false_eq_true, pk_us, pk_un]); refine Prod.ext (funext fun z => ?_) rfl; simp only [setR]; (repeat' split) <;> first | rfl | (exfalso; omega))) ?_
      refine aw_iload_n (pc := 55) C 0 dX9_number_55 rfl ?_
      exact aw_iretP (pc := 56) C rfl dX9_number_56 (Or.inl ⟨⟨h13, h28⟩, rfl, φ52, hφ52, h052, rfl⟩)
    · refine aw_iconst (pc := 31) (v := 1) C dX9_number_31 rfl ?_
      refine aw_goto (pc := 32) C 36 dX9_number_32 (by decide) ?_
      refine aw_pstZ (pc := 36) C (setR σ 23 (upd (σ.1 23) 6 (1))) fp_X9_244 sh73 rfl rfl rfl dX9_number_36 rfl ?_
      refine aw_aload_n (pc := 39) C 0 dX9_number_39 rfl ?_
      refine aw_gld (pc := 40) C (σ.1 23 5) fl_X9_238 sh73 rfl dX9_number_40 (by first | rfl | (simp (disch := omega) only [setR_at, setR_twice, setL_at, setL_twice, setR_2, setL_1, setR_ne, setL_ne, ne_eq, Nat.reduceEqDiff, not_false_eq_true, pk_us, pk_un]; done) | ((try simp (disch := omega) only [setR_at, setR_twice, setL_at, setL_twice, setR_2, setL_1, setR_ne, setL_ne, ne_eq, Nat.reduceEqDiff, not_false_eq_true, pk_us, pk_un]); refine Prod.ext (funext fun z => ?_) rfl; simp only [setR]; (repeat' split) <;> first | rfl | (exfalso; omega))) ?_
      refine aw_top C (val (σ.1 29) t p) (hA.2.2.2.2.2.2.1) ?_
      refine aw_istore_n (pc := 43) C [(3, .int (val (σ.1 29) t p)), (0, .ref 73), (1, .int lo), (2, .int hi)] dX9_number_43 (Nat.le_of_ble_eq_true rfl) rfl ?_
      refine aw_aload_n (pc := 44) C 1 dX9_number_44 rfl ?_
      refine aw_gld (pc := 45) C (1) fl_X9_244 sh73 rfl dX9_number_45 (by first | rfl | (simp (disch := omega) only [setR_at, setR_twice, setL_at, setL_twice, setR_2, setL_1, setR_ne, setL_ne, ne_eq, Nat.reduceEqDiff, not_false_eq_true, pk_us, pk_un]; done) | ((try simp (disch := omega) only [setR_at, setR_twice, setL_at, setL_twice, setR_2, setL_1, setR_ne, setL_ne, ne_eq, Nat.reduceEqDiff, not_false_eq_true, pk_us, pk_un]); refine Prod.ext (funext fun z => ?_) rfl; simp only [setR]; (repeat' split) <;> first | rfl | (exfalso; omega))) ?_
      refine aw_if_ne (pc := 48) C 55 dX9_number_48 (by decide) (fun h48 => ?_) (fun h48 => absurd h48 (by decide))
      refine aw_iload_n (pc := 55) C 0 dX9_number_55 rfl ?_
      exact aw_iretP (pc := 56) C rfl dX9_number_56 (Or.inr ⟨fun z => h28 z.2, rfl, _, hA.bad, rfl, rfl⟩)
theorem c_X9_number_b (σ : St) (hB : σ.1 23 6 = 1) (lo hi : Int32) : AMet Y_X9_number [.ref 73, .int lo, .int hi] σ (fz (some (.int (σ.1 23 5))) (σ)) := by
  refine am_intro (by decide +kernel) (Nat.le_of_ble_eq_true rfl) (fun K C => ?_)
  refine aw_aload_n (pc := 0) C 0 dX9_number_0 rfl ?_
  refine aw_aload_n (pc := 1) C 0 dX9_number_1 rfl ?_
  refine aw_gld (pc := 2) C (σ.1 23 6) fl_X9_244 sh73 rfl dX9_number_2 rfl ?_
  refine aw_top C (1) hB ?_
  refine aw_if_ne (pc := 5) C 31 dX9_number_5 (by decide) (fun h5 => ?_) (fun h5 => absurd h5 (by decide))
  refine aw_iconst (pc := 31) (v := 1) C dX9_number_31 rfl ?_
  refine aw_goto (pc := 32) C 36 dX9_number_32 (by decide) ?_
  refine aw_pstZ (pc := 36) C (setR σ 23 (upd (σ.1 23) 6 (1))) fp_X9_244 sh73 rfl rfl rfl dX9_number_36 rfl ?_
  refine aw_aload_n (pc := 39) C 0 dX9_number_39 rfl ?_
  refine aw_gld (pc := 40) C (σ.1 23 5) fl_X9_238 sh73 rfl dX9_number_40 (by first | rfl | (simp (disch := omega) only [setR_at, setR_twice, setL_at, setL_twice, setR_2, setL_1, setR_ne, setL_ne, ne_eq, Nat.reduceEqDiff, not_false_eq_true, pk_us, pk_un]; done) | ((try simp (disch := omega) only [setR_at, setR_twice, setL_at, setL_twice, setR_2, setL_1, setR_ne, setL_ne, ne_eq, Nat.reduceEqDiff, not_false_eq_true, pk_us, pk_un]); refine Prod.ext (funext fun z => ?_) rfl; simp only [setR]; (repeat' split) <;> first | rfl | (exfalso; omega))) ?_
  refine aw_istore_n (pc := 43) C [(3, .int (σ.1 23 5)), (0, .ref 73), (1, .int lo), (2, .int hi)] dX9_number_43 (Nat.le_of_ble_eq_true rfl) rfl ?_
  refine aw_aload_n (pc := 44) C 1 dX9_number_44 rfl ?_
  refine aw_gld (pc := 45) C (1) fl_X9_244 sh73 rfl dX9_number_45 (by first | rfl | (simp (disch := omega) only [setR_at, setR_twice, setL_at, setL_twice, setR_2, setL_1, setR_ne, setL_ne, ne_eq, Nat.reduceEqDiff, not_false_eq_true, pk_us, pk_un]; done) | ((try simp (disch := omega) only [setR_at, setR_twice, setL_at, setL_twice, setR_2, setL_1, setR_ne, setL_ne, ne_eq, Nat.reduceEqDiff, not_false_eq_true, pk_us, pk_un]); refine Prod.ext (funext fun z => ?_) rfl; simp only [setR]; (repeat' split) <;> first | rfl | (exfalso; omega))) ?_
  refine aw_if_ne (pc := 48) C 55 dX9_number_48 (by decide) (fun h48 => ?_) (fun h48 => absurd h48 (by decide))
  refine aw_conv (σ' := σ) (by rw [upd_at hB, setR_same]) rfl rfl ?_
  refine aw_iload_n (pc := 55) C 0 dX9_number_55 rfl ?_
  exact aw_iret (pc := 56) C rfl dX9_number_56 rfl rfl
theorem c_X9_groundHere (σ : St) (t p : Nat) (hA : TK (σ.1 23) (σ.1 29) t p 0) : AMet Y_X9_groundHere [.ref 73] σ (fz (some (.int (gTold (σ.1 29) t p))) (σ)) := by
  refine am_intro (by decide +kernel) (Nat.le_of_ble_eq_true rfl) (fun K C => ?_)
  refine aw_aload_n (pc := 0) C 0 dX9_groundHere_0 rfl ?_
  refine aw_ldcwS (pc := 1) (i := 17) C dX9_groundHere_1 rfl ?_
  refine aw_cVI (pc := 4) C (c_X9_isWord _ t p hA 17 _ rfl ) lk_X9_257 sh73 rfl dX9_groundHere_4 (by decide) (Nat.le_of_ble_eq_true rfl) rfl rfl ?_
  refine aw_top C (b2i (wdB (σ.1 29) t p 0 = true)) rfl ?_
  refine aw_if_eqB (pc := 7) C 12 dX9_groundHere_7 (by decide) (fun h7 => ?_) (fun h7 => ?_)
  · refine aw_aload_n (pc := 12) C 0 dX9_groundHere_12 rfl ?_
    refine aw_ldcwS (pc := 13) (i := 18) C dX9_groundHere_13 rfl ?_
    refine aw_cVI (pc := 16) C (c_X9_isWord _ t p hA 18 _ rfl ) lk_X9_257 sh73 rfl dX9_groundHere_16 (by decide) (Nat.le_of_ble_eq_true rfl) rfl rfl ?_
    refine aw_top C (b2i (wdB (σ.1 29) t p 1 = true)) rfl ?_
    refine aw_if_eqB (pc := 19) C 24 dX9_groundHere_19 (by decide) (fun h19 => ?_) (fun h19 => ?_)
    · refine aw_aload_n (pc := 24) C 0 dX9_groundHere_24 rfl ?_
      refine aw_ldcwS (pc := 25) (i := 19) C dX9_groundHere_25 rfl ?_
      refine aw_cVI (pc := 28) C (c_X9_isWord _ t p hA 19 _ rfl ) lk_X9_257 sh73 rfl dX9_groundHere_28 (by decide) (Nat.le_of_ble_eq_true rfl) rfl rfl ?_
      refine aw_top C (b2i (wdB (σ.1 29) t p 2 = true)) rfl ?_
      refine aw_if_eqB (pc := 31) C 36 dX9_groundHere_31 (by decide) (fun h31 => ?_) (fun h31 => ?_)
      · refine aw_aload_n (pc := 36) C 0 dX9_groundHere_36 rfl ?_
        refine aw_ldcwS (pc := 37) (i := 20) C dX9_groundHere_37 rfl ?_
        refine aw_cVI (pc := 40) C (c_X9_isWord _ t p hA 20 _ rfl ) lk_X9_257 sh73 rfl dX9_groundHere_40 (by decide) (Nat.le_of_ble_eq_true rfl) rfl rfl ?_
        refine aw_top C (b2i (wdB (σ.1 29) t p 3 = true)) rfl ?_
        refine aw_if_eqB (pc := 43) C 50 dX9_groundHere_43 (by decide) (fun h43 => ?_) (fun h43 => ?_)
        · refine aw_aload_n (pc := 50) C 0 dX9_groundHere_50 rfl ?_
          refine aw_ldcwS (pc := 51) (i := 21) C dX9_groundHere_51 rfl ?_
          refine aw_cVI (pc := 54) C (c_X9_isWord _ t p hA 21 _ rfl ) lk_X9_257 sh73 rfl dX9_groundHere_54 (by decide) (Nat.le_of_ble_eq_true rfl) rfl rfl ?_
          refine aw_top C (b2i (wdB (σ.1 29) t p 4 = true)) rfl ?_
          refine aw_if_eqB (pc := 57) C 64 dX9_groundHere_57 (by decide) (fun h57 => ?_) (fun h57 => ?_)
          · refine aw_iconst (pc := 64) (v := (-1)) C dX9_groundHere_64 rfl ?_
            exact aw_iret (pc := 65) C rfl dX9_groundHere_65 (by rw [gTold, if_neg h7, if_neg h19, if_neg h31, if_neg h43, if_neg h57]) rfl
          · refine aw_iconst (pc := 60) (v := 4) C dX9_groundHere_60 rfl ?_
            refine aw_goto (pc := 61) C 65 dX9_groundHere_61 (by decide) ?_
            exact aw_iret (pc := 65) C rfl dX9_groundHere_65 (by rw [gTold, if_neg h7, if_neg h19, if_neg h31, if_neg h43, if_pos h57]) rfl
        · refine aw_iconst (pc := 46) (v := 3) C dX9_groundHere_46 rfl ?_
          refine aw_goto (pc := 47) C 65 dX9_groundHere_47 (by decide) ?_
          exact aw_iret (pc := 65) C rfl dX9_groundHere_65 (by rw [gTold, if_neg h7, if_neg h19, if_neg h31, if_pos h43]) rfl
      · refine aw_iconst (pc := 34) (v := 2) C dX9_groundHere_34 rfl ?_
        exact aw_iret (pc := 35) C rfl dX9_groundHere_35 (by rw [gTold, if_neg h7, if_neg h19, if_pos h31]) rfl
    · refine aw_iconst (pc := 22) (v := 1) C dX9_groundHere_22 rfl ?_
      exact aw_iret (pc := 23) C rfl dX9_groundHere_23 (by rw [gTold, if_neg h7, if_pos h19]) rfl
  · refine aw_iconst (pc := 10) (v := 0) C dX9_groundHere_10 rfl ?_
    exact aw_iret (pc := 11) C rfl dX9_groundHere_11 (by rw [gTold, if_pos h7]) rfl
theorem c_X9_kindHere (σ : St) (t p : Nat) (hA : TK (σ.1 23) (σ.1 29) t p 0) : AMet Y_X9_kindHere [.ref 73] σ (fz (some (.int (kTold (σ.1 29) t p))) (σ)) := by
  refine am_intro (by decide +kernel) (Nat.le_of_ble_eq_true rfl) (fun K C => ?_)
  refine aw_aload_n (pc := 0) C 0 dX9_kindHere_0 rfl ?_
  refine aw_ldcwS (pc := 1) (i := 24) C dX9_kindHere_1 rfl ?_
  refine aw_cVI (pc := 4) C (c_X9_isWord _ t p hA 24 _ rfl ) lk_X9_257 sh73 rfl dX9_kindHere_4 (by decide) (Nat.le_of_ble_eq_true rfl) rfl rfl ?_
  refine aw_top C (b2i (wdB (σ.1 29) t p 7 = true)) rfl ?_
  refine aw_if_eqB (pc := 7) C 12 dX9_kindHere_7 (by decide) (fun h7 => ?_) (fun h7 => ?_)
  · refine aw_aload_n (pc := 12) C 0 dX9_kindHere_12 rfl ?_
    refine aw_ldcwS (pc := 13) (i := 25) C dX9_kindHere_13 rfl ?_
    refine aw_cVI (pc := 16) C (c_X9_isWord _ t p hA 25 _ rfl ) lk_X9_257 sh73 rfl dX9_kindHere_16 (by decide) (Nat.le_of_ble_eq_true rfl) rfl rfl ?_
    refine aw_top C (b2i (wdB (σ.1 29) t p 8 = true)) rfl ?_
    refine aw_if_eqB (pc := 19) C 24 dX9_kindHere_19 (by decide) (fun h19 => ?_) (fun h19 => ?_)
    · refine aw_aload_n (pc := 24) C 0 dX9_kindHere_24 rfl ?_
      refine aw_ldcwS (pc := 25) (i := 26) C dX9_kindHere_25 rfl ?_
      refine aw_cVI (pc := 28) C (c_X9_isWord _ t p hA 26 _ rfl ) lk_X9_257 sh73 rfl dX9_kindHere_28 (by decide) (Nat.le_of_ble_eq_true rfl) rfl rfl ?_
      refine aw_top C (b2i (wdB (σ.1 29) t p 9 = true)) rfl ?_
      refine aw_if_eqB (pc := 31) C 36 dX9_kindHere_31 (by decide) (fun h31 => ?_) (fun h31 => ?_)
      · refine aw_aload_n (pc := 36) C 0 dX9_kindHere_36 rfl ?_
        refine aw_ldcwS (pc := 37) (i := 27) C dX9_kindHere_37 rfl ?_
        refine aw_cVI (pc := 40) C (c_X9_isWord _ t p hA 27 _ rfl ) lk_X9_257 sh73 rfl dX9_kindHere_40 (by decide) (Nat.le_of_ble_eq_true rfl) rfl rfl ?_
        refine aw_top C (b2i (wdB (σ.1 29) t p 10 = true)) rfl ?_
        refine aw_if_eqB (pc := 43) C 48 dX9_kindHere_43 (by decide) (fun h43 => ?_) (fun h43 => ?_)
        · refine aw_aload_n (pc := 48) C 0 dX9_kindHere_48 rfl ?_
          refine aw_ldcwS (pc := 49) (i := 28) C dX9_kindHere_49 rfl ?_
          refine aw_cVI (pc := 52) C (c_X9_isWord _ t p hA 28 _ rfl ) lk_X9_257 sh73 rfl dX9_kindHere_52 (by decide) (Nat.le_of_ble_eq_true rfl) rfl rfl ?_
          refine aw_top C (b2i (wdB (σ.1 29) t p 11 = true)) rfl ?_
          refine aw_if_eqB (pc := 55) C 60 dX9_kindHere_55 (by decide) (fun h55 => ?_) (fun h55 => ?_)
          · refine aw_aload_n (pc := 60) C 0 dX9_kindHere_60 rfl ?_
            refine aw_ldcwS (pc := 61) (i := 29) C dX9_kindHere_61 rfl ?_
            refine aw_cVI (pc := 64) C (c_X9_isWord _ t p hA 29 _ rfl ) lk_X9_257 sh73 rfl dX9_kindHere_64 (by decide) (Nat.le_of_ble_eq_true rfl) rfl rfl ?_
            refine aw_top C (b2i (wdB (σ.1 29) t p 12 = true)) rfl ?_
            refine aw_if_eqB (pc := 67) C 74 dX9_kindHere_67 (by decide) (fun h67 => ?_) (fun h67 => ?_)
            · refine aw_aload_n (pc := 74) C 0 dX9_kindHere_74 rfl ?_
              refine aw_ldcwS (pc := 75) (i := 30) C dX9_kindHere_75 rfl ?_
              refine aw_cVI (pc := 78) C (c_X9_isWord _ t p hA 30 _ rfl ) lk_X9_257 sh73 rfl dX9_kindHere_78 (by decide) (Nat.le_of_ble_eq_true rfl) rfl rfl ?_
              refine aw_top C (b2i (wdB (σ.1 29) t p 13 = true)) rfl ?_
              refine aw_if_eqB (pc := 81) C 89 dX9_kindHere_81 (by decide) (fun h81 => ?_) (fun h81 => ?_)
              · refine aw_iconst (pc := 89) (v := (-1)) C dX9_kindHere_89 rfl ?_
                exact aw_iret (pc := 90) C rfl dX9_kindHere_90 (by rw [kTold, if_neg h7, if_neg h19, if_neg h31, if_neg h43, if_neg h55, if_neg h67, if_neg h81]) rfl
              · refine aw_bipush (pc := 84) (v := 6) C dX9_kindHere_84 rfl ?_
                refine aw_goto (pc := 86) C 90 dX9_kindHere_86 (by decide) ?_
                exact aw_iret (pc := 90) C rfl dX9_kindHere_90 (by rw [kTold, if_neg h7, if_neg h19, if_neg h31, if_neg h43, if_neg h55, if_neg h67, if_pos h81]) rfl
            · refine aw_iconst (pc := 70) (v := 5) C dX9_kindHere_70 rfl ?_
              refine aw_goto (pc := 71) C 90 dX9_kindHere_71 (by decide) ?_
              exact aw_iret (pc := 90) C rfl dX9_kindHere_90 (by rw [kTold, if_neg h7, if_neg h19, if_neg h31, if_neg h43, if_neg h55, if_pos h67]) rfl
          · refine aw_iconst (pc := 58) (v := 4) C dX9_kindHere_58 rfl ?_
            exact aw_iret (pc := 59) C rfl dX9_kindHere_59 (by rw [kTold, if_neg h7, if_neg h19, if_neg h31, if_neg h43, if_pos h55]) rfl
        · refine aw_iconst (pc := 46) (v := 3) C dX9_kindHere_46 rfl ?_
          exact aw_iret (pc := 47) C rfl dX9_kindHere_47 (by rw [kTold, if_neg h7, if_neg h19, if_neg h31, if_pos h43]) rfl
      · refine aw_iconst (pc := 34) (v := 2) C dX9_kindHere_34 rfl ?_
        exact aw_iret (pc := 35) C rfl dX9_kindHere_35 (by rw [kTold, if_neg h7, if_neg h19, if_pos h31]) rfl
    · refine aw_iconst (pc := 22) (v := 1) C dX9_kindHere_22 rfl ?_
      exact aw_iret (pc := 23) C rfl dX9_kindHere_23 (by rw [kTold, if_neg h7, if_pos h19]) rfl
  · refine aw_iconst (pc := 10) (v := 0) C dX9_kindHere_10 rfl ?_
    exact aw_iret (pc := 11) C rfl dX9_kindHere_11 (by rw [kTold, if_pos h7]) rfl
