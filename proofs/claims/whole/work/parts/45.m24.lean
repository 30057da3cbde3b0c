/-! the reference: a TEXT -/
theorem c_X9_text (σ : St) (n : Nat) (hok : Ok n (σ.1 20)) (t : Nat) (ht : σ.1 23 1 = nI t) (h120 : t ≤ 120) : AMet Y_X9_text [.ref 73] σ (TxtO σ t) := by
  refine am_intro (by decide +kernel) (Nat.le_of_ble_eq_true rfl) (fun K C => ?_)
  have hz := hok.1
  have hn := hok.2.1
  refine aw_aload_n (pc := 0) C 0 dX9_text_0 rfl ?_
  refine aw_getR (pc := 1) C fl_X9_9 sh73 rfl dX9_text_1 ?_
  refine aw_aload_n (pc := 4) C 0 dX9_text_4 rfl ?_
  refine aw_getR (pc := 5) C fl_X9_16 sh73 rfl dX9_text_5 ?_
  refine aw_cS0 (pc := 8) C (c_X9_row_74_76 _  ) lk_X9_166 dX9_text_8 (by decide) (Nat.le_of_ble_eq_true rfl) rfl rfl ?_
  refine aw_aload_n (pc := 11) C 0 dX9_text_11 rfl ?_
  refine aw_iconst (pc := 12) (v := 0) C dX9_text_12 rfl ?_
  refine aw_pst (pc := 13) C (setR (setR σ 22 (σ.1 20)) 23 (upd (σ.1 23) 4 (0))) fp_X9_228 sh73 rfl dX9_text_13 (by first | (simp (disch := omega) only [setR_at, setR_twice, setL_at, setL_twice, setR_2, setL_1, setR_ne, setL_ne, ne_eq, Nat.reduceEqDiff, not_false_eq_true, pk_us, pk_un]; done) | (refine Prod.ext (funext fun z => ?_) rfl; simp only [setR, if_true, if_false]; (repeat' split) <;> first | rfl | (exfalso; omega) | (funext y; simp only [upd]; (repeat' split) <;> first | rfl | (exfalso; omega)))) ?_
  refine aw_aload_n (pc := 16) C 0 dX9_text_16 rfl ?_
  refine aw_iconst (pc := 17) (v := 0) C dX9_text_17 rfl ?_
  refine aw_pstZ (pc := 18) C (setR (setR σ 22 (σ.1 20)) 23 (upd (upd (σ.1 23) 4 (0)) 6 (0))) fp_X9_244 sh73 rfl rfl rfl dX9_text_18 (by first | (simp (disch := omega) only [setR_at, setR_twice, setL_at, setL_twice, setR_2, setL_1, setR_ne, setL_ne, ne_eq, Nat.reduceEqDiff, not_false_eq_true, pk_us, pk_un]; done) | (refine Prod.ext (funext fun z => ?_) rfl; simp only [setR, if_true, if_false]; (repeat' split) <;> first | rfl | (exfalso; omega) | (funext y; simp only [upd]; (repeat' split) <;> first | rfl | (exfalso; omega)))) ?_
  refine aw_aload_n (pc := 21) C 0 dX9_text_21 rfl ?_
  refine aw_cV0 (pc := 22) C (c_X9_token _ t (by simp (disch := omega) only [setR_at, setR_twice, setL_at, setL_twice, setR_2, setL_1, setR_ne, setL_ne, ne_eq, Nat.reduceEqDiff, not_false_eq_true, pk_us, pk_un]; exact ht) h120 0 (by simp (disch := omega) only [setR_at, setR_twice, setL_at, setL_twice, setR_2, setL_1, setR_ne, setL_ne, ne_eq, Nat.reduceEqDiff, not_false_eq_true, pk_us, pk_un] <;> rfl) (by omega) ) lk_X9_261 sh73 rfl dX9_text_22 (by decide) (Nat.le_of_ble_eq_true rfl) rfl rfl ?_
  refine aw_conv (σ' := setR (setR σ 22 (σ.1 20)) 23 (tokR (upd (upd (σ.1 23) 4 0) 6 0) (σ.1 29) t 0)) (st' := []) (by first | rfl | (simp (disch := omega) only [setR_at, setR_twice, setL_at, setL_twice, setR_2, setL_1, setR_ne, setL_ne, ne_eq, Nat.reduceEqDiff, not_false_eq_true, pk_us, pk_un]; done) | ((try simp (disch := omega) only [setR_at, setR_twice, setL_at, setL_twice, setR_2, setL_1, setR_ne, setL_ne, ne_eq, Nat.reduceEqDiff, not_false_eq_true, pk_us, pk_un]); refine Prod.ext (funext fun z => ?_) rfl; simp only [setR]; (repeat' split) <;> first | rfl | (exfalso; omega))) rfl (by first | rfl | (simp (disch := omega) only [setR_at, setR_twice, setL_at, setL_twice, setR_2, setL_1, setR_ne, setL_ne, ne_eq, Nat.reduceEqDiff, not_false_eq_true, pk_us, pk_un]; done) | ((try simp (disch := omega) only [setR_at, setR_twice, setL_at, setL_twice, setR_2, setL_1, setR_ne, setL_ne, ne_eq, Nat.reduceEqDiff, not_false_eq_true, pk_us, pk_un]); refine Prod.ext (funext fun z => ?_) rfl; simp only [setR]; (repeat' split) <;> first | rfl | (exfalso; omega))) ?_
  have hφ22 : TK (tokR (upd (upd (σ.1 23) 4 0) 6 0) (σ.1 29) t 0) (σ.1 29) t 0 0 := TK.first h120 ht rfl
  refine aw_iconst (pc := 25) (v := 0) C dX9_text_25 rfl ?_
  refine aw_istore_n (pc := 26) C [(1, .int 0), (0, .ref 73)] dX9_text_26 (Nat.le_of_ble_eq_true rfl) rfl ?_
  refine aw_iconst (pc := 27) (v := 1) C dX9_text_27 rfl ?_
  refine aw_istore_n (pc := 28) C [(2, .int 1), (1, .int 0), (0, .ref 73)] dX9_text_28 (Nat.le_of_ble_eq_true rfl) rfl ?_
  refine aw_lvs C [1, 0, 2] [(1, .int 0), (2, .int 1), (0, .ref 73)] rfl ?_
  refine aw_conv (σ' := setR (setR (setR σ 22 (σ.1 20)) 23 (tokR (upd (upd (σ.1 23) 4 0) 6 0) (σ.1 29) t 0)) 20 (σ.1 20)) (lv' := [(1, .int (nI 0)), (2, .int 1), (0, .ref 73)]) (setR_same (setR (setR σ 22 (σ.1 20)) 23 (tokR (upd (upd (σ.1 23) 4 0) 6 0) (σ.1 29) t 0)) 20).symm rfl rfl ?_
  refine loop_dn (P := fun d => d ≤ 121 → ∀ (φ ν : Fl) (c pp nn : Nat) (hφ : TK φ (σ.1 29) t pp 0) (h0 : φ 0 = σ.1 23 0) (hk : Ok nn ν) (hc : c + d = 121) (hd : t ≤ pp + d) (hT : textR (σ.1 29) t 121 0 (σ.1 20) 0 = textR (σ.1 29) t d c ν pp), AW _ K _ (setR (setR (setR σ 22 (σ.1 20)) 23 (φ)) 20 (ν)) 29 [(1, .int (nI c)), (2, .int 1), (0, .ref 73)] []) ?_ ?_ 121 (by omega) (tokR (upd (upd (σ.1 23) 4 0) 6 0) (σ.1 29) t 0) (σ.1 20) 0 0 n hφ22 rfl hok (by omega) (by omega) rfl
  · intro hk29 φ ν c pp nn hφ h0 hk hc hd hT
    refine aw_iload_n (pc := 29) C 1 dX9_text_29 rfl ?_
    refine aw_if_eq (pc := 30) C 58 dX9_text_30 (by decide) (fun h30 => absurd h30 (by decide)) (fun h30 => ?_)
    refine aw_aload_n (pc := 33) C 2 dX9_text_33 rfl ?_
    refine aw_callV (pc := 34) C (c_X9_item _ nn (by simp (disch := omega) only [setR_at, setR_twice, setL_at, setL_twice, setR_2, setL_1, setR_ne, setL_ne, ne_eq, Nat.reduceEqDiff, not_false_eq_true, pk_us, pk_un]; exact hk.2.1) hk.1 t pp (by simp (disch := omega) only [setR_at, setR_twice, setL_at, setL_twice, setR_2, setL_1, setR_ne, setL_ne, ne_eq, Nat.reduceEqDiff, not_false_eq_true, pk_us, pk_un]; exact hφ) ) lk_X9_313 sh73 rfl (by decide) rfl (Nat.le_of_ble_eq_true rfl) dX9_text_34 rfl (fun w s hq => ?_)
    rcases hq with ⟨φ34, f34, ν34, rfl, h034, hR34, hφ34, rfl⟩ | ⟨φ34, ν34, p34, rfl, h034, hR34, hφ34, rfl⟩
    · have hR34 : itemR (σ.1 29) t ν pp = .inl f34 := hR34
      have hφ34 : TK φ34 (σ.1 29) t f34 1 := hφ34
      have h034 : φ34 0 = σ.1 23 0 := Eq.trans h034 h0
      have hpp : pp = t := by have := hφ.2.1; omega
      have hfp : f34 = pp := by rw [hpp] at hR34; rw [hpp]; exact (Sum.inl.inj (itemR_end.symm.trans hR34)).symm
      have hTf : textR (σ.1 29) t 121 0 (σ.1 20) 0 = .inl f34 := hT.trans (by rw [hfp]; rfl)
      refine aw_conv (σ' := setR (setR (setR σ 22 (σ.1 20)) 23 (φ34)) 20 (ν34)) (st' := []) (by first | rfl | (simp (disch := omega) only [setR_at, setR_twice, setL_at, setL_twice, setR_2, setL_1, setR_ne, setL_ne, ne_eq, Nat.reduceEqDiff, not_false_eq_true, pk_us, pk_un]; done) | ((try simp (disch := omega) only [setR_at, setR_twice, setL_at, setL_twice, setR_2, setL_1, setR_ne, setL_ne, ne_eq, Nat.reduceEqDiff, not_false_eq_true, pk_us, pk_un]); refine Prod.ext (funext fun z => ?_) rfl; simp only [setR]; (repeat' split) <;> first | rfl | (exfalso; omega))) rfl (by first | rfl | (simp (disch := omega) only [setR_at, setR_twice, setL_at, setL_twice, setR_2, setL_1, setR_ne, setL_ne, ne_eq, Nat.reduceEqDiff, not_false_eq_true, pk_us, pk_un]; done) | ((try simp (disch := omega) only [setR_at, setR_twice, setL_at, setL_twice, setR_2, setL_1, setR_ne, setL_ne, ne_eq, Nat.reduceEqDiff, not_false_eq_true, pk_us, pk_un]); refine Prod.ext (funext fun z => ?_) rfl; simp only [setR]; (repeat' split) <;> first | rfl | (exfalso; omega))) ?_
      refine aw_iincN (pc := 37) C 0 c [(1, .int (nI (c + 1))), (2, .int 1), (0, .ref 73)] dX9_text_37 rfl rfl rfl (Nat.le_of_ble_eq_true rfl) rfl ?_
      refine aw_aload_n (pc := 40) C 2 dX9_text_40 rfl ?_
      refine aw_bipush (pc := 41) (v := 59) C dX9_text_41 rfl ?_
      refine aw_cVI (pc := 43) C (c_X9_isSign_b _ (by simp (disch := omega) only [setR_at, setR_twice, setL_at, setL_twice, setR_2, setL_1, setR_ne, setL_ne, ne_eq, Nat.reduceEqDiff, not_false_eq_true, pk_us, pk_un]; exact hφ34.2.2.2.2.2.2.2) 59 ) lk_X9_316 sh73 rfl dX9_text_43 (by decide) (Nat.le_of_ble_eq_true rfl) rfl rfl ?_
      refine aw_conv (σ' := setR (setR (setR σ 22 (σ.1 20)) 23 (φ34)) 20 (ν34)) (st' := [.int 0]) (by first | rfl | (simp (disch := omega) only [setR_at, setR_twice, setL_at, setL_twice, setR_2, setL_1, setR_ne, setL_ne, ne_eq, Nat.reduceEqDiff, not_false_eq_true, pk_us, pk_un]; done) | ((try simp (disch := omega) only [setR_at, setR_twice, setL_at, setL_twice, setR_2, setL_1, setR_ne, setL_ne, ne_eq, Nat.reduceEqDiff, not_false_eq_true, pk_us, pk_un]); refine Prod.ext (funext fun z => ?_) rfl; simp only [setR]; (repeat' split) <;> first | rfl | (exfalso; omega))) rfl (by first | rfl | (simp (disch := omega) only [setR_at, setR_twice, setL_at, setL_twice, setR_2, setL_1, setR_ne, setL_ne, ne_eq, Nat.reduceEqDiff, not_false_eq_true, pk_us, pk_un]; done) | ((try simp (disch := omega) only [setR_at, setR_twice, setL_at, setL_twice, setR_2, setL_1, setR_ne, setL_ne, ne_eq, Nat.reduceEqDiff, not_false_eq_true, pk_us, pk_un]); refine Prod.ext (funext fun z => ?_) rfl; simp only [setR]; (repeat' split) <;> first | rfl | (exfalso; omega))) ?_
      refine aw_istore_n (pc := 46) C [(2, .int 0), (1, .int (nI (c + 1))), (0, .ref 73)] dX9_text_46 (Nat.le_of_ble_eq_true rfl) rfl ?_
      refine aw_iload_n (pc := 47) C 0 dX9_text_47 rfl ?_
      refine aw_if_eq (pc := 48) C 29 dX9_text_48 (by decide) (fun h48 => ?_) (fun h48 => absurd h48 (by decide))
      refine aw_iload_n (pc := 29) C 0 dX9_text_29 rfl ?_
      refine aw_if_eq (pc := 30) C 58 dX9_text_30 (by decide) (fun h30 => ?_) (fun h30 => absurd h30 (by decide))
      refine aw_aload_n (pc := 58) C 2 dX9_text_58 rfl ?_
      refine aw_aload_n (pc := 59) C 2 dX9_text_59 rfl ?_
      refine aw_gld (pc := 60) C (φ34 6) fl_X9_244 sh73 rfl dX9_text_60 (by first | rfl | (simp (disch := omega) only [setR_at, setR_twice, setL_at, setL_twice, setR_2, setL_1, setR_ne, setL_ne, ne_eq, Nat.reduceEqDiff, not_false_eq_true, pk_us, pk_un]; done) | ((try simp (disch := omega) only [setR_at, setR_twice, setL_at, setL_twice, setR_2, setL_1, setR_ne, setL_ne, ne_eq, Nat.reduceEqDiff, not_false_eq_true, pk_us, pk_un]); refine Prod.ext (funext fun z => ?_) rfl; simp only [setR]; (repeat' split) <;> first | rfl | (exfalso; omega))) ?_
      refine aw_top C (1) hφ34.2.2.2.2.2.2.2 ?_
      refine aw_if_ne (pc := 63) C 73 dX9_text_63 (by decide) (fun h63 => ?_) (fun h63 => absurd h63 (by decide))
      refine aw_iconst (pc := 73) (v := 1) C dX9_text_73 rfl ?_
      refine aw_goto (pc := 74) C 78 dX9_text_74 (by decide) ?_
      refine aw_pstZ (pc := 78) C (setR (setR (setR σ 22 (σ.1 20)) 23 (upd φ34 6 (1))) 20 (ν34)) fp_X9_244 sh73 rfl rfl rfl dX9_text_78 (by first | (simp (disch := omega) only [setR_at, setR_twice, setL_at, setL_twice, setR_2, setL_1, setR_ne, setL_ne, ne_eq, Nat.reduceEqDiff, not_false_eq_true, pk_us, pk_un]; done) | (refine Prod.ext (funext fun z => ?_) rfl; simp only [setR, if_true, if_false]; (repeat' split) <;> first | rfl | (exfalso; omega) | (funext y; simp only [upd]; (repeat' split) <;> first | rfl | (exfalso; omega)))) ?_
      refine aw_aload_n (pc := 81) C 2 dX9_text_81 rfl ?_
      refine aw_gld (pc := 82) C (φ34 3) fl_X9_231 sh73 rfl dX9_text_82 (by first | rfl | (simp (disch := omega) only [setR_at, setR_twice, setL_at, setL_twice, setR_2, setL_1, setR_ne, setL_ne, ne_eq, Nat.reduceEqDiff, not_false_eq_true, pk_us, pk_un]; done) | ((try simp (disch := omega) only [setR_at, setR_twice, setL_at, setL_twice, setR_2, setL_1, setR_ne, setL_ne, ne_eq, Nat.reduceEqDiff, not_false_eq_true, pk_us, pk_un]); refine Prod.ext (funext fun z => ?_) rfl; simp only [setR]; (repeat' split) <;> first | rfl | (exfalso; omega))) ?_
      refine aw_top C (nI (fr (σ.1 29) t f34)) hφ34.2.2.2.2.1 ?_
      refine aw_istore_n (pc := 85) C [(3, .int (nI (fr (σ.1 29) t f34))), (2, .int 0), (1, .int (nI (c + 1))), (0, .ref 73)] dX9_text_85 (Nat.le_of_ble_eq_true rfl) rfl ?_
      refine aw_aload_n (pc := 86) C 3 dX9_text_86 rfl ?_
      refine aw_iconst (pc := 87) (v := 0) C dX9_text_87 rfl ?_
      refine aw_pst (pc := 88) C (setR (setR (setR σ 22 (σ.1 20)) 23 (upd (upd φ34 6 (1)) 1 (0))) 20 (ν34)) fp_X9_224 sh73 rfl dX9_text_88 (by first | (simp (disch := omega) only [setR_at, setR_twice, setL_at, setL_twice, setR_2, setL_1, setR_ne, setL_ne, ne_eq, Nat.reduceEqDiff, not_false_eq_true, pk_us, pk_un]; done) | (refine Prod.ext (funext fun z => ?_) rfl; simp only [setR, if_true, if_false]; (repeat' split) <;> first | rfl | (exfalso; omega) | (funext y; simp only [upd]; (repeat' split) <;> first | rfl | (exfalso; omega)))) ?_
      refine aw_aload_n (pc := 91) C 3 dX9_text_91 rfl ?_
      refine aw_gld (pc := 92) C (1) fl_X9_244 sh73 rfl dX9_text_92 (by first | rfl | (simp (disch := omega) only [setR_at, setR_twice, setL_at, setL_twice, setR_2, setL_1, setR_ne, setL_ne, ne_eq, Nat.reduceEqDiff, not_false_eq_true, pk_us, pk_un]; done) | ((try simp (disch := omega) only [setR_at, setR_twice, setL_at, setL_twice, setR_2, setL_1, setR_ne, setL_ne, ne_eq, Nat.reduceEqDiff, not_false_eq_true, pk_us, pk_un]); refine Prod.ext (funext fun z => ?_) rfl; simp only [setR]; (repeat' split) <;> first | rfl | (exfalso; omega))) ?_
      refine aw_if_ne (pc := 95) C 100 dX9_text_95 (by decide) (fun h95 => ?_) (fun h95 => absurd h95 (by decide))
      refine aw_aload_n (pc := 100) C 3 dX9_text_100 rfl ?_
      refine aw_getR (pc := 101) C fl_X9_16 sh73 rfl dX9_text_101 ?_
      refine aw_aload_n (pc := 104) C 3 dX9_text_104 rfl ?_
      refine aw_getR (pc := 105) C fl_X9_9 sh73 rfl dX9_text_105 ?_
      refine aw_cS0 (pc := 108) C (c_X9_row_76_74 _  ) lk_X9_166 dX9_text_108 (by decide) (Nat.le_of_ble_eq_true rfl) rfl rfl ?_
      refine aw_conv (σ' := setR (setR (setR σ 22 (σ.1 20)) 23 (upd (upd φ34 6 (1)) 1 (0))) 20 (σ.1 20)) (st' := []) (by first | rfl | (simp (disch := omega) only [setR_at, setR_twice, setL_at, setL_twice, setR_2, setL_1, setR_ne, setL_ne, ne_eq, Nat.reduceEqDiff, not_false_eq_true, pk_us, pk_un]; done) | ((try simp (disch := omega) only [setR_at, setR_twice, setL_at, setL_twice, setR_2, setL_1, setR_ne, setL_ne, ne_eq, Nat.reduceEqDiff, not_false_eq_true, pk_us, pk_un]); refine Prod.ext (funext fun z => ?_) rfl; simp only [setR]; (repeat' split) <;> first | rfl | (exfalso; omega))) rfl (by first | rfl | (simp (disch := omega) only [setR_at, setR_twice, setL_at, setL_twice, setR_2, setL_1, setR_ne, setL_ne, ne_eq, Nat.reduceEqDiff, not_false_eq_true, pk_us, pk_un]; done) | ((try simp (disch := omega) only [setR_at, setR_twice, setL_at, setL_twice, setR_2, setL_1, setR_ne, setL_ne, ne_eq, Nat.reduceEqDiff, not_false_eq_true, pk_us, pk_un]); refine Prod.ext (funext fun z => ?_) rfl; simp only [setR]; (repeat' split) <;> first | rfl | (exfalso; omega))) ?_
      refine aw_iconst (pc := 111) (v := (-1)) C dX9_text_111 rfl ?_
      refine aw_iload_n (pc := 112) C 0 dX9_text_112 rfl ?_
      refine aw_isub (pc := 113) C dX9_text_113 ?_
      exact aw_iretP (pc := 114) C rfl dX9_text_114 ⟨upd (upd φ34 6 (1)) 1 (0), h034, rfl, (fun r h1 h2 h3 => by simp only [setR, if_neg h1, if_neg h2, if_neg h3]), rfl, rfl, Or.inl ⟨f34, hTf, rfl, rfl⟩⟩
    · have hR34 : itemR (σ.1 29) t ν pp = .inr (ν34, p34) := hR34
      have hφ34 : TK φ34 (σ.1 29) t p34 0 := hφ34
      have h034 : φ34 0 = σ.1 23 0 := Eq.trans h034 h0
      have hpp : pp = t := by have := hφ.2.1; omega
      rw [hpp, itemR_end] at hR34
      cases hR34
  · intro d ih29 hk29 φ ν c pp nn hφ h0 hk hc hd hT
    refine aw_iload_n (pc := 29) C 1 dX9_text_29 rfl ?_
    refine aw_if_eq (pc := 30) C 58 dX9_text_30 (by decide) (fun h30 => absurd h30 (by decide)) (fun h30 => ?_)
    refine aw_aload_n (pc := 33) C 2 dX9_text_33 rfl ?_
    refine aw_callV (pc := 34) C (c_X9_item _ nn (by simp (disch := omega) only [setR_at, setR_twice, setL_at, setL_twice, setR_2, setL_1, setR_ne, setL_ne, ne_eq, Nat.reduceEqDiff, not_false_eq_true, pk_us, pk_un]; exact hk.2.1) hk.1 t pp (by simp (disch := omega) only [setR_at, setR_twice, setL_at, setL_twice, setR_2, setL_1, setR_ne, setL_ne, ne_eq, Nat.reduceEqDiff, not_false_eq_true, pk_us, pk_un]; exact hφ) ) lk_X9_313 sh73 rfl (by decide) rfl (Nat.le_of_ble_eq_true rfl) dX9_text_34 rfl (fun w s hq => ?_)
    rcases hq with ⟨φ34, f34, ν34, rfl, h034, hR34, hφ34, rfl⟩ | ⟨φ34, ν34, p34, rfl, h034, hR34, hφ34, rfl⟩
    · have hR34 : itemR (σ.1 29) t ν pp = .inl f34 := hR34
      have hφ34 : TK φ34 (σ.1 29) t f34 1 := hφ34
      have h034 : φ34 0 = σ.1 23 0 := Eq.trans h034 h0
      have hTf : textR (σ.1 29) t 121 0 (σ.1 20) 0 = .inl f34 := hT.trans (by simp only [textR, hR34])
      refine aw_conv (σ' := setR (setR (setR σ 22 (σ.1 20)) 23 (φ34)) 20 (ν34)) (st' := []) (by first | rfl | (simp (disch := omega) only [setR_at, setR_twice, setL_at, setL_twice, setR_2, setL_1, setR_ne, setL_ne, ne_eq, Nat.reduceEqDiff, not_false_eq_true, pk_us, pk_un]; done) | ((try simp (disch := omega) only [setR_at, setR_twice, setL_at, setL_twice, setR_2, setL_1, setR_ne, setL_ne, ne_eq, Nat.reduceEqDiff, not_false_eq_true, pk_us, pk_un]); refine Prod.ext (funext fun z => ?_) rfl; simp only [setR]; (repeat' split) <;> first | rfl | (exfalso; omega))) rfl (by first | rfl | (simp (disch := omega) only [setR_at, setR_twice, setL_at, setL_twice, setR_2, setL_1, setR_ne, setL_ne, ne_eq, Nat.reduceEqDiff, not_false_eq_true, pk_us, pk_un]; done) | ((try simp (disch := omega) only [setR_at, setR_twice, setL_at, setL_twice, setR_2, setL_1, setR_ne, setL_ne, ne_eq, Nat.reduceEqDiff, not_false_eq_true, pk_us, pk_un]); refine Prod.ext (funext fun z => ?_) rfl; simp only [setR]; (repeat' split) <;> first | rfl | (exfalso; omega))) ?_
      refine aw_iincN (pc := 37) C 0 c [(1, .int (nI (c + 1))), (2, .int 1), (0, .ref 73)] dX9_text_37 rfl rfl rfl (Nat.le_of_ble_eq_true rfl) rfl ?_
      refine aw_aload_n (pc := 40) C 2 dX9_text_40 rfl ?_
      refine aw_bipush (pc := 41) (v := 59) C dX9_text_41 rfl ?_
      refine aw_cVI (pc := 43) C (c_X9_isSign_b _ (by simp (disch := omega) only [setR_at, setR_twice, setL_at, setL_twice, setR_2, setL_1, setR_ne, setL_ne, ne_eq, Nat.reduceEqDiff, not_false_eq_true, pk_us, pk_un]; exact hφ34.2.2.2.2.2.2.2) 59 ) lk_X9_316 sh73 rfl dX9_text_43 (by decide) (Nat.le_of_ble_eq_true rfl) rfl rfl ?_
      refine aw_conv (σ' := setR (setR (setR σ 22 (σ.1 20)) 23 (φ34)) 20 (ν34)) (st' := [.int 0]) (by first | rfl | (simp (disch := omega) only [setR_at, setR_twice, setL_at, setL_twice, setR_2, setL_1, setR_ne, setL_ne, ne_eq, Nat.reduceEqDiff, not_false_eq_true, pk_us, pk_un]; done) | ((try simp (disch := omega) only [setR_at, setR_twice, setL_at, setL_twice, setR_2, setL_1, setR_ne, setL_ne, ne_eq, Nat.reduceEqDiff, not_false_eq_true, pk_us, pk_un]); refine Prod.ext (funext fun z => ?_) rfl; simp only [setR]; (repeat' split) <;> first | rfl | (exfalso; omega))) rfl (by first | rfl | (simp (disch := omega) only [setR_at, setR_twice, setL_at, setL_twice, setR_2, setL_1, setR_ne, setL_ne, ne_eq, Nat.reduceEqDiff, not_false_eq_true, pk_us, pk_un]; done) | ((try simp (disch := omega) only [setR_at, setR_twice, setL_at, setL_twice, setR_2, setL_1, setR_ne, setL_ne, ne_eq, Nat.reduceEqDiff, not_false_eq_true, pk_us, pk_un]); refine Prod.ext (funext fun z => ?_) rfl; simp only [setR]; (repeat' split) <;> first | rfl | (exfalso; omega))) ?_
      refine aw_istore_n (pc := 46) C [(2, .int 0), (1, .int (nI (c + 1))), (0, .ref 73)] dX9_text_46 (Nat.le_of_ble_eq_true rfl) rfl ?_
      refine aw_iload_n (pc := 47) C 0 dX9_text_47 rfl ?_
      refine aw_if_eq (pc := 48) C 29 dX9_text_48 (by decide) (fun h48 => ?_) (fun h48 => absurd h48 (by decide))
      refine aw_iload_n (pc := 29) C 0 dX9_text_29 rfl ?_
      refine aw_if_eq (pc := 30) C 58 dX9_text_30 (by decide) (fun h30 => ?_) (fun h30 => absurd h30 (by decide))
      refine aw_aload_n (pc := 58) C 2 dX9_text_58 rfl ?_
      refine aw_aload_n (pc := 59) C 2 dX9_text_59 rfl ?_
      refine aw_gld (pc := 60) C (φ34 6) fl_X9_244 sh73 rfl dX9_text_60 (by first | rfl | (simp (disch := omega) only [setR_at, setR_twice, setL_at, setL_twice, setR_2, setL_1, setR_ne, setL_ne, ne_eq, Nat.reduceEqDiff, not_false_eq_true, pk_us, pk_un]; done) | ((try simp (disch := omega) only [setR_at, setR_twice, setL_at, setL_twice, setR_2, setL_1, setR_ne, setL_ne, ne_eq, Nat.reduceEqDiff, not_false_eq_true, pk_us, pk_un]); refine Prod.ext (funext fun z => ?_) rfl; simp only [setR]; (repeat' split) <;> first | rfl | (exfalso; omega))) ?_
      refine aw_top C (1) hφ34.2.2.2.2.2.2.2 ?_
      refine aw_if_ne (pc := 63) C 73 dX9_text_63 (by decide) (fun h63 => ?_) (fun h63 => absurd h63 (by decide))
      refine aw_iconst (pc := 73) (v := 1) C dX9_text_73 rfl ?_
      refine aw_goto (pc := 74) C 78 dX9_text_74 (by decide) ?_
      refine aw_pstZ (pc := 78) C (setR (setR (setR σ 22 (σ.1 20)) 23 (upd φ34 6 (1))) 20 (ν34)) fp_X9_244 sh73 rfl rfl rfl dX9_text_78 (by first | (simp (disch := omega) only [setR_at, setR_twice, setL_at, setL_twice, setR_2, setL_1, setR_ne, setL_ne, ne_eq, Nat.reduceEqDiff, not_false_eq_true, pk_us, pk_un]; done) | (refine Prod.ext (funext fun z => ?_) rfl; simp only [setR, if_true, if_false]; (repeat' split) <;> first | rfl | (exfalso; omega) | (funext y; simp only [upd]; (repeat' split) <;> first | rfl | (exfalso; omega)))) ?_
      refine aw_aload_n (pc := 81) C 2 dX9_text_81 rfl ?_
      refine aw_gld (pc := 82) C (φ34 3) fl_X9_231 sh73 rfl dX9_text_82 (by first | rfl | (simp (disch := omega) only [setR_at, setR_twice, setL_at, setL_twice, setR_2, setL_1, setR_ne, setL_ne, ne_eq, Nat.reduceEqDiff, not_false_eq_true, pk_us, pk_un]; done) | ((try simp (disch := omega) only [setR_at, setR_twice, setL_at, setL_twice, setR_2, setL_1, setR_ne, setL_ne, ne_eq, Nat.reduceEqDiff, not_false_eq_true, pk_us, pk_un]); refine Prod.ext (funext fun z => ?_) rfl; simp only [setR]; (repeat' split) <;> first | rfl | (exfalso; omega))) ?_
      refine aw_top C (nI (fr (σ.1 29) t f34)) hφ34.2.2.2.2.1 ?_
      refine aw_istore_n (pc := 85) C [(3, .int (nI (fr (σ.1 29) t f34))), (2, .int 0), (1, .int (nI (c + 1))), (0, .ref 73)] dX9_text_85 (Nat.le_of_ble_eq_true rfl) rfl ?_
      refine aw_aload_n (pc := 86) C 3 dX9_text_86 rfl ?_
      refine aw_iconst (pc := 87) (v := 0) C dX9_text_87 rfl ?_
      refine aw_pst (pc := 88) C (setR (setR (setR σ 22 (σ.1 20)) 23 (upd (upd φ34 6 (1)) 1 (0))) 20 (ν34)) fp_X9_224 sh73 rfl dX9_text_88 (by first | (simp (disch := omega) only [setR_at, setR_twice, setL_at, setL_twice, setR_2, setL_1, setR_ne, setL_ne, ne_eq, Nat.reduceEqDiff, not_false_eq_true, pk_us, pk_un]; done) | (refine Prod.ext (funext fun z => ?_) rfl; simp only [setR, if_true, if_false]; (repeat' split) <;> first | rfl | (exfalso; omega) | (funext y; simp only [upd]; (repeat' split) <;> first | rfl | (exfalso; omega)))) ?_
      refine aw_aload_n (pc := 91) C 3 dX9_text_91 rfl ?_
      refine aw_gld (pc := 92) C (1) fl_X9_244 sh73 rfl dX9_text_92 (by first | rfl | (simp (disch := omega) only [setR_at, setR_twice, setL_at, setL_twice, setR_2, setL_1, setR_ne, setL_ne, ne_eq, Nat.reduceEqDiff, not_false_eq_true, pk_us, pk_un]; done) | ((try simp (disch := omega) only [setR_at, setR_twice, setL_at, setL_twice, setR_2, setL_1, setR_ne, setL_ne, ne_eq, Nat.reduceEqDiff, not_false_eq_true, pk_us, pk_un]); refine Prod.ext (funext fun z => ?_) rfl; simp only [setR]; (repeat' split) <;> first | rfl | (exfalso; omega))) ?_
      refine aw_if_ne (pc := 95) C 100 dX9_text_95 (by decide) (fun h95 => ?_) (fun h95 => absurd h95 (by decide))
      refine aw_aload_n (pc := 100) C 3 dX9_text_100 rfl ?_
      refine aw_getR (pc := 101) C fl_X9_16 sh73 rfl dX9_text_101 ?_
      refine aw_aload_n (pc := 104) C 3 dX9_text_104 rfl ?_
      refine aw_getR (pc := 105) C fl_X9_9 sh73 rfl dX9_text_105 ?_
      refine aw_cS0 (pc := 108) C (c_X9_row_76_74 _  ) lk_X9_166 dX9_text_108 (by decide) (Nat.le_of_ble_eq_true rfl) rfl rfl ?_
      refine aw_conv (σ' := setR (setR (setR σ 22 (σ.1 20)) 23 (upd (upd φ34 6 (1)) 1 (0))) 20 (σ.1 20)) (st' := []) (by first | rfl | (simp (disch := omega) only [setR_at, setR_twice, setL_at, setL_twice, setR_2, setL_1, setR_ne, setL_ne, ne_eq, Nat.reduceEqDiff, not_false_eq_true, pk_us, pk_un]; done) | ((try simp (disch := omega) only [setR_at, setR_twice, setL_at, setL_twice, setR_2, setL_1, setR_ne, setL_ne, ne_eq, Nat.reduceEqDiff, not_false_eq_true, pk_us, pk_un]); refine Prod.ext (funext fun z => ?_) rfl; simp only [setR]; (repeat' split) <;> first | rfl | (exfalso; omega))) rfl (by first | rfl | (simp (disch := omega) only [setR_at, setR_twice, setL_at, setL_twice, setR_2, setL_1, setR_ne, setL_ne, ne_eq, Nat.reduceEqDiff, not_false_eq_true, pk_us, pk_un]; done) | ((try simp (disch := omega) only [setR_at, setR_twice, setL_at, setL_twice, setR_2, setL_1, setR_ne, setL_ne, ne_eq, Nat.reduceEqDiff, not_false_eq_true, pk_us, pk_un]); refine Prod.ext (funext fun z => ?_) rfl; simp only [setR]; (repeat' split) <;> first | rfl | (exfalso; omega))) ?_
      refine aw_iconst (pc := 111) (v := (-1)) C dX9_text_111 rfl ?_
      refine aw_iload_n (pc := 112) C 0 dX9_text_112 rfl ?_
      refine aw_isub (pc := 113) C dX9_text_113 ?_
      exact aw_iretP (pc := 114) C rfl dX9_text_114 ⟨upd (upd φ34 6 (1)) 1 (0), h034, rfl, (fun r h1 h2 h3 => by simp only [setR, if_neg h1, if_neg h2, if_neg h3]), rfl, rfl, Or.inl ⟨f34, hTf, rfl, rfl⟩⟩
    · have hR34 : itemR (σ.1 29) t ν pp = .inr (ν34, p34) := hR34
      have hφ34 : TK φ34 (σ.1 29) t p34 0 := hφ34
      have h034 : φ34 0 = σ.1 23 0 := Eq.trans h034 h0
      obtain ⟨nn', hk'⟩ := itemR_ok hk hR34
      have hgt := itemR_gt hφ.2.1 hR34
      have hto := too_ge (b := σ.1 29) (t := t) (p := p34)
      have hfg := fr_ge (b := σ.1 29) (t := t) (p := p34)
      refine aw_conv (σ' := setR (setR (setR σ 22 (σ.1 20)) 23 (φ34)) 20 (ν34)) (st' := []) (by first | rfl | (simp (disch := omega) only [setR_at, setR_twice, setL_at, setL_twice, setR_2, setL_1, setR_ne, setL_ne, ne_eq, Nat.reduceEqDiff, not_false_eq_true, pk_us, pk_un]; done) | ((try simp (disch := omega) only [setR_at, setR_twice, setL_at, setL_twice, setR_2, setL_1, setR_ne, setL_ne, ne_eq, Nat.reduceEqDiff, not_false_eq_true, pk_us, pk_un]); refine Prod.ext (funext fun z => ?_) rfl; simp only [setR]; (repeat' split) <;> first | rfl | (exfalso; omega))) rfl (by first | rfl | (simp (disch := omega) only [setR_at, setR_twice, setL_at, setL_twice, setR_2, setL_1, setR_ne, setL_ne, ne_eq, Nat.reduceEqDiff, not_false_eq_true, pk_us, pk_un]; done) | ((try simp (disch := omega) only [setR_at, setR_twice, setL_at, setL_twice, setR_2, setL_1, setR_ne, setL_ne, ne_eq, Nat.reduceEqDiff, not_false_eq_true, pk_us, pk_un]); refine Prod.ext (funext fun z => ?_) rfl; simp only [setR]; (repeat' split) <;> first | rfl | (exfalso; omega))) ?_
      refine aw_iincN (pc := 37) C 0 c [(1, .int (nI (c + 1))), (2, .int 1), (0, .ref 73)] dX9_text_37 rfl rfl rfl (Nat.le_of_ble_eq_true rfl) rfl ?_
      refine aw_aload_n (pc := 40) C 2 dX9_text_40 rfl ?_
      refine aw_bipush (pc := 41) (v := 59) C dX9_text_41 rfl ?_
      refine aw_cVI (pc := 43) C (c_X9_isSign _ t p34 (by simp (disch := omega) only [setR_at, setR_twice, setL_at, setL_twice, setR_2, setL_1, setR_ne, setL_ne, ne_eq, Nat.reduceEqDiff, not_false_eq_true, pk_us, pk_un]; exact hφ34) 59 ) lk_X9_316 sh73 rfl dX9_text_43 (by decide) (Nat.le_of_ble_eq_true rfl) rfl rfl ?_
      refine aw_conv (σ' := setR (setR (setR σ 22 (σ.1 20)) 23 (φ34)) 20 (ν34)) (st' := [.int (b2i (srt (σ.1 29) t p34 = 3 ∧ σ.1 29 (fr (σ.1 29) t p34) = 59))]) (by first | rfl | (simp (disch := omega) only [setR_at, setR_twice, setL_at, setL_twice, setR_2, setL_1, setR_ne, setL_ne, ne_eq, Nat.reduceEqDiff, not_false_eq_true, pk_us, pk_un]; done) | ((try simp (disch := omega) only [setR_at, setR_twice, setL_at, setL_twice, setR_2, setL_1, setR_ne, setL_ne, ne_eq, Nat.reduceEqDiff, not_false_eq_true, pk_us, pk_un]); refine Prod.ext (funext fun z => ?_) rfl; simp only [setR]; (repeat' split) <;> first | rfl | (exfalso; omega))) rfl (by first | rfl | (simp (disch := omega) only [setR_at, setR_twice, setL_at, setL_twice, setR_2, setL_1, setR_ne, setL_ne, ne_eq, Nat.reduceEqDiff, not_false_eq_true, pk_us, pk_un]; done) | ((try simp (disch := omega) only [setR_at, setR_twice, setL_at, setL_twice, setR_2, setL_1, setR_ne, setL_ne, ne_eq, Nat.reduceEqDiff, not_false_eq_true, pk_us, pk_un]); refine Prod.ext (funext fun z => ?_) rfl; simp only [setR]; (repeat' split) <;> first | rfl | (exfalso; omega))) ?_
      by_cases hs : srt (σ.1 29) t p34 = 3 ∧ σ.1 29 (fr (σ.1 29) t p34) = 59
      · refine aw_top C (1) (b2i_t hs) ?_
        refine aw_istore_n (pc := 46) C [(2, .int 1), (1, .int (nI (c + 1))), (0, .ref 73)] dX9_text_46 (Nat.le_of_ble_eq_true rfl) rfl ?_
        refine aw_iload_n (pc := 47) C 0 dX9_text_47 rfl ?_
        refine aw_if_eq (pc := 48) C 29 dX9_text_48 (by decide) (fun h48 => absurd h48 (by decide)) (fun h48 => ?_)
        refine aw_aload_n (pc := 51) C 2 dX9_text_51 rfl ?_
        refine aw_callV (pc := 52) C (c_X9_tok _ t p34 (by simp (disch := omega) only [setR_at, setR_twice, setL_at, setL_twice, setR_2, setL_1, setR_ne, setL_ne, ne_eq, Nat.reduceEqDiff, not_false_eq_true, pk_us, pk_un]; exact hφ34) ) lk_X9_261 sh73 rfl (by decide) rfl (Nat.le_of_ble_eq_true rfl) dX9_text_52 rfl (fun w s hq => ?_)
        rcases hq with ⟨φ52, hφ52, h052, rfl, rfl⟩
        have hφ52 : TK φ52 (σ.1 29) t (too (σ.1 29) t p34) 0 := hφ52
        have h052 : φ52 0 = σ.1 23 0 := Eq.trans h052 h034
        refine aw_conv (σ' := setR (setR (setR σ 22 (σ.1 20)) 23 (φ52)) 20 (ν34)) (st' := []) (by first | rfl | (simp (disch := omega) only [setR_at, setR_twice, setL_at, setL_twice, setR_2, setL_1, setR_ne, setL_ne, ne_eq, Nat.reduceEqDiff, not_false_eq_true, pk_us, pk_un]; done) | ((try simp (disch := omega) only [setR_at, setR_twice, setL_at, setL_twice, setR_2, setL_1, setR_ne, setL_ne, ne_eq, Nat.reduceEqDiff, not_false_eq_true, pk_us, pk_un]); refine Prod.ext (funext fun z => ?_) rfl; simp only [setR]; (repeat' split) <;> first | rfl | (exfalso; omega))) rfl (by first | rfl | (simp (disch := omega) only [setR_at, setR_twice, setL_at, setL_twice, setR_2, setL_1, setR_ne, setL_ne, ne_eq, Nat.reduceEqDiff, not_false_eq_true, pk_us, pk_un]; done) | ((try simp (disch := omega) only [setR_at, setR_twice, setL_at, setL_twice, setR_2, setL_1, setR_ne, setL_ne, ne_eq, Nat.reduceEqDiff, not_false_eq_true, pk_us, pk_un]); refine Prod.ext (funext fun z => ?_) rfl; simp only [setR]; (repeat' split) <;> first | rfl | (exfalso; omega))) ?_
        refine aw_goto (pc := 55) C 29 dX9_text_55 (by decide) ?_
        refine aw_lvs C [1, 0, 2] [(1, .int (nI (c + 1))), (2, .int 1), (0, .ref 73)] rfl ?_
        exact aw_conv (σ' := setR (setR (setR σ 22 (σ.1 20)) 23 (φ52)) 20 (ν34)) (lv' := [(1, .int (nI (c + 1))), (2, .int 1), (0, .ref 73)]) rfl rfl rfl (ih29 (by omega) _ _ (c + 1) _ nn' hφ52 h052 hk' (by omega) (by omega) (hT.trans (by simp only [textR, hR34, if_pos hs])))
      · refine aw_top C (0) (b2i_f hs) ?_
        refine aw_istore_n (pc := 46) C [(2, .int 0), (1, .int (nI (c + 1))), (0, .ref 73)] dX9_text_46 (Nat.le_of_ble_eq_true rfl) rfl ?_
        refine aw_iload_n (pc := 47) C 0 dX9_text_47 rfl ?_
        refine aw_if_eq (pc := 48) C 29 dX9_text_48 (by decide) (fun h48 => ?_) (fun h48 => absurd h48 (by decide))
        refine aw_iload_n (pc := 29) C 0 dX9_text_29 rfl ?_
        refine aw_if_eq (pc := 30) C 58 dX9_text_30 (by decide) (fun h30 => ?_) (fun h30 => absurd h30 (by decide))
        refine aw_aload_n (pc := 58) C 2 dX9_text_58 rfl ?_
        refine aw_aload_n (pc := 59) C 2 dX9_text_59 rfl ?_
        refine aw_gld (pc := 60) C (φ34 6) fl_X9_244 sh73 rfl dX9_text_60 (by first | rfl | (simp (disch := omega) only [setR_at, setR_twice, setL_at, setL_twice, setR_2, setL_1, setR_ne, setL_ne, ne_eq, Nat.reduceEqDiff, not_false_eq_true, pk_us, pk_un]; done) | ((try simp (disch := omega) only [setR_at, setR_twice, setL_at, setL_twice, setR_2, setL_1, setR_ne, setL_ne, ne_eq, Nat.reduceEqDiff, not_false_eq_true, pk_us, pk_un]); refine Prod.ext (funext fun z => ?_) rfl; simp only [setR]; (repeat' split) <;> first | rfl | (exfalso; omega))) ?_
        refine aw_top C (0) hφ34.2.2.2.2.2.2.2 ?_
        refine aw_if_ne (pc := 63) C 73 dX9_text_63 (by decide) (fun h63 => absurd h63 (by decide)) (fun h63 => ?_)
        refine aw_aload_n (pc := 66) C 2 dX9_text_66 rfl ?_
        refine aw_gld (pc := 67) C (φ34 2) fl_X9_241 sh73 rfl dX9_text_67 (by first | rfl | (simp (disch := omega) only [setR_at, setR_twice, setL_at, setL_twice, setR_2, setL_1, setR_ne, setL_ne, ne_eq, Nat.reduceEqDiff, not_false_eq_true, pk_us, pk_un]; done) | ((try simp (disch := omega) only [setR_at, setR_twice, setL_at, setL_twice, setR_2, setL_1, setR_ne, setL_ne, ne_eq, Nat.reduceEqDiff, not_false_eq_true, pk_us, pk_un]); refine Prod.ext (funext fun z => ?_) rfl; simp only [setR]; (repeat' split) <;> first | rfl | (exfalso; omega))) ?_
        refine aw_top C (srt (σ.1 29) t p34) (hφ34.2.2.2.1) ?_
        refine aw_if_eq (pc := 70) C 77 dX9_text_70 (by decide) (fun h70 => ?_) (fun h70 => ?_)
        · refine aw_iconst (pc := 77) (v := 0) C dX9_text_77 rfl ?_
          refine aw_pstZ (pc := 78) C (setR (setR (setR σ 22 (σ.1 20)) 23 (upd φ34 6 (0))) 20 (ν34)) fp_X9_244 sh73 rfl rfl rfl dX9_text_78 (by first | (simp (disch := omega) only [setR_at, setR_twice, setL_at, setL_twice, setR_2, setL_1, setR_ne, setL_ne, ne_eq, Nat.reduceEqDiff, not_false_eq_true, pk_us, pk_un]; done) | (refine Prod.ext (funext fun z => ?_) rfl; simp only [setR, if_true, if_false]; (repeat' split) <;> first | rfl | (exfalso; omega) | (funext y; simp only [upd]; (repeat' split) <;> first | rfl | (exfalso; omega)))) ?_
          refine aw_aload_n (pc := 81) C 2 dX9_text_81 rfl ?_
          refine aw_gld (pc := 82) C (φ34 3) fl_X9_231 sh73 rfl dX9_text_82 (by first | rfl | (simp (disch := omega) only [setR_at, setR_twice, setL_at, setL_twice, setR_2, setL_1, setR_ne, setL_ne, ne_eq, Nat.reduceEqDiff, not_false_eq_true, pk_us, pk_un]; done) | ((try simp (disch := omega) only [setR_at, setR_twice, setL_at, setL_twice, setR_2, setL_1, setR_ne, setL_ne, ne_eq, Nat.reduceEqDiff, not_false_eq_true, pk_us, pk_un]); refine Prod.ext (funext fun z => ?_) rfl; simp only [setR]; (repeat' split) <;> first | rfl | (exfalso; omega))) ?_
          refine aw_top C (nI (fr (σ.1 29) t p34)) hφ34.2.2.2.2.1 ?_
          refine aw_istore_n (pc := 85) C [(3, .int (nI (fr (σ.1 29) t p34))), (2, .int 0), (1, .int (nI (c + 1))), (0, .ref 73)] dX9_text_85 (Nat.le_of_ble_eq_true rfl) rfl ?_
          refine aw_aload_n (pc := 86) C 3 dX9_text_86 rfl ?_
          refine aw_iconst (pc := 87) (v := 0) C dX9_text_87 rfl ?_
          refine aw_pst (pc := 88) C (setR (setR (setR σ 22 (σ.1 20)) 23 (upd (upd φ34 6 (0)) 1 (0))) 20 (ν34)) fp_X9_224 sh73 rfl dX9_text_88 (by first | (simp (disch := omega) only [setR_at, setR_twice, setL_at, setL_twice, setR_2, setL_1, setR_ne, setL_ne, ne_eq, Nat.reduceEqDiff, not_false_eq_true, pk_us, pk_un]; done) | (refine Prod.ext (funext fun z => ?_) rfl; simp only [setR, if_true, if_false]; (repeat' split) <;> first | rfl | (exfalso; omega) | (funext y; simp only [upd]; (repeat' split) <;> first | rfl | (exfalso; omega)))) ?_
          refine aw_aload_n (pc := 91) C 3 dX9_text_91 rfl ?_
          refine aw_gld (pc := 92) C (0) fl_X9_244 sh73 rfl dX9_text_92 (by first | rfl | (simp (disch := omega) only [setR_at, setR_twice, setL_at, setL_twice, setR_2, setL_1, setR_ne, setL_ne, ne_eq, Nat.reduceEqDiff, not_false_eq_true, pk_us, pk_un]; done) | ((try simp (disch := omega) only [setR_at, setR_twice, setL_at, setL_twice, setR_2, setL_1, setR_ne, setL_ne, ne_eq, Nat.reduceEqDiff, not_false_eq_true, pk_us, pk_un]); refine Prod.ext (funext fun z => ?_) rfl; simp only [setR]; (repeat' split) <;> first | rfl | (exfalso; omega))) ?_
          refine aw_if_ne (pc := 95) C 100 dX9_text_95 (by decide) (fun h95 => absurd h95 (by decide)) (fun h95 => ?_)
          have hTf : textR (σ.1 29) t 121 0 (σ.1 20) 0 = .inr (c + 1, ν34) := hT.trans (by simp only [textR, hR34, if_neg hs, if_pos h70])
          refine aw_iload_n (pc := 98) C 2 dX9_text_98 rfl ?_
          exact aw_iretP (pc := 99) C rfl dX9_text_99 ⟨upd (upd φ34 6 (0)) 1 (0), h034, rfl, (fun r h1 h2 h3 => by simp only [setR, if_neg h1, if_neg h2, if_neg h3]), rfl, rfl, Or.inr ⟨c + 1, ν34, hTf, rfl, rfl⟩⟩
        · refine aw_iconst (pc := 73) (v := 1) C dX9_text_73 rfl ?_
          refine aw_goto (pc := 74) C 78 dX9_text_74 (by decide) ?_
          refine aw_pstZ (pc := 78) C (setR (setR (setR σ 22 (σ.1 20)) 23 (upd φ34 6 (1))) 20 (ν34)) fp_X9_244 sh73 rfl rfl rfl dX9_text_78 (by first | (simp (disch := omega) only [setR_at, setR_twice, setL_at, setL_twice, setR_2, setL_1, setR_ne, setL_ne, ne_eq, Nat.reduceEqDiff, not_false_eq_true, pk_us, pk_un]; done) | (refine Prod.ext (funext fun z => ?_) rfl; simp only [setR, if_true, if_false]; (repeat' split) <;> first | rfl | (exfalso; omega) | (funext y; simp only [upd]; (repeat' split) <;> first | rfl | (exfalso; omega)))) ?_
          refine aw_aload_n (pc := 81) C 2 dX9_text_81 rfl ?_
          refine aw_gld (pc := 82) C (φ34 3) fl_X9_231 sh73 rfl dX9_text_82 (by first | rfl | (simp (disch := omega) only [setR_at, setR_twice, setL_at, setL_twice, setR_2, setL_1, setR_ne, setL_ne, ne_eq, Nat.reduceEqDiff, not_false_eq_true, pk_us, pk_un]; done) | ((try simp (disch := omega) only [setR_at, setR_twice, setL_at, setL_twice, setR_2, setL_1, setR_ne, setL_ne, ne_eq, Nat.reduceEqDiff, not_false_eq_true, pk_us, pk_un]); refine Prod.ext (funext fun z => ?_) rfl; simp only [setR]; (repeat' split) <;> first | rfl | (exfalso; omega))) ?_
          refine aw_top C (nI (fr (σ.1 29) t p34)) hφ34.2.2.2.2.1 ?_
          refine aw_istore_n (pc := 85) C [(3, .int (nI (fr (σ.1 29) t p34))), (2, .int 0), (1, .int (nI (c + 1))), (0, .ref 73)] dX9_text_85 (Nat.le_of_ble_eq_true rfl) rfl ?_
          refine aw_aload_n (pc := 86) C 3 dX9_text_86 rfl ?_
          refine aw_iconst (pc := 87) (v := 0) C dX9_text_87 rfl ?_
          refine aw_pst (pc := 88) C (setR (setR (setR σ 22 (σ.1 20)) 23 (upd (upd φ34 6 (1)) 1 (0))) 20 (ν34)) fp_X9_224 sh73 rfl dX9_text_88 (by first | (simp (disch := omega) only [setR_at, setR_twice, setL_at, setL_twice, setR_2, setL_1, setR_ne, setL_ne, ne_eq, Nat.reduceEqDiff, not_false_eq_true, pk_us, pk_un]; done) | (refine Prod.ext (funext fun z => ?_) rfl; simp only [setR, if_true, if_false]; (repeat' split) <;> first | rfl | (exfalso; omega) | (funext y; simp only [upd]; (repeat' split) <;> first | rfl | (exfalso; omega)))) ?_
          refine aw_aload_n (pc := 91) C 3 dX9_text_91 rfl ?_
          refine aw_gld (pc := 92) C (1) fl_X9_244 sh73 rfl dX9_text_92 (by first | rfl | (simp (disch := omega) only [setR_at, setR_twice, setL_at, setL_twice, setR_2, setL_1, setR_ne, setL_ne, ne_eq, Nat.reduceEqDiff, not_false_eq_true, pk_us, pk_un]; done) | ((try simp (disch := omega) only [setR_at, setR_twice, setL_at, setL_twice, setR_2, setL_1, setR_ne, setL_ne, ne_eq, Nat.reduceEqDiff, not_false_eq_true, pk_us, pk_un]); refine Prod.ext (funext fun z => ?_) rfl; simp only [setR]; (repeat' split) <;> first | rfl | (exfalso; omega))) ?_
          refine aw_if_ne (pc := 95) C 100 dX9_text_95 (by decide) (fun h95 => ?_) (fun h95 => absurd h95 (by decide))
          have hTf : textR (σ.1 29) t 121 0 (σ.1 20) 0 = .inl p34 := hT.trans (by simp only [textR, hR34, if_neg hs, if_neg h70])
          refine aw_aload_n (pc := 100) C 3 dX9_text_100 rfl ?_
          refine aw_getR (pc := 101) C fl_X9_16 sh73 rfl dX9_text_101 ?_
          refine aw_aload_n (pc := 104) C 3 dX9_text_104 rfl ?_
          refine aw_getR (pc := 105) C fl_X9_9 sh73 rfl dX9_text_105 ?_
          refine aw_cS0 (pc := 108) C (c_X9_row_76_74 _  ) lk_X9_166 dX9_text_108 (by decide) (Nat.le_of_ble_eq_true rfl) rfl rfl ?_
          refine aw_conv (σ' := setR (setR (setR σ 22 (σ.1 20)) 23 (upd (upd φ34 6 (1)) 1 (0))) 20 (σ.1 20)) (st' := []) (by first | rfl | (simp (disch := omega) only [setR_at, setR_twice, setL_at, setL_twice, setR_2, setL_1, setR_ne, setL_ne, ne_eq, Nat.reduceEqDiff, not_false_eq_true, pk_us, pk_un]; done) | ((try simp (disch := omega) only [setR_at, setR_twice, setL_at, setL_twice, setR_2, setL_1, setR_ne, setL_ne, ne_eq, Nat.reduceEqDiff, not_false_eq_true, pk_us, pk_un]); refine Prod.ext (funext fun z => ?_) rfl; simp only [setR]; (repeat' split) <;> first | rfl | (exfalso; omega))) rfl (by first | rfl | (simp (disch := omega) only [setR_at, setR_twice, setL_at, setL_twice, setR_2, setL_1, setR_ne, setL_ne, ne_eq, Nat.reduceEqDiff, not_false_eq_true, pk_us, pk_un]; done) | ((try simp (disch := omega) only [setR_at, setR_twice, setL_at, setL_twice, setR_2, setL_1, setR_ne, setL_ne, ne_eq, Nat.reduceEqDiff, not_false_eq_true, pk_us, pk_un]); refine Prod.ext (funext fun z => ?_) rfl; simp only [setR]; (repeat' split) <;> first | rfl | (exfalso; omega))) ?_
          refine aw_iconst (pc := 111) (v := (-1)) C dX9_text_111 rfl ?_
          refine aw_iload_n (pc := 112) C 0 dX9_text_112 rfl ?_
          refine aw_isub (pc := 113) C dX9_text_113 ?_
          exact aw_iretP (pc := 114) C rfl dX9_text_114 ⟨upd (upd φ34 6 (1)) 1 (0), h034, rfl, (fun r h1 h2 h3 => by simp only [setR, if_neg h1, if_neg h2, if_neg h3]), rfl, rfl, Or.inl ⟨p34, hTf, rfl, rfl⟩⟩
