/-! the reference: ITEMS -/
theorem c_X9_groundItem (σ : St) (t p : Nat) (hA : TK (σ.1 23) (σ.1 29) t p 0) (g : Int32) : AMet Y_X9_groundItem [.ref 73, .int g] σ (ItO σ t (gR (σ.1 29) t (σ.1 20) p g)) := by
  refine am_intro (by decide +kernel) (Nat.le_of_ble_eq_true rfl) (fun K C => ?_)
  refine aw_aload_n (pc := 0) C 0 dX9_groundItem_0 rfl ?_
  refine aw_callV (pc := 1) C (c_X9_tok _ t p hA ) lk_X9_261 sh73 rfl (by decide) rfl (Nat.le_of_ble_eq_true rfl) dX9_groundItem_1 rfl (fun w s hq => ?_)
  rcases hq with ⟨φ1, hφ1, h01, rfl, rfl⟩
  have hφ1 : TK φ1 (σ.1 29) t (too (σ.1 29) t p) 0 := hφ1
  have h01 : φ1 0 = σ.1 23 0 := h01
  refine aw_conv (σ' := setR σ 23 (φ1)) (st' := []) (by first | rfl | (simp (disch := omega) only [setR_at, setR_twice, setL_at, setL_twice, setR_2, setL_1, setR_ne, setL_ne, ne_eq, Nat.reduceEqDiff, not_false_eq_true, pk_us, pk_un]; done) | ((try simp (disch := omega) only [setR_at, setR_twice, setL_at, setL_twice, setR_2, setL_1, setR_ne, setL_ne, ne_eq, Nat.reduceEqDiff, not_false_eq_true, pk_us, pk_un]); refine Prod.ext (funext fun z => ?_) rfl; simp only [setR]; (repeat' split) <;> first | rfl | (exfalso; omega))) rfl (by first | rfl | (simp (disch := omega) only [setR_at, setR_twice, setL_at, setL_twice, setR_2, setL_1, setR_ne, setL_ne, ne_eq, Nat.reduceEqDiff, not_false_eq_true, pk_us, pk_un]; done) | ((try simp (disch := omega) only [setR_at, setR_twice, setL_at, setL_twice, setR_2, setL_1, setR_ne, setL_ne, ne_eq, Nat.reduceEqDiff, not_false_eq_true, pk_us, pk_un]); refine Prod.ext (funext fun z => ?_) rfl; simp only [setR]; (repeat' split) <;> first | rfl | (exfalso; omega))) ?_
  refine aw_aload_n (pc := 4) C 0 dX9_groundItem_4 rfl ?_
  refine aw_iconst (pc := 5) (v := 0) C dX9_groundItem_5 rfl ?_
  refine aw_bipush (pc := 6) (v := 29) C dX9_groundItem_6 rfl ?_
  refine aw_callV (pc := 8) C (c_X9_number _ t (too (σ.1 29) t p) (by simp (disch := omega) only [setR_at, setR_twice, setL_at, setL_twice, setR_2, setL_1, setR_ne, setL_ne, ne_eq, Nat.reduceEqDiff, not_false_eq_true, pk_us, pk_un]; exact hφ1) 0 29 ) lk_X9_287 sh73 rfl (by decide) rfl (Nat.le_of_ble_eq_true rfl) dX9_groundItem_8 rfl (fun w s hq => ?_)
  rcases hq with ⟨hw8, rfl, φ8, hφ8, h08, rfl⟩ | ⟨hw8, rfl, φ8, hφ8, h08, rfl⟩
  · have hw8 : numP (σ.1 29) t (too (σ.1 29) t p) 0 29 := hw8
    have hφ8 : TK φ8 (σ.1 29) t (too (σ.1 29) t (too (σ.1 29) t p)) 0 := hφ8
    have h08 : φ8 0 = σ.1 23 0 := Eq.trans h08 h01
    refine aw_conv (σ' := setR σ 23 (φ8)) (st' := [.int (val (σ.1 29) t (too (σ.1 29) t p))]) (by first | rfl | (simp (disch := omega) only [setR_at, setR_twice, setL_at, setL_twice, setR_2, setL_1, setR_ne, setL_ne, ne_eq, Nat.reduceEqDiff, not_false_eq_true, pk_us, pk_un]; done) | ((try simp (disch := omega) only [setR_at, setR_twice, setL_at, setL_twice, setR_2, setL_1, setR_ne, setL_ne, ne_eq, Nat.reduceEqDiff, not_false_eq_true, pk_us, pk_un]); refine Prod.ext (funext fun z => ?_) rfl; simp only [setR]; (repeat' split) <;> first | rfl | (exfalso; omega))) rfl (by first | rfl | (simp (disch := omega) only [setR_at, setR_twice, setL_at, setL_twice, setR_2, setL_1, setR_ne, setL_ne, ne_eq, Nat.reduceEqDiff, not_false_eq_true, pk_us, pk_un]; done) | ((try simp (disch := omega) only [setR_at, setR_twice, setL_at, setL_twice, setR_2, setL_1, setR_ne, setL_ne, ne_eq, Nat.reduceEqDiff, not_false_eq_true, pk_us, pk_un]); refine Prod.ext (funext fun z => ?_) rfl; simp only [setR]; (repeat' split) <;> first | rfl | (exfalso; omega))) ?_
    obtain ⟨aa, ea, -, haa⟩ := rg 0 29 hw8.2 (by omega) (by omega)
    have e1 : numR (σ.1 29) t (too (σ.1 29) t p) 0 29 = .inr (nI aa, too (σ.1 29) t (too (σ.1 29) t p)) := by rw [numR, if_pos hw8, ea]
    refine aw_top C (nI (aa)) ea ?_
    refine aw_istore_n (pc := 11) C [(2, .int (nI aa)), (0, .ref 73), (1, .int g)] dX9_groundItem_11 (Nat.le_of_ble_eq_true rfl) rfl ?_
    refine aw_aload_n (pc := 12) C 1 dX9_groundItem_12 rfl ?_
    refine aw_ldcwS (pc := 13) (i := 22) C dX9_groundItem_13 rfl ?_
    refine aw_callV (pc := 16) C (c_X9_takesW _ t (too (σ.1 29) t (too (σ.1 29) t p)) (by simp (disch := omega) only [setR_at, setR_twice, setL_at, setL_twice, setR_2, setL_1, setR_ne, setL_ne, ne_eq, Nat.reduceEqDiff, not_false_eq_true, pk_us, pk_un]; exact hφ8) 22 _ rfl ) lk_X9_290 sh73 rfl (by decide) rfl (Nat.le_of_ble_eq_true rfl) dX9_groundItem_16 rfl (fun w s hq => ?_)
    rcases hq with ⟨hw16, rfl, φ16, hφ16, h016, rfl⟩ | ⟨hw16, rfl, hs16⟩
    · have hw16 : wdB (σ.1 29) t (too (σ.1 29) t (too (σ.1 29) t p)) 5 = true := hw16
      have hφ16 : TK φ16 (σ.1 29) t (too (σ.1 29) t (too (σ.1 29) t (too (σ.1 29) t p))) 0 := hφ16
      have h016 : φ16 0 = σ.1 23 0 := Eq.trans h016 h08
      refine aw_conv (σ' := setR σ 23 (φ16)) (st' := [.int 1]) (by first | rfl | (simp (disch := omega) only [setR_at, setR_twice, setL_at, setL_twice, setR_2, setL_1, setR_ne, setL_ne, ne_eq, Nat.reduceEqDiff, not_false_eq_true, pk_us, pk_un]; done) | ((try simp (disch := omega) only [setR_at, setR_twice, setL_at, setL_twice, setR_2, setL_1, setR_ne, setL_ne, ne_eq, Nat.reduceEqDiff, not_false_eq_true, pk_us, pk_un]); refine Prod.ext (funext fun z => ?_) rfl; simp only [setR]; (repeat' split) <;> first | rfl | (exfalso; omega))) rfl (by first | rfl | (simp (disch := omega) only [setR_at, setR_twice, setL_at, setL_twice, setR_2, setL_1, setR_ne, setL_ne, ne_eq, Nat.reduceEqDiff, not_false_eq_true, pk_us, pk_un]; done) | ((try simp (disch := omega) only [setR_at, setR_twice, setL_at, setL_twice, setR_2, setL_1, setR_ne, setL_ne, ne_eq, Nat.reduceEqDiff, not_false_eq_true, pk_us, pk_un]); refine Prod.ext (funext fun z => ?_) rfl; simp only [setR]; (repeat' split) <;> first | rfl | (exfalso; omega))) ?_
      refine aw_if_eq (pc := 19) C 32 dX9_groundItem_19 (by decide) (fun h19 => absurd h19 (by decide)) (fun h19 => ?_)
      refine aw_aload_n (pc := 22) C 1 dX9_groundItem_22 rfl ?_
      refine aw_iload_n (pc := 23) C 0 dX9_groundItem_23 rfl ?_
      refine aw_bipush (pc := 24) (v := 29) C dX9_groundItem_24 rfl ?_
      refine aw_callV (pc := 26) C (c_X9_number _ t (too (σ.1 29) t (too (σ.1 29) t (too (σ.1 29) t p))) (by simp (disch := omega) only [setR_at, setR_twice, setL_at, setL_twice, setR_2, setL_1, setR_ne, setL_ne, ne_eq, Nat.reduceEqDiff, not_false_eq_true, pk_us, pk_un]; exact hφ16) (nI (aa)) 29 ) lk_X9_287 sh73 rfl (by decide) rfl (Nat.le_of_ble_eq_true rfl) dX9_groundItem_26 rfl (fun w s hq => ?_)
      rcases hq with ⟨hw26, rfl, φ26, hφ26, h026, rfl⟩ | ⟨hw26, rfl, φ26, hφ26, h026, rfl⟩
      · have hw26 : numP (σ.1 29) t (too (σ.1 29) t (too (σ.1 29) t (too (σ.1 29) t p))) (nI (aa)) 29 := hw26
        have hφ26 : TK φ26 (σ.1 29) t (too (σ.1 29) t (too (σ.1 29) t (too (σ.1 29) t (too (σ.1 29) t p)))) 0 := hφ26
        have h026 : φ26 0 = σ.1 23 0 := Eq.trans h026 h016
        refine aw_conv (σ' := setR σ 23 (φ26)) (st' := [.int (val (σ.1 29) t (too (σ.1 29) t (too (σ.1 29) t (too (σ.1 29) t p))))]) (by first | rfl | (simp (disch := omega) only [setR_at, setR_twice, setL_at, setL_twice, setR_2, setL_1, setR_ne, setL_ne, ne_eq, Nat.reduceEqDiff, not_false_eq_true, pk_us, pk_un]; done) | ((try simp (disch := omega) only [setR_at, setR_twice, setL_at, setL_twice, setR_2, setL_1, setR_ne, setL_ne, ne_eq, Nat.reduceEqDiff, not_false_eq_true, pk_us, pk_un]); refine Prod.ext (funext fun z => ?_) rfl; simp only [setR]; (repeat' split) <;> first | rfl | (exfalso; omega))) rfl (by first | rfl | (simp (disch := omega) only [setR_at, setR_twice, setL_at, setL_twice, setR_2, setL_1, setR_ne, setL_ne, ne_eq, Nat.reduceEqDiff, not_false_eq_true, pk_us, pk_un]; done) | ((try simp (disch := omega) only [setR_at, setR_twice, setL_at, setL_twice, setR_2, setL_1, setR_ne, setL_ne, ne_eq, Nat.reduceEqDiff, not_false_eq_true, pk_us, pk_un]); refine Prod.ext (funext fun z => ?_) rfl; simp only [setR]; (repeat' split) <;> first | rfl | (exfalso; omega))) ?_
        refine aw_goto (pc := 29) C 33 dX9_groundItem_29 (by decide) ?_
        obtain ⟨ll, el, hl1, hl2⟩ := rg aa 29 hw26.2 (by omega) (by omega)
        have e2 : numR (σ.1 29) t (too (σ.1 29) t (too (σ.1 29) t (too (σ.1 29) t p))) (nI aa) 29 = .inr (nI ll, too (σ.1 29) t (too (σ.1 29) t (too (σ.1 29) t (too (σ.1 29) t p)))) := by rw [numR, if_pos hw26, el]
        refine aw_top C (nI (ll)) el ?_
        refine aw_istore_n (pc := 33) C [(3, .int (nI ll)), (2, .int (nI aa)), (0, .ref 73), (1, .int g)] dX9_groundItem_33 (Nat.le_of_ble_eq_true rfl) rfl ?_
        refine aw_iload_n (pc := 34) C 1 dX9_groundItem_34 rfl ?_
        refine aw_istore (pc := 35) C [(4, .int (nI aa)), (3, .int (nI ll)), (2, .int (nI aa)), (0, .ref 73), (1, .int g)] dX9_groundItem_35 (Nat.le_of_ble_eq_true rfl) rfl ?_
        refine aw_lvs C [0, 1, 2, 3, 4] [(4, .int (nI aa)), (3, .int (nI ll)), (2, .int (nI aa)), (0, .ref 73), (1, .int g)] rfl ?_
        refine aw_conv (σ' := setR (setR σ 23 (φ26)) 20 (gfK (σ.1 20) aa 0 g)) (lv' := [(4, .int (nI (aa + 0))), (3, .int (nI ll)), (2, .int (nI aa)), (0, .ref 73), (1, .int g)]) (by rw [gfK_0]; exact (setR_same _ 20).symm) rfl rfl ?_
        refine loop_up (P := fun k => AW _ K _ (setR (setR σ 23 (φ26)) 20 (gfK (σ.1 20) aa k g)) 37 [(4, .int (nI (aa + k))), (3, .int (nI ll)), (2, .int (nI aa)), (0, .ref 73), (1, .int g)] []) (ll + 1 - aa) ?_ ?_ 0 (by omega) 
        · refine aw_iload (pc := 37) C 0 dX9_groundItem_37 rfl ?_
          refine aw_iload_n (pc := 39) C 1 dX9_groundItem_39 rfl ?_
          refine aw_icmp_gtN (pc := 40) C (aa + (ll + 1 - aa)) ll 66 rfl rfl (by omega) (by omega) dX9_groundItem_40 (by decide) (fun h40 => ?_) (fun h40 => absurd h40 (by omega))
          exact aw_vretP (pc := 66) C rfl dX9_groundItem_66 (Or.inr ⟨φ26, gfK (σ.1 20) aa (ll + 1 - aa) g, too (σ.1 29) t (too (σ.1 29) t (too (σ.1 29) t (too (σ.1 29) t p))), rfl, h026, (by rw [gfK_e (by omega)]; simp only [gR, gndR, e1, if_pos hw16, e2, cl_nI (show aa < 2147483648 by omega), cl_nI (show ll < 2147483648 by omega)]), hφ26, rfl⟩)
        · intro k hk37 ih37 
          refine aw_iload (pc := 37) C 0 dX9_groundItem_37 rfl ?_
          refine aw_iload_n (pc := 39) C 1 dX9_groundItem_39 rfl ?_
          refine aw_icmp_gtN (pc := 40) C (aa + k) ll 66 rfl rfl (by omega) (by omega) dX9_groundItem_40 (by decide) (fun h40 => absurd h40 (by omega)) (fun h40 => ?_)
          refine aw_aload_n (pc := 43) C 3 dX9_groundItem_43 rfl ?_
          refine aw_gld (pc := 44) C (φ26 6) fl_X9_244 sh73 rfl dX9_groundItem_44 (by first | rfl | (simp (disch := omega) only [setR_at, setR_twice, setL_at, setL_twice, setR_2, setL_1, setR_ne, setL_ne, ne_eq, Nat.reduceEqDiff, not_false_eq_true, pk_us, pk_un]; done) | ((try simp (disch := omega) only [setR_at, setR_twice, setL_at, setL_twice, setR_2, setL_1, setR_ne, setL_ne, ne_eq, Nat.reduceEqDiff, not_false_eq_true, pk_us, pk_un]); refine Prod.ext (funext fun z => ?_) rfl; simp only [setR]; (repeat' split) <;> first | rfl | (exfalso; omega))) ?_
          refine aw_top C (0) hφ26.2.2.2.2.2.2.2 ?_
          refine aw_if_ne (pc := 47) C 66 dX9_groundItem_47 (by decide) (fun h47 => absurd h47 (by decide)) (fun h47 => ?_)
          refine aw_aload_n (pc := 50) C 3 dX9_groundItem_50 rfl ?_
          refine aw_getR (pc := 51) C fl_X9_9 sh73 rfl dX9_groundItem_51 ?_
          refine aw_iconst (pc := 54) (v := 3) C dX9_groundItem_54 rfl ?_
          refine aw_iload (pc := 55) C 0 dX9_groundItem_55 rfl ?_
          refine aw_iaddN (pc := 57) C 3 (aa + k) rfl rfl dX9_groundItem_57 ?_
          refine aw_iload_n (pc := 58) C 4 dX9_groundItem_58 rfl ?_
          refine aw_ist (pc := 59) (k := 3 + (aa + k)) C (3 + (aa + k)) (setR (setR σ 23 (φ26)) 20 (upd (gfK (σ.1 20) aa k g) (3 + (aa + k)) (g))) sh74 dX9_groundItem_59 rfl (by omega) rfl (by first | rfl | (simp (disch := omega) only [setR_at, setR_twice, setL_at, setL_twice, setR_2, setL_1, setR_ne, setL_ne, ne_eq, Nat.reduceEqDiff, not_false_eq_true, pk_us, pk_un]; done) | ((try simp (disch := omega) only [setR_at, setR_twice, setL_at, setL_twice, setR_2, setL_1, setR_ne, setL_ne, ne_eq, Nat.reduceEqDiff, not_false_eq_true, pk_us, pk_un]); refine Prod.ext (funext fun z => ?_) rfl; simp only [setR]; (repeat' split) <;> first | rfl | (exfalso; omega))) ?_
          refine aw_iincN (pc := 60) C 0 (aa + k) [(4, .int (nI (aa + k + 1))), (3, .int (nI ll)), (2, .int (nI aa)), (0, .ref 73), (1, .int g)] dX9_groundItem_60 rfl rfl rfl (Nat.le_of_ble_eq_true rfl) rfl ?_
          refine aw_goto (pc := 63) C 37 dX9_groundItem_63 (by decide) ?_
          refine aw_lvs C [0, 1, 2, 3, 4] [(4, .int (nI (aa + k + 1))), (3, .int (nI ll)), (2, .int (nI aa)), (0, .ref 73), (1, .int g)] rfl ?_
          exact aw_conv (σ' := setR (setR σ 23 (φ26)) 20 (gfK (σ.1 20) aa (k + 1) g)) (lv' := [(4, .int (nI (aa + (k + 1)))), (3, .int (nI ll)), (2, .int (nI aa)), (0, .ref 73), (1, .int g)]) (by rw [gfK_s]) rfl rfl ih37
      · have hw26 : ¬ numP (σ.1 29) t (too (σ.1 29) t (too (σ.1 29) t (too (σ.1 29) t p))) (nI (aa)) 29 := hw26
        have hφ26 : TK φ26 (σ.1 29) t (too (σ.1 29) t (too (σ.1 29) t (too (σ.1 29) t p))) 1 := hφ26
        have h026 : φ26 0 = σ.1 23 0 := Eq.trans h026 h016
        refine aw_conv (σ' := setR σ 23 (φ26)) (st' := [.int (val (σ.1 29) t (too (σ.1 29) t (too (σ.1 29) t (too (σ.1 29) t p))))]) (by first | rfl | (simp (disch := omega) only [setR_at, setR_twice, setL_at, setL_twice, setR_2, setL_1, setR_ne, setL_ne, ne_eq, Nat.reduceEqDiff, not_false_eq_true, pk_us, pk_un]; done) | ((try simp (disch := omega) only [setR_at, setR_twice, setL_at, setL_twice, setR_2, setL_1, setR_ne, setL_ne, ne_eq, Nat.reduceEqDiff, not_false_eq_true, pk_us, pk_un]); refine Prod.ext (funext fun z => ?_) rfl; simp only [setR]; (repeat' split) <;> first | rfl | (exfalso; omega))) rfl (by first | rfl | (simp (disch := omega) only [setR_at, setR_twice, setL_at, setL_twice, setR_2, setL_1, setR_ne, setL_ne, ne_eq, Nat.reduceEqDiff, not_false_eq_true, pk_us, pk_un]; done) | ((try simp (disch := omega) only [setR_at, setR_twice, setL_at, setL_twice, setR_2, setL_1, setR_ne, setL_ne, ne_eq, Nat.reduceEqDiff, not_false_eq_true, pk_us, pk_un]); refine Prod.ext (funext fun z => ?_) rfl; simp only [setR]; (repeat' split) <;> first | rfl | (exfalso; omega))) ?_
        refine aw_goto (pc := 29) C 33 dX9_groundItem_29 (by decide) ?_
        have e2 : numR (σ.1 29) t (too (σ.1 29) t (too (σ.1 29) t (too (σ.1 29) t p))) (nI aa) 29 = .inl (too (σ.1 29) t (too (σ.1 29) t (too (σ.1 29) t p))) := by rw [numR, if_neg hw26]
        refine aw_istore_n (pc := 33) C [(3, .int (val (σ.1 29) t (too (σ.1 29) t (too (σ.1 29) t (too (σ.1 29) t p))))), (2, .int (nI aa)), (0, .ref 73), (1, .int g)] dX9_groundItem_33 (Nat.le_of_ble_eq_true rfl) rfl ?_
        refine aw_iload_n (pc := 34) C 1 dX9_groundItem_34 rfl ?_
        refine aw_istore (pc := 35) C [(4, .int (nI aa)), (3, .int (val (σ.1 29) t (too (σ.1 29) t (too (σ.1 29) t (too (σ.1 29) t p))))), (2, .int (nI aa)), (0, .ref 73), (1, .int g)] dX9_groundItem_35 (Nat.le_of_ble_eq_true rfl) rfl ?_
        refine aw_iload (pc := 37) C 0 dX9_groundItem_37 rfl ?_
        refine aw_iload_n (pc := 39) C 1 dX9_groundItem_39 rfl ?_
        refine aw_icmp_gt (pc := 40) C 66 dX9_groundItem_40 (by decide) (fun h40 => ?_) (fun h40 => ?_)
        · exact aw_vretP (pc := 66) C rfl dX9_groundItem_66 (Or.inl ⟨φ26, too (σ.1 29) t (too (σ.1 29) t (too (σ.1 29) t p)), σ.1 20, rfl, h026, (by simp only [gR, gndR, e1, if_pos hw16, e2]), hφ26, (setR_same (setR σ 23 φ26) 20).symm⟩)
        · refine aw_aload_n (pc := 43) C 3 dX9_groundItem_43 rfl ?_
          refine aw_gld (pc := 44) C (φ26 6) fl_X9_244 sh73 rfl dX9_groundItem_44 (by first | rfl | (simp (disch := omega) only [setR_at, setR_twice, setL_at, setL_twice, setR_2, setL_1, setR_ne, setL_ne, ne_eq, Nat.reduceEqDiff, not_false_eq_true, pk_us, pk_un]; done) | ((try simp (disch := omega) only [setR_at, setR_twice, setL_at, setL_twice, setR_2, setL_1, setR_ne, setL_ne, ne_eq, Nat.reduceEqDiff, not_false_eq_true, pk_us, pk_un]); refine Prod.ext (funext fun z => ?_) rfl; simp only [setR]; (repeat' split) <;> first | rfl | (exfalso; omega))) ?_
          refine aw_top C (1) hφ26.2.2.2.2.2.2.2 ?_
          refine aw_if_ne (pc := 47) C 66 dX9_groundItem_47 (by decide) (fun h47 => ?_) (fun h47 => absurd h47 (by decide))
          exact aw_vretP (pc := 66) C rfl dX9_groundItem_66 (Or.inl ⟨φ26, too (σ.1 29) t (too (σ.1 29) t (too (σ.1 29) t p)), σ.1 20, rfl, h026, (by simp only [gR, gndR, e1, if_pos hw16, e2]), hφ26, (setR_same (setR σ 23 φ26) 20).symm⟩)
    · rw [hs16]
      have hw16 : ¬ wdB (σ.1 29) t (too (σ.1 29) t (too (σ.1 29) t p)) 5 = true := hw16
      refine aw_conv (σ' := setR σ 23 (φ8)) (st' := [.int 0]) (by first | rfl | (simp (disch := omega) only [setR_at, setR_twice, setL_at, setL_twice, setR_2, setL_1, setR_ne, setL_ne, ne_eq, Nat.reduceEqDiff, not_false_eq_true, pk_us, pk_un]; done) | ((try simp (disch := omega) only [setR_at, setR_twice, setL_at, setL_twice, setR_2, setL_1, setR_ne, setL_ne, ne_eq, Nat.reduceEqDiff, not_false_eq_true, pk_us, pk_un]); refine Prod.ext (funext fun z => ?_) rfl; simp only [setR]; (repeat' split) <;> first | rfl | (exfalso; omega))) rfl (by first | rfl | (simp (disch := omega) only [setR_at, setR_twice, setL_at, setL_twice, setR_2, setL_1, setR_ne, setL_ne, ne_eq, Nat.reduceEqDiff, not_false_eq_true, pk_us, pk_un]; done) | ((try simp (disch := omega) only [setR_at, setR_twice, setL_at, setL_twice, setR_2, setL_1, setR_ne, setL_ne, ne_eq, Nat.reduceEqDiff, not_false_eq_true, pk_us, pk_un]); refine Prod.ext (funext fun z => ?_) rfl; simp only [setR]; (repeat' split) <;> first | rfl | (exfalso; omega))) ?_
      refine aw_if_eq (pc := 19) C 32 dX9_groundItem_19 (by decide) (fun h19 => ?_) (fun h19 => absurd h19 (by decide))
      refine aw_iload_n (pc := 32) C 0 dX9_groundItem_32 rfl ?_
      refine aw_istore_n (pc := 33) C [(3, .int (nI aa)), (2, .int (nI aa)), (0, .ref 73), (1, .int g)] dX9_groundItem_33 (Nat.le_of_ble_eq_true rfl) rfl ?_
      refine aw_iload_n (pc := 34) C 1 dX9_groundItem_34 rfl ?_
      refine aw_istore (pc := 35) C [(4, .int (nI aa)), (3, .int (nI aa)), (2, .int (nI aa)), (0, .ref 73), (1, .int g)] dX9_groundItem_35 (Nat.le_of_ble_eq_true rfl) rfl ?_
      refine aw_lvs C [0, 1, 2, 3, 4] [(4, .int (nI aa)), (3, .int (nI aa)), (2, .int (nI aa)), (0, .ref 73), (1, .int g)] rfl ?_
      refine aw_conv (σ' := setR (setR σ 23 (φ8)) 20 (gfK (σ.1 20) aa 0 g)) (lv' := [(4, .int (nI (aa + 0))), (3, .int (nI aa)), (2, .int (nI aa)), (0, .ref 73), (1, .int g)]) (by rw [gfK_0]; exact (setR_same _ 20).symm) rfl rfl ?_
      refine loop_up (P := fun k => AW _ K _ (setR (setR σ 23 (φ8)) 20 (gfK (σ.1 20) aa k g)) 37 [(4, .int (nI (aa + k))), (3, .int (nI aa)), (2, .int (nI aa)), (0, .ref 73), (1, .int g)] []) (aa + 1 - aa) ?_ ?_ 0 (by omega) 
      · refine aw_iload (pc := 37) C 0 dX9_groundItem_37 rfl ?_
        refine aw_iload_n (pc := 39) C 1 dX9_groundItem_39 rfl ?_
        refine aw_icmp_gtN (pc := 40) C (aa + (aa + 1 - aa)) aa 66 rfl rfl (by omega) (by omega) dX9_groundItem_40 (by decide) (fun h40 => ?_) (fun h40 => absurd h40 (by omega))
        exact aw_vretP (pc := 66) C rfl dX9_groundItem_66 (Or.inr ⟨φ8, gfK (σ.1 20) aa (aa + 1 - aa) g, too (σ.1 29) t (too (σ.1 29) t p), rfl, h08, (by rw [gfK_e (by omega)]; simp only [gR, gndR, e1, if_neg hw16, cl_nI (show aa < 2147483648 by omega)]), hφ8, rfl⟩)
      · intro k hk37 ih37 
        refine aw_iload (pc := 37) C 0 dX9_groundItem_37 rfl ?_
        refine aw_iload_n (pc := 39) C 1 dX9_groundItem_39 rfl ?_
        refine aw_icmp_gtN (pc := 40) C (aa + k) aa 66 rfl rfl (by omega) (by omega) dX9_groundItem_40 (by decide) (fun h40 => absurd h40 (by omega)) (fun h40 => ?_)
        refine aw_aload_n (pc := 43) C 3 dX9_groundItem_43 rfl ?_
        refine aw_gld (pc := 44) C (φ8 6) fl_X9_244 sh73 rfl dX9_groundItem_44 (by first | rfl | (simp (disch := omega) only [setR_at, setR_twice, setL_at, setL_twice, setR_2, setL_1, setR_ne, setL_ne, ne_eq, Nat.reduceEqDiff, not_false_eq_true, pk_us, pk_un]; done) | ((try simp (disch := omega) only [setR_at, setR_twice, setL_at, setL_twice, setR_2, setL_1, setR_ne, setL_ne, ne_eq, Nat.reduceEqDiff, not_false_eq_true, pk_us, pk_un]); refine Prod.ext (funext fun z => ?_) rfl; simp only [setR]; (repeat' split) <;> first | rfl | (exfalso; omega))) ?_
        refine aw_top C (0) hφ8.2.2.2.2.2.2.2 ?_
        refine aw_if_ne (pc := 47) C 66 dX9_groundItem_47 (by decide) (fun h47 => absurd h47 (by decide)) (fun h47 => ?_)
        refine aw_aload_n (pc := 50) C 3 dX9_groundItem_50 rfl ?_
        refine aw_getR (pc := 51) C fl_X9_9 sh73 rfl dX9_groundItem_51 ?_
        refine aw_iconst (pc := 54) (v := 3) C dX9_groundItem_54 rfl ?_
        refine aw_iload (pc := 55) C 0 dX9_groundItem_55 rfl ?_
        refine aw_iaddN (pc := 57) C 3 (aa + k) rfl rfl dX9_groundItem_57 ?_
        refine aw_iload_n (pc := 58) C 4 dX9_groundItem_58 rfl ?_
        refine aw_ist (pc := 59) (k := 3 + (aa + k)) C (3 + (aa + k)) (setR (setR σ 23 (φ8)) 20 (upd (gfK (σ.1 20) aa k g) (3 + (aa + k)) (g))) sh74 dX9_groundItem_59 rfl (by omega) rfl (by first | rfl | (simp (disch := omega) only [setR_at, setR_twice, setL_at, setL_twice, setR_2, setL_1, setR_ne, setL_ne, ne_eq, Nat.reduceEqDiff, not_false_eq_true, pk_us, pk_un]; done) | ((try simp (disch := omega) only [setR_at, setR_twice, setL_at, setL_twice, setR_2, setL_1, setR_ne, setL_ne, ne_eq, Nat.reduceEqDiff, not_false_eq_true, pk_us, pk_un]); refine Prod.ext (funext fun z => ?_) rfl; simp only [setR]; (repeat' split) <;> first | rfl | (exfalso; omega))) ?_
        refine aw_iincN (pc := 60) C 0 (aa + k) [(4, .int (nI (aa + k + 1))), (3, .int (nI aa)), (2, .int (nI aa)), (0, .ref 73), (1, .int g)] dX9_groundItem_60 rfl rfl rfl (Nat.le_of_ble_eq_true rfl) rfl ?_
        refine aw_goto (pc := 63) C 37 dX9_groundItem_63 (by decide) ?_
        refine aw_lvs C [0, 1, 2, 3, 4] [(4, .int (nI (aa + k + 1))), (3, .int (nI aa)), (2, .int (nI aa)), (0, .ref 73), (1, .int g)] rfl ?_
        exact aw_conv (σ' := setR (setR σ 23 (φ8)) 20 (gfK (σ.1 20) aa (k + 1) g)) (lv' := [(4, .int (nI (aa + (k + 1)))), (3, .int (nI aa)), (2, .int (nI aa)), (0, .ref 73), (1, .int g)]) (by rw [gfK_s]) rfl rfl ih37
  · have hw8 : ¬ numP (σ.1 29) t (too (σ.1 29) t p) 0 29 := hw8
    have hφ8 : TK φ8 (σ.1 29) t (too (σ.1 29) t p) 1 := hφ8
    have h08 : φ8 0 = σ.1 23 0 := Eq.trans h08 h01
    refine aw_conv (σ' := setR σ 23 (φ8)) (st' := [.int (val (σ.1 29) t (too (σ.1 29) t p))]) (by first | rfl | (simp (disch := omega) only [setR_at, setR_twice, setL_at, setL_twice, setR_2, setL_1, setR_ne, setL_ne, ne_eq, Nat.reduceEqDiff, not_false_eq_true, pk_us, pk_un]; done) | ((try simp (disch := omega) only [setR_at, setR_twice, setL_at, setL_twice, setR_2, setL_1, setR_ne, setL_ne, ne_eq, Nat.reduceEqDiff, not_false_eq_true, pk_us, pk_un]); refine Prod.ext (funext fun z => ?_) rfl; simp only [setR]; (repeat' split) <;> first | rfl | (exfalso; omega))) rfl (by first | rfl | (simp (disch := omega) only [setR_at, setR_twice, setL_at, setL_twice, setR_2, setL_1, setR_ne, setL_ne, ne_eq, Nat.reduceEqDiff, not_false_eq_true, pk_us, pk_un]; done) | ((try simp (disch := omega) only [setR_at, setR_twice, setL_at, setL_twice, setR_2, setL_1, setR_ne, setL_ne, ne_eq, Nat.reduceEqDiff, not_false_eq_true, pk_us, pk_un]); refine Prod.ext (funext fun z => ?_) rfl; simp only [setR]; (repeat' split) <;> first | rfl | (exfalso; omega))) ?_
    have e1 : numR (σ.1 29) t (too (σ.1 29) t p) 0 29 = .inl (too (σ.1 29) t p) := by rw [numR, if_neg hw8]
    refine aw_istore_n (pc := 11) C [(2, .int (val (σ.1 29) t (too (σ.1 29) t p))), (0, .ref 73), (1, .int g)] dX9_groundItem_11 (Nat.le_of_ble_eq_true rfl) rfl ?_
    refine aw_aload_n (pc := 12) C 1 dX9_groundItem_12 rfl ?_
    refine aw_ldcwS (pc := 13) (i := 22) C dX9_groundItem_13 rfl ?_
    refine aw_cVI (pc := 16) C (c_X9_takesW_b _ (by simp (disch := omega) only [setR_at, setR_twice, setL_at, setL_twice, setR_2, setL_1, setR_ne, setL_ne, ne_eq, Nat.reduceEqDiff, not_false_eq_true, pk_us, pk_un]; exact hφ8.2.2.2.2.2.2.2) 22 _ rfl ) lk_X9_290 sh73 rfl dX9_groundItem_16 (by decide) (Nat.le_of_ble_eq_true rfl) rfl rfl ?_
    refine aw_conv (σ' := setR σ 23 (φ8)) (st' := [.int 0]) (by first | rfl | (simp (disch := omega) only [setR_at, setR_twice, setL_at, setL_twice, setR_2, setL_1, setR_ne, setL_ne, ne_eq, Nat.reduceEqDiff, not_false_eq_true, pk_us, pk_un]; done) | ((try simp (disch := omega) only [setR_at, setR_twice, setL_at, setL_twice, setR_2, setL_1, setR_ne, setL_ne, ne_eq, Nat.reduceEqDiff, not_false_eq_true, pk_us, pk_un]); refine Prod.ext (funext fun z => ?_) rfl; simp only [setR]; (repeat' split) <;> first | rfl | (exfalso; omega))) rfl (by first | rfl | (simp (disch := omega) only [setR_at, setR_twice, setL_at, setL_twice, setR_2, setL_1, setR_ne, setL_ne, ne_eq, Nat.reduceEqDiff, not_false_eq_true, pk_us, pk_un]; done) | ((try simp (disch := omega) only [setR_at, setR_twice, setL_at, setL_twice, setR_2, setL_1, setR_ne, setL_ne, ne_eq, Nat.reduceEqDiff, not_false_eq_true, pk_us, pk_un]); refine Prod.ext (funext fun z => ?_) rfl; simp only [setR]; (repeat' split) <;> first | rfl | (exfalso; omega))) ?_
    refine aw_if_eq (pc := 19) C 32 dX9_groundItem_19 (by decide) (fun h19 => ?_) (fun h19 => absurd h19 (by decide))
    refine aw_iload_n (pc := 32) C 0 dX9_groundItem_32 rfl ?_
    refine aw_istore_n (pc := 33) C [(3, .int (val (σ.1 29) t (too (σ.1 29) t p))), (2, .int (val (σ.1 29) t (too (σ.1 29) t p))), (0, .ref 73), (1, .int g)] dX9_groundItem_33 (Nat.le_of_ble_eq_true rfl) rfl ?_
    refine aw_iload_n (pc := 34) C 1 dX9_groundItem_34 rfl ?_
    refine aw_istore (pc := 35) C [(4, .int (val (σ.1 29) t (too (σ.1 29) t p))), (3, .int (val (σ.1 29) t (too (σ.1 29) t p))), (2, .int (val (σ.1 29) t (too (σ.1 29) t p))), (0, .ref 73), (1, .int g)] dX9_groundItem_35 (Nat.le_of_ble_eq_true rfl) rfl ?_
    refine aw_iload (pc := 37) C 0 dX9_groundItem_37 rfl ?_
    refine aw_iload_n (pc := 39) C 1 dX9_groundItem_39 rfl ?_
    refine aw_icmp_gt (pc := 40) C 66 dX9_groundItem_40 (by decide) (fun h40 => absurd h40 Int32.lt_irrefl) (fun h40 => ?_)
    refine aw_aload_n (pc := 43) C 3 dX9_groundItem_43 rfl ?_
    refine aw_gld (pc := 44) C (φ8 6) fl_X9_244 sh73 rfl dX9_groundItem_44 (by first | rfl | (simp (disch := omega) only [setR_at, setR_twice, setL_at, setL_twice, setR_2, setL_1, setR_ne, setL_ne, ne_eq, Nat.reduceEqDiff, not_false_eq_true, pk_us, pk_un]; done) | ((try simp (disch := omega) only [setR_at, setR_twice, setL_at, setL_twice, setR_2, setL_1, setR_ne, setL_ne, ne_eq, Nat.reduceEqDiff, not_false_eq_true, pk_us, pk_un]); refine Prod.ext (funext fun z => ?_) rfl; simp only [setR]; (repeat' split) <;> first | rfl | (exfalso; omega))) ?_
    refine aw_top C (1) hφ8.2.2.2.2.2.2.2 ?_
    refine aw_if_ne (pc := 47) C 66 dX9_groundItem_47 (by decide) (fun h47 => ?_) (fun h47 => absurd h47 (by decide))
    exact aw_vretP (pc := 66) C rfl dX9_groundItem_66 (Or.inl ⟨φ8, too (σ.1 29) t p, σ.1 20, rfl, h08, (by simp only [gR, gndR, e1]), hφ8, (setR_same (setR σ 23 φ8) 20).symm⟩)
