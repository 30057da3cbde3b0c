/-! the reference: calls of runners and of the race -/
theorem c_X9_isPart (σ : St) (w v : Int32) : AMet Y_X9_isPart [.int w, .int v] σ (fz (some (.int (b2i (partB w v = true)))) (σ)) := by
  refine am_intro (by decide +kernel) (Nat.le_of_ble_eq_true rfl) (fun K C => ?_)
  refine aw_iload_n (pc := 0) C 0 dX9_isPart_0 rfl ?_
  by_cases h1_0 : w = 0
  · refine aw_tableIn (pc := 1) C 32 dX9_isPart_1 (by rw [h1_0]; decide) (by rw [h1_0]; decide) (by rw [h1_0]; rfl) (by decide) ?_
    refine aw_iload_n (pc := 32) C 1 dX9_isPart_32 rfl ?_
    refine aw_cSI (pc := 33) C (c_X9_isKind _ v ) lk_X9_81 dX9_isPart_33 (by decide) (Nat.le_of_ble_eq_true rfl) rfl rfl ?_
    exact aw_zret (pc := 36) C rfl (b2i_nar _) dX9_isPart_36 (b2i_cong (by rw [partB, if_pos h1_0]; exact decide_eq_true_iff.symm)) rfl
  by_cases h1_1 : w = 1
  · refine aw_tableIn (pc := 1) C 37 dX9_isPart_1 (by rw [h1_1]; decide) (by rw [h1_1]; decide) (by rw [h1_1]; rfl) (by decide) ?_
    refine aw_iload_n (pc := 37) C 1 dX9_isPart_37 rfl ?_
    refine aw_i2l (pc := 38) C dX9_isPart_38 ?_
    refine aw_lconst (pc := 39) (v := 0) C dX9_isPart_39 rfl ?_
    refine aw_ldc2 (pc := 40) C dX9_isPart_40 kc_X9_58 ?_
    refine aw_cSI (pc := 43) C (c_X9_in _ v 0 9 _ _ _ rfl (by decide) (by decide)) lk_X9_54 dX9_isPart_43 (by decide) (Nat.le_of_ble_eq_true rfl) rfl rfl ?_
    exact aw_zret (pc := 46) C rfl (b2i_nar _) dX9_isPart_46 (b2i_cong (by rw [partB, if_neg h1_0, if_pos h1_1]; exact decide_eq_true_iff.symm)) rfl
  by_cases h1_2 : w = 2
  · refine aw_tableIn (pc := 1) C 47 dX9_isPart_1 (by rw [h1_2]; decide) (by rw [h1_2]; decide) (by rw [h1_2]; rfl) (by decide) ?_
    refine aw_iload_n (pc := 47) C 1 dX9_isPart_47 rfl ?_
    refine aw_i2l (pc := 48) C dX9_isPart_48 ?_
    refine aw_lconst (pc := 49) (v := 0) C dX9_isPart_49 rfl ?_
    refine aw_ldc2 (pc := 50) C dX9_isPart_50 kc_X9_84 ?_
    refine aw_cSI (pc := 53) C (c_X9_in _ v 0 5 _ _ _ rfl (by decide) (by decide)) lk_X9_54 dX9_isPart_53 (by decide) (Nat.le_of_ble_eq_true rfl) rfl rfl ?_
    exact aw_zret (pc := 56) C rfl (b2i_nar _) dX9_isPart_56 (b2i_cong (by rw [partB, if_neg h1_0, if_neg h1_1, if_pos h1_2]; exact decide_eq_true_iff.symm)) rfl
  by_cases h1_3 : w = 3
  · refine aw_tableIn (pc := 1) C 57 dX9_isPart_1 (by rw [h1_3]; decide) (by rw [h1_3]; decide) (by rw [h1_3]; rfl) (by decide) ?_
    refine aw_iload_n (pc := 57) C 1 dX9_isPart_57 rfl ?_
    refine aw_i2l (pc := 58) C dX9_isPart_58 ?_
    refine aw_lconst (pc := 59) (v := 0) C dX9_isPart_59 rfl ?_
    refine aw_ldc2 (pc := 60) C dX9_isPart_60 kc_X9_99 ?_
    refine aw_cSI (pc := 63) C (c_X9_in _ v 0 30 _ _ _ rfl (by decide) (by decide)) lk_X9_54 dX9_isPart_63 (by decide) (Nat.le_of_ble_eq_true rfl) rfl rfl ?_
    exact aw_zret (pc := 66) C rfl (b2i_nar _) dX9_isPart_66 (b2i_cong (by rw [partB, if_neg h1_0, if_neg h1_1, if_neg h1_2, if_pos h1_3]; exact decide_eq_true_iff.symm)) rfl
  refine aw_tableOut (pc := 1) C 67 dX9_isPart_1 (by have q0 := lv_neT (k := 0) h1_0 (a := 0) (by decide); have q1 := lv_neT (k := 1) h1_1 (a := 1) (by decide); have q2 := lv_neT (k := 2) h1_2 (a := 2) (by decide); have q3 := lv_neT (k := 3) h1_3 (a := 3) (by decide); omega) (by decide) ?_
  refine aw_iload_n (pc := 67) C 0 dX9_isPart_67 rfl ?_
  refine aw_iconst (pc := 68) (v := 5) C dX9_isPart_68 rfl ?_
  refine aw_icmp_ne (pc := 69) C 88 dX9_isPart_69 (by decide) (fun h69 => ?_) (fun h69 => ?_)
  · refine aw_iconst (pc := 88) (v := 0) C dX9_isPart_88 rfl ?_
    exact aw_zret (pc := 89) C rfl rfl dX9_isPart_89 (b2i_f (by rw [partB, if_neg h1_0, if_neg h1_1, if_neg h1_2, if_neg h1_3, if_neg h69]; exact Bool.false_ne_true)).symm rfl
  · refine aw_iload_n (pc := 72) C 1 dX9_isPart_72 rfl ?_
    refine aw_i2l (pc := 73) C dX9_isPart_73 ?_
    refine aw_lconst (pc := 74) (v := 0) C dX9_isPart_74 rfl ?_
    refine aw_ldc2 (pc := 75) C dX9_isPart_75 kc_X9_101 ?_
    refine aw_cSI (pc := 78) C (c_X9_in _ v 0 3 _ _ _ rfl (by decide) (by decide)) lk_X9_54 dX9_isPart_78 (by decide) (Nat.le_of_ble_eq_true rfl) rfl rfl ?_
    refine aw_if_eqB (pc := 81) C 88 dX9_isPart_81 (by decide) (fun h81 => ?_) (fun h81 => ?_)
    · refine aw_iconst (pc := 88) (v := 0) C dX9_isPart_88 rfl ?_
      exact aw_zret (pc := 89) C rfl rfl dX9_isPart_89 (b2i_f (by rw [partB, if_neg h1_0, if_neg h1_1, if_neg h1_2, if_neg h1_3, if_pos h69]; exact fun z => h81 (of_decide_eq_true z))).symm rfl
    · refine aw_iconst (pc := 84) (v := 1) C dX9_isPart_84 rfl ?_
      refine aw_goto (pc := 85) C 89 dX9_isPart_85 (by decide) ?_
      exact aw_zret (pc := 89) C rfl rfl dX9_isPart_89 (b2i_t (by rw [partB, if_neg h1_0, if_neg h1_1, if_neg h1_2, if_neg h1_3, if_pos h69]; exact decide_eq_true h81)).symm rfl
theorem c_X9_change (σ : St) (n : Nat) (hn : σ.1 20 2 = nI n) (hz : n ≤ 6) (r w v : Int32) : AMet Y_X9_change [.ref 73, .int r, .int w, .int v] σ (PM σ (sChange (σ.1 20) n r w v)) := by
  refine am_intro (by decide +kernel) (Nat.le_of_ble_eq_true rfl) (fun K C => ?_)
  refine aw_aload_n (pc := 0) C 0 dX9_change_0 rfl ?_
  refine aw_iload_n (pc := 1) C 1 dX9_change_1 rfl ?_
  refine aw_cVI (pc := 2) C (c_X9_isRunner _ n hn hz r ) lk_X9_91 sh73 rfl dX9_change_2 (by decide) (Nat.le_of_ble_eq_true rfl) rfl rfl ?_
  refine aw_if_eqB (pc := 5) C 33 dX9_change_5 (by decide) (fun h5 => ?_) (fun h5 => ?_)
  · refine aw_aload_n (pc := 33) C 0 dX9_change_33 rfl ?_
    refine aw_ldc (pc := 34) C dX9_change_34 kc_X9_46 ?_
    refine aw_cVI (pc := 36) C (c_X9_finds _ (-100000001) 0 (by decide) (by decide)) lk_X9_48 sh73 rfl dX9_change_36 (by decide) (Nat.le_of_ble_eq_true rfl) rfl rfl ?_
    exact aw_iretP (pc := 39) C rfl dX9_change_39 (pm_of (an' := .inl 0) (by rw [sChange, if_neg (fun z => h5 (z.1))]) rfl rfl)
  · refine aw_iload_n (pc := 8) C 2 dX9_change_8 rfl ?_
    refine aw_iload_n (pc := 9) C 3 dX9_change_9 rfl ?_
    refine aw_cSI (pc := 10) C (c_X9_isPart _ w v ) lk_X9_103 dX9_change_10 (by decide) (Nat.le_of_ble_eq_true rfl) rfl rfl ?_
    refine aw_if_eqB (pc := 13) C 33 dX9_change_13 (by decide) (fun h13 => ?_) (fun h13 => ?_)
    · refine aw_aload_n (pc := 33) C 0 dX9_change_33 rfl ?_
      refine aw_ldc (pc := 34) C dX9_change_34 kc_X9_46 ?_
      refine aw_cVI (pc := 36) C (c_X9_finds _ (-100000001) 0 (by decide) (by decide)) lk_X9_48 sh73 rfl dX9_change_36 (by decide) (Nat.le_of_ble_eq_true rfl) rfl rfl ?_
      exact aw_iretP (pc := 39) C rfl dX9_change_39 (pm_of (an' := .inl 0) (by rw [sChange, if_neg (fun z => h13 (z.2))]) rfl rfl)
    · obtain ⟨rr, rfl, hrr⟩ := rgR h5 hz
      obtain ⟨ww, rfl, hww⟩ := part_w h13
      refine aw_aload_n (pc := 16) C 0 dX9_change_16 rfl ?_
      refine aw_bipush (pc := 17) (v := 33) C dX9_change_17 rfl ?_
      refine aw_bipush (pc := 19) (v := 37) C dX9_change_19 rfl ?_
      refine aw_iload_n (pc := 21) C 1 dX9_change_21 rfl ?_
      refine aw_imulN (pc := 22) C 37 rr rfl rfl dX9_change_22 ?_
      refine aw_iaddN (pc := 23) C 33 (37 * rr) rfl rfl dX9_change_23 ?_
      refine aw_iload_n (pc := 24) C 2 dX9_change_24 rfl ?_
      refine aw_iaddN (pc := 25) C (33 + (37 * rr)) ww rfl rfl dX9_change_25 ?_
      refine aw_iload_n (pc := 26) C 3 dX9_change_26 rfl ?_
      refine aw_cVI (pc := 27) C (c_X9_becomes _ ((33 + (37 * rr)) + ww) v (by omega)) lk_X9_72 sh73 rfl dX9_change_27 (by decide) (Nat.le_of_ble_eq_true rfl) rfl rfl ?_
      refine aw_goto (pc := 30) C 39 dX9_change_30 (by decide) ?_
      exact aw_iretP (pc := 39) C rfl dX9_change_39 (pm_of (an' := .inr (σ.1 20 ((33 + (37 * rr)) + ww), upd (σ.1 20) ((33 + (37 * rr)) + ww) (v))) (by rw [sChange, if_pos ⟨h5, h13⟩, cl_nI (show rr < 2147483648 by omega), cl_nI (show ww < 2147483648 by omega)]) rfl rfl)
theorem c_X9_pace (σ : St) (n : Nat) (hn : σ.1 20 2 = nI n) (hz : n ≤ 6) (r a b v : Int32) : AMet Y_X9_pace [.ref 73, .int r, .int a, .int b, .int v] σ (PM σ (sPace (σ.1 20) n r a b v)) := by
  refine am_intro (by decide +kernel) (Nat.le_of_ble_eq_true rfl) (fun K C => ?_)
  refine aw_aload_n (pc := 0) C 0 dX9_pace_0 rfl ?_
  refine aw_iload_n (pc := 1) C 1 dX9_pace_1 rfl ?_
  refine aw_cVI (pc := 2) C (c_X9_isRunner _ n hn hz r ) lk_X9_91 sh73 rfl dX9_pace_2 (by decide) (Nat.le_of_ble_eq_true rfl) rfl rfl ?_
  refine aw_if_eqB (pc := 5) C 35 dX9_pace_5 (by decide) (fun h5 => ?_) (fun h5 => ?_)
  · refine aw_aload_n (pc := 35) C 0 dX9_pace_35 rfl ?_
    refine aw_ldc (pc := 36) C dX9_pace_36 kc_X9_46 ?_
    refine aw_cVI (pc := 38) C (c_X9_finds _ (-100000001) 0 (by decide) (by decide)) lk_X9_48 sh73 rfl dX9_pace_38 (by decide) (Nat.le_of_ble_eq_true rfl) rfl rfl ?_
    exact aw_iretP (pc := 41) C rfl dX9_pace_41 (pm_of (an' := .inl 0) (by rw [sPace, if_neg (fun z => h5 (z.1))]) rfl rfl)
  · refine aw_iload_n (pc := 8) C 2 dX9_pace_8 rfl ?_
    refine aw_cSI (pc := 9) C (c_X9_isYard _ a ) lk_X9_66 dX9_pace_9 (by decide) (Nat.le_of_ble_eq_true rfl) rfl rfl ?_
    refine aw_if_eqB (pc := 12) C 35 dX9_pace_12 (by decide) (fun h12 => ?_) (fun h12 => ?_)
    · refine aw_aload_n (pc := 35) C 0 dX9_pace_35 rfl ?_
      refine aw_ldc (pc := 36) C dX9_pace_36 kc_X9_46 ?_
      refine aw_cVI (pc := 38) C (c_X9_finds _ (-100000001) 0 (by decide) (by decide)) lk_X9_48 sh73 rfl dX9_pace_38 (by decide) (Nat.le_of_ble_eq_true rfl) rfl rfl ?_
      exact aw_iretP (pc := 41) C rfl dX9_pace_41 (pm_of (an' := .inl 0) (by rw [sPace, if_neg (fun z => h12 (z.2.1))]) rfl rfl)
    · refine aw_iload_n (pc := 15) C 3 dX9_pace_15 rfl ?_
      refine aw_cSI (pc := 16) C (c_X9_isYard _ b ) lk_X9_66 dX9_pace_16 (by decide) (Nat.le_of_ble_eq_true rfl) rfl rfl ?_
      refine aw_if_eqB (pc := 19) C 35 dX9_pace_19 (by decide) (fun h19 => ?_) (fun h19 => ?_)
      · refine aw_aload_n (pc := 35) C 0 dX9_pace_35 rfl ?_
        refine aw_ldc (pc := 36) C dX9_pace_36 kc_X9_46 ?_
        refine aw_cVI (pc := 38) C (c_X9_finds _ (-100000001) 0 (by decide) (by decide)) lk_X9_48 sh73 rfl dX9_pace_38 (by decide) (Nat.le_of_ble_eq_true rfl) rfl rfl ?_
        exact aw_iretP (pc := 41) C rfl dX9_pace_41 (pm_of (an' := .inl 0) (by rw [sPace, if_neg (fun z => h19 (z.2.2.1))]) rfl rfl)
      · refine aw_iload_n (pc := 22) C 2 dX9_pace_22 rfl ?_
        refine aw_iload_n (pc := 23) C 3 dX9_pace_23 rfl ?_
        refine aw_icmp_gt (pc := 24) C 35 dX9_pace_24 (by decide) (fun h24 => ?_) (fun h24 => ?_)
        · refine aw_aload_n (pc := 35) C 0 dX9_pace_35 rfl ?_
          refine aw_ldc (pc := 36) C dX9_pace_36 kc_X9_46 ?_
          refine aw_cVI (pc := 38) C (c_X9_finds _ (-100000001) 0 (by decide) (by decide)) lk_X9_48 sh73 rfl dX9_pace_38 (by decide) (Nat.le_of_ble_eq_true rfl) rfl rfl ?_
          exact aw_iretP (pc := 41) C rfl dX9_pace_41 (pm_of (an' := .inl 0) (by rw [sPace, if_neg (fun z => z.2.2.2.1 h24)]) rfl rfl)
        · refine aw_iload (pc := 27) C 4 dX9_pace_27 rfl ?_
          refine aw_cSI (pc := 29) C (c_X9_isPace _ v ) lk_X9_107 dX9_pace_29 (by decide) (Nat.le_of_ble_eq_true rfl) rfl rfl ?_
          refine aw_if_neB (pc := 32) C 42 dX9_pace_32 (by decide) (fun h32 => ?_) (fun h32 => ?_)
          · obtain ⟨rr, rfl, hrr⟩ := rgR h5 hz
            obtain ⟨aa, rfl, haa0, haa⟩ := rg 0 29 h12 (by omega) (by omega)
            obtain ⟨bb, rfl, hbb0, hbb⟩ := rg 0 29 h19 (by omega) (by omega)
            have hab : aa ≤ bb := by rcases Nat.lt_or_ge bb aa with z | z; exact absurd (nI_lt z (by omega)) h24; exact z
            refine aw_iconst (pc := 42) (v := 0) C dX9_pace_42 rfl ?_
            refine aw_istore (pc := 43) C [(5, .int 0), (0, .ref 73), (1, .int (nI rr)), (2, .int (nI aa)), (3, .int (nI bb)), (4, .int v)] dX9_pace_43 (Nat.le_of_ble_eq_true rfl) rfl ?_
            refine aw_iload_n (pc := 45) C 3 dX9_pace_45 rfl ?_
            refine aw_istore (pc := 46) C [(6, .int (nI aa)), (5, .int 0), (0, .ref 73), (1, .int (nI rr)), (2, .int (nI aa)), (3, .int (nI bb)), (4, .int v)] dX9_pace_46 (Nat.le_of_ble_eq_true rfl) rfl ?_
            refine aw_lvs C [0, 1, 2, 3, 4, 5, 6] [(6, .int (nI aa)), (5, .int 0), (0, .ref 73), (1, .int (nI rr)), (2, .int (nI aa)), (3, .int (nI bb)), (4, .int v)] rfl ?_
            refine aw_conv (σ' := setR σ 20 (paceM (σ.1 20) rr aa v 0)) (lv' := [(6, .int (nI (aa + 0))), (5, .int (paceC (σ.1 20) rr aa v 0)), (0, .ref 73), (1, .int (nI rr)), (2, .int (nI aa)), (3, .int (nI bb)), (4, .int v)]) (setR_same σ 20).symm rfl rfl ?_
            refine loop_up (P := fun k => AW _ K _ (setR σ 20 (paceM (σ.1 20) rr aa v k)) 48 [(6, .int (nI (aa + k))), (5, .int (paceC (σ.1 20) rr aa v k)), (0, .ref 73), (1, .int (nI rr)), (2, .int (nI aa)), (3, .int (nI bb)), (4, .int v)] []) (bb + 1 - aa) ?_ ?_ 0 (by omega) 
            · refine aw_iload (pc := 48) C 0 dX9_pace_48 rfl ?_
              refine aw_iload_n (pc := 50) C 5 dX9_pace_50 rfl ?_
              refine aw_icmp_gtN (pc := 51) C (aa + (bb + 1 - aa)) bb 94 rfl rfl (by omega) (by omega) dX9_pace_51 (by decide) (fun h51 => ?_) (fun h51 => absurd h51 (by omega))
              refine aw_iload (pc := 94) C 1 dX9_pace_94 rfl ?_
              exact aw_iretP (pc := 96) C rfl dX9_pace_96 (pm_of (an' := .inr (paceC (σ.1 20) rr aa v (bb + 1 - aa), paceM (σ.1 20) rr aa v (bb + 1 - aa))) (by rw [sPace, if_pos ⟨h5, h12, h19, h24, h32⟩, cl_nI (show rr < 2147483648 by omega), cl_nI (show aa < 2147483648 by omega), cl_nI (show bb < 2147483648 by omega)]) rfl rfl)
            · intro k hk48 ih48 
              refine aw_iload (pc := 48) C 0 dX9_pace_48 rfl ?_
              refine aw_iload_n (pc := 50) C 5 dX9_pace_50 rfl ?_
              refine aw_icmp_gtN (pc := 51) C (aa + k) bb 94 rfl rfl (by omega) (by omega) dX9_pace_51 (by decide) (fun h51 => absurd h51 (by omega)) (fun h51 => ?_)
              refine aw_iload (pc := 54) C 1 dX9_pace_54 rfl ?_
              refine aw_aload_n (pc := 56) C 2 dX9_pace_56 rfl ?_
              refine aw_bipush (pc := 57) (v := 33) C dX9_pace_57 rfl ?_
              refine aw_bipush (pc := 59) (v := 37) C dX9_pace_59 rfl ?_
              refine aw_iload_n (pc := 61) C 3 dX9_pace_61 rfl ?_
              refine aw_imulN (pc := 62) C 37 rr rfl rfl dX9_pace_62 ?_
              refine aw_iaddN (pc := 63) C 33 (37 * rr) rfl rfl dX9_pace_63 ?_
              refine aw_bipush (pc := 64) (v := 7) C dX9_pace_64 rfl ?_
              refine aw_iaddN (pc := 66) C (33 + (37 * rr)) 7 rfl rfl dX9_pace_66 ?_
              refine aw_iload (pc := 67) C 0 dX9_pace_67 rfl ?_
              refine aw_iaddN (pc := 69) C ((33 + (37 * rr)) + 7) (aa + k) rfl rfl dX9_pace_69 ?_
              refine aw_iload (pc := 70) C 6 dX9_pace_70 rfl ?_
              refine aw_cVI (pc := 72) C (c_X9_becomes _ (((33 + (37 * rr)) + 7) + (aa + k)) v (by omega)) lk_X9_72 sh73 rfl dX9_pace_72 (by decide) (Nat.le_of_ble_eq_true rfl) rfl rfl ?_
              refine aw_conv (σ' := setR σ 20 (upd (paceM (σ.1 20) rr aa v k) (((33 + (37 * rr)) + 7) + (aa + k)) (v))) (st' := [.int ((paceM (σ.1 20) rr aa v k) (((33 + (37 * rr)) + 7) + (aa + k))), .int (paceC (σ.1 20) rr aa v k)]) (by first | rfl | (simp (disch := omega) only [setR_at, setR_twice, setL_at, setL_twice, setR_2, setL_1, setR_ne, setL_ne, ne_eq, Nat.reduceEqDiff, not_false_eq_true, pk_us, pk_un]; done) | ((try simp (disch := omega) only [setR_at, setR_twice, setL_at, setL_twice, setR_2, setL_1, setR_ne, setL_ne, ne_eq, Nat.reduceEqDiff, not_false_eq_true, pk_us, pk_un]); refine Prod.ext (funext fun z => ?_) rfl; simp only [setR]; (repeat' split) <;> first | rfl | (exfalso; omega))) rfl (by first | rfl | (simp (disch := omega) only [setR_at, setR_twice, setL_at, setL_twice, setR_2, setL_1, setR_ne, setL_ne, ne_eq, Nat.reduceEqDiff, not_false_eq_true, pk_us, pk_un]; done) | ((try simp (disch := omega) only [setR_at, setR_twice, setL_at, setL_twice, setR_2, setL_1, setR_ne, setL_ne, ne_eq, Nat.reduceEqDiff, not_false_eq_true, pk_us, pk_un]); refine Prod.ext (funext fun z => ?_) rfl; simp only [setR]; (repeat' split) <;> first | rfl | (exfalso; omega))) ?_
              refine aw_top C (σ.1 20 (33 + 37 * rr + 7 + (aa + k))) (paceM_off (by omega)) ?_
              refine aw_iload (pc := 75) C 6 dX9_pace_75 rfl ?_
              refine aw_icmp_ne (pc := 77) C 84 dX9_pace_77 (by decide) (fun h77 => ?_) (fun h77 => ?_)
              · refine aw_iconst (pc := 84) (v := 1) C dX9_pace_84 rfl ?_
                refine aw_iadd (pc := 85) C dX9_pace_85 ?_
                refine aw_istore (pc := 86) C [(5, .int ((paceC (σ.1 20) rr aa v k) + 1)), (6, .int (nI (aa + k))), (0, .ref 73), (1, .int (nI rr)), (2, .int (nI aa)), (3, .int (nI bb)), (4, .int v)] dX9_pace_86 (Nat.le_of_ble_eq_true rfl) rfl ?_
                refine aw_iincN (pc := 88) C 1 (aa + k) [(6, .int (nI (aa + k + 1))), (5, .int ((paceC (σ.1 20) rr aa v k) + 1)), (0, .ref 73), (1, .int (nI rr)), (2, .int (nI aa)), (3, .int (nI bb)), (4, .int v)] dX9_pace_88 rfl rfl rfl (Nat.le_of_ble_eq_true rfl) rfl ?_
                refine aw_goto (pc := 91) C 48 dX9_pace_91 (by decide) ?_
                refine aw_lvs C [0, 1, 2, 3, 4, 5, 6] [(6, .int (nI (aa + k + 1))), (5, .int ((paceC (σ.1 20) rr aa v k) + 1)), (0, .ref 73), (1, .int (nI rr)), (2, .int (nI aa)), (3, .int (nI bb)), (4, .int v)] rfl ?_
                exact aw_conv (σ' := setR σ 20 (paceM (σ.1 20) rr aa v (k + 1))) (lv' := [(6, .int (nI (aa + (k + 1)))), (5, .int (paceC (σ.1 20) rr aa v (k + 1))), (0, .ref 73), (1, .int (nI rr)), (2, .int (nI aa)), (3, .int (nI bb)), (4, .int v)]) rfl (by rw [paceC, if_neg h77]; rfl) rfl ih48
              · refine aw_iconst (pc := 80) (v := 0) C dX9_pace_80 rfl ?_
                refine aw_goto (pc := 81) C 85 dX9_pace_81 (by decide) ?_
                refine aw_iadd (pc := 85) C dX9_pace_85 ?_
                refine aw_istore (pc := 86) C [(5, .int ((paceC (σ.1 20) rr aa v k) + 0)), (6, .int (nI (aa + k))), (0, .ref 73), (1, .int (nI rr)), (2, .int (nI aa)), (3, .int (nI bb)), (4, .int v)] dX9_pace_86 (Nat.le_of_ble_eq_true rfl) rfl ?_
                refine aw_iincN (pc := 88) C 1 (aa + k) [(6, .int (nI (aa + k + 1))), (5, .int ((paceC (σ.1 20) rr aa v k) + 0)), (0, .ref 73), (1, .int (nI rr)), (2, .int (nI aa)), (3, .int (nI bb)), (4, .int v)] dX9_pace_88 rfl rfl rfl (Nat.le_of_ble_eq_true rfl) rfl ?_
                refine aw_goto (pc := 91) C 48 dX9_pace_91 (by decide) ?_
                refine aw_lvs C [0, 1, 2, 3, 4, 5, 6] [(6, .int (nI (aa + k + 1))), (5, .int ((paceC (σ.1 20) rr aa v k) + 0)), (0, .ref 73), (1, .int (nI rr)), (2, .int (nI aa)), (3, .int (nI bb)), (4, .int v)] rfl ?_
                exact aw_conv (σ' := setR σ 20 (paceM (σ.1 20) rr aa v (k + 1))) (lv' := [(6, .int (nI (aa + (k + 1)))), (5, .int (paceC (σ.1 20) rr aa v (k + 1))), (0, .ref 73), (1, .int (nI rr)), (2, .int (nI aa)), (3, .int (nI bb)), (4, .int v)]) rfl (by rw [paceC, if_pos h77]; rfl) rfl ih48
          · refine aw_aload_n (pc := 35) C 0 dX9_pace_35 rfl ?_
            refine aw_ldc (pc := 36) C dX9_pace_36 kc_X9_46 ?_
            refine aw_cVI (pc := 38) C (c_X9_finds _ (-100000001) 0 (by decide) (by decide)) lk_X9_48 sh73 rfl dX9_pace_38 (by decide) (Nat.le_of_ble_eq_true rfl) rfl rfl ?_
            exact aw_iretP (pc := 41) C rfl dX9_pace_41 (pm_of (an' := .inl 0) (by rw [sPace, if_neg (fun z => h32 (z.2.2.2.2))]) rfl rfl)
theorem c_X9_paceOf (σ : St) (n : Nat) (hn : σ.1 20 2 = nI n) (hz : n ≤ 6) (r y : Int32) : AMet Y_X9_paceOf [.ref 73, .int r, .int y] σ (PM σ (sPaceOf (σ.1 20) n r y)) := by
  refine am_intro (by decide +kernel) (Nat.le_of_ble_eq_true rfl) (fun K C => ?_)
  refine aw_aload_n (pc := 0) C 0 dX9_paceOf_0 rfl ?_
  refine aw_iload_n (pc := 1) C 1 dX9_paceOf_1 rfl ?_
  refine aw_cVI (pc := 2) C (c_X9_isRunner _ n hn hz r ) lk_X9_91 sh73 rfl dX9_paceOf_2 (by decide) (Nat.le_of_ble_eq_true rfl) rfl rfl ?_
  refine aw_if_eqB (pc := 5) C 24 dX9_paceOf_5 (by decide) (fun h5 => ?_) (fun h5 => ?_)
  · refine aw_aload_n (pc := 24) C 0 dX9_paceOf_24 rfl ?_
    refine aw_ldc (pc := 25) C dX9_paceOf_25 kc_X9_46 ?_
    refine aw_cVI (pc := 27) C (c_X9_finds _ (-100000001) 0 (by decide) (by decide)) lk_X9_48 sh73 rfl dX9_paceOf_27 (by decide) (Nat.le_of_ble_eq_true rfl) rfl rfl ?_
    exact aw_iretP (pc := 30) C rfl dX9_paceOf_30 (pm_of (an' := .inl 0) (by rw [sPaceOf, if_neg (fun z => h5 (z.1))]) rfl rfl)
  · refine aw_iload_n (pc := 8) C 2 dX9_paceOf_8 rfl ?_
    refine aw_cSI (pc := 9) C (c_X9_isYard _ y ) lk_X9_66 dX9_paceOf_9 (by decide) (Nat.le_of_ble_eq_true rfl) rfl rfl ?_
    refine aw_if_eqB (pc := 12) C 24 dX9_paceOf_12 (by decide) (fun h12 => ?_) (fun h12 => ?_)
    · refine aw_aload_n (pc := 24) C 0 dX9_paceOf_24 rfl ?_
      refine aw_ldc (pc := 25) C dX9_paceOf_25 kc_X9_46 ?_
      refine aw_cVI (pc := 27) C (c_X9_finds _ (-100000001) 0 (by decide) (by decide)) lk_X9_48 sh73 rfl dX9_paceOf_27 (by decide) (Nat.le_of_ble_eq_true rfl) rfl rfl ?_
      exact aw_iretP (pc := 30) C rfl dX9_paceOf_30 (pm_of (an' := .inl 0) (by rw [sPaceOf, if_neg (fun z => h12 (z.2))]) rfl rfl)
    · obtain ⟨rr, rfl, hrr⟩ := rgR h5 hz
      obtain ⟨yy, rfl, hyy0, hyy⟩ := rg 0 29 h12 (by omega) (by omega)
      refine aw_aload_n (pc := 15) C 0 dX9_paceOf_15 rfl ?_
      refine aw_iload_n (pc := 16) C 1 dX9_paceOf_16 rfl ?_
      refine aw_iload_n (pc := 17) C 2 dX9_paceOf_17 rfl ?_
      refine aw_cVI (pc := 18) C (c_X9_paceAt _ rr yy (by omega) (by omega)) lk_X9_110 sh73 rfl dX9_paceOf_18 (by decide) (Nat.le_of_ble_eq_true rfl) rfl rfl ?_
      refine aw_goto (pc := 21) C 30 dX9_paceOf_21 (by decide) ?_
      exact aw_iretP (pc := 30) C rfl dX9_paceOf_30 (pm_of (an' := .inr ((σ.1 20 (33 + 37 * rr + (7 + yy))), σ.1 20)) (by rw [sPaceOf, if_pos ⟨h5, h12⟩, cl_nI (show rr < 2147483648 by omega), cl_nI (show yy < 2147483648 by omega)]) rfl (setR_same _ 20).symm)
theorem c_X9_told (σ : St) (n : Nat) (hn : σ.1 20 2 = nI n) (hz : n ≤ 6) (r w p : Int32) : AMet Y_X9_told [.ref 73, .int r, .int w, .int p] σ (PM σ (sTold (σ.1 20) n r w p)) := by
  refine am_intro (by decide +kernel) (Nat.le_of_ble_eq_true rfl) (fun K C => ?_)
  refine aw_aload_n (pc := 0) C 0 dX9_told_0 rfl ?_
  refine aw_iload_n (pc := 1) C 1 dX9_told_1 rfl ?_
  refine aw_cVI (pc := 2) C (c_X9_isRunner _ n hn hz r ) lk_X9_91 sh73 rfl dX9_told_2 (by decide) (Nat.le_of_ble_eq_true rfl) rfl rfl ?_
  refine aw_if_eqB (pc := 5) C 25 dX9_told_5 (by decide) (fun h5 => ?_) (fun h5 => ?_)
  · refine aw_aload_n (pc := 25) C 0 dX9_told_25 rfl ?_
    refine aw_ldc (pc := 26) C dX9_told_26 kc_X9_46 ?_
    refine aw_cVI (pc := 28) C (c_X9_finds _ (-100000001) 0 (by decide) (by decide)) lk_X9_48 sh73 rfl dX9_told_28 (by decide) (Nat.le_of_ble_eq_true rfl) rfl rfl ?_
    exact aw_iretP (pc := 31) C rfl dX9_told_31 (pm_of (an' := .inl 0) (by rw [sTold, if_neg (fun z => h5 (z.1))]) rfl rfl)
  · refine aw_iload_n (pc := 8) C 2 dX9_told_8 rfl ?_
    refine aw_i2l (pc := 9) C dX9_told_9 ?_
    refine aw_lconst (pc := 10) (v := 0) C dX9_told_10 rfl ?_
    refine aw_lconst (pc := 11) (v := 1) C dX9_told_11 rfl ?_
    refine aw_cSI (pc := 12) C (c_X9_in _ w 0 1 _ _ _ rfl (by decide) (by decide)) lk_X9_54 dX9_told_12 (by decide) (Nat.le_of_ble_eq_true rfl) rfl rfl ?_
    refine aw_if_eqB (pc := 15) C 25 dX9_told_15 (by decide) (fun h15 => ?_) (fun h15 => ?_)
    · refine aw_aload_n (pc := 25) C 0 dX9_told_25 rfl ?_
      refine aw_ldc (pc := 26) C dX9_told_26 kc_X9_46 ?_
      refine aw_cVI (pc := 28) C (c_X9_finds _ (-100000001) 0 (by decide) (by decide)) lk_X9_48 sh73 rfl dX9_told_28 (by decide) (Nat.le_of_ble_eq_true rfl) rfl rfl ?_
      exact aw_iretP (pc := 31) C rfl dX9_told_31 (pm_of (an' := .inl 0) (by rw [sTold, if_neg (fun z => h15 (z.2.1))]) rfl rfl)
    · refine aw_iload_n (pc := 18) C 3 dX9_told_18 rfl ?_
      refine aw_cSI (pc := 19) C (c_X9_isPace _ p ) lk_X9_107 dX9_told_19 (by decide) (Nat.le_of_ble_eq_true rfl) rfl rfl ?_
      refine aw_if_neB (pc := 22) C 32 dX9_told_22 (by decide) (fun h22 => ?_) (fun h22 => ?_)
      · obtain ⟨rr, rfl, hrr⟩ := rgR h5 hz
        refine aw_iload_n (pc := 32) C 2 dX9_told_32 rfl ?_
        refine aw_if_ne (pc := 33) C 45 dX9_told_33 (by decide) (fun h33 => ?_) (fun h33 => ?_)
        · refine aw_aload_n (pc := 45) C 0 dX9_told_45 rfl ?_
          refine aw_iload_n (pc := 46) C 1 dX9_told_46 rfl ?_
          refine aw_iload_n (pc := 47) C 3 dX9_told_47 rfl ?_
          refine aw_cVI (pc := 48) C (c_X9_rocks _ rr p (by omega)) lk_X9_113 sh73 rfl dX9_told_48 (by decide) (Nat.le_of_ble_eq_true rfl) rfl rfl ?_
          exact aw_iretP (pc := 51) C rfl dX9_told_51 (pm_of (an' := .inr (sRocks (fl (σ.1 20) rr 0) p, σ.1 20)) (by rw [sTold, if_pos ⟨h5, h15, h22⟩, cl_nI (show rr < 2147483648 by omega), if_neg h33]) rfl (setR_same _ 20).symm)
        · refine aw_aload_n (pc := 36) C 0 dX9_told_36 rfl ?_
          refine aw_iload_n (pc := 37) C 1 dX9_told_37 rfl ?_
          refine aw_iload_n (pc := 38) C 3 dX9_told_38 rfl ?_
          refine aw_cVI (pc := 39) C (c_X9_takes _ rr p (by omega)) lk_X9_119 sh73 rfl dX9_told_39 (by decide) (Nat.le_of_ble_eq_true rfl) rfl rfl ?_
          refine aw_goto (pc := 42) C 51 dX9_told_42 (by decide) ?_
          exact aw_iretP (pc := 51) C rfl dX9_told_51 (pm_of (an' := .inr (sTakes (σ.1 20 (33 + 37 * rr + 0)) p, σ.1 20)) (by rw [sTold, if_pos ⟨h5, h15, h22⟩, cl_nI (show rr < 2147483648 by omega), if_pos h33]) rfl (setR_same _ 20).symm)
      · refine aw_aload_n (pc := 25) C 0 dX9_told_25 rfl ?_
        refine aw_ldc (pc := 26) C dX9_told_26 kc_X9_46 ?_
        refine aw_cVI (pc := 28) C (c_X9_finds _ (-100000001) 0 (by decide) (by decide)) lk_X9_48 sh73 rfl dX9_told_28 (by decide) (Nat.le_of_ble_eq_true rfl) rfl rfl ?_
        exact aw_iretP (pc := 31) C rfl dX9_told_31 (pm_of (an' := .inl 0) (by rw [sTold, if_neg (fun z => h22 (z.2.2))]) rfl rfl)
theorem c_X9_odds (σ : St) (n : Nat) (hn : σ.1 20 2 = nI n) (hz : n ≤ 6) (r y p s : Int32) : AMet Y_X9_odds [.ref 73, .int r, .int y, .int p, .int s] σ (PM σ (sOdds (σ.1 20) n r y p s)) := by
  refine am_intro (by decide +kernel) (Nat.le_of_ble_eq_true rfl) (fun K C => ?_)
  refine aw_aload_n (pc := 0) C 0 dX9_odds_0 rfl ?_
  refine aw_iload_n (pc := 1) C 1 dX9_odds_1 rfl ?_
  refine aw_cVI (pc := 2) C (c_X9_isRunner _ n hn hz r ) lk_X9_91 sh73 rfl dX9_odds_2 (by decide) (Nat.le_of_ble_eq_true rfl) rfl rfl ?_
  refine aw_if_eqB (pc := 5) C 33 dX9_odds_5 (by decide) (fun h5 => ?_) (fun h5 => ?_)
  · refine aw_aload_n (pc := 33) C 0 dX9_odds_33 rfl ?_
    refine aw_ldc (pc := 34) C dX9_odds_34 kc_X9_46 ?_
    refine aw_cVI (pc := 36) C (c_X9_finds _ (-100000001) 0 (by decide) (by decide)) lk_X9_48 sh73 rfl dX9_odds_36 (by decide) (Nat.le_of_ble_eq_true rfl) rfl rfl ?_
    exact aw_iretP (pc := 39) C rfl dX9_odds_39 (pm_of (an' := .inl 0) (by rw [sOdds, if_neg (fun z => h5 (z.1))]) rfl rfl)
  · refine aw_iload_n (pc := 8) C 2 dX9_odds_8 rfl ?_
    refine aw_cSI (pc := 9) C (c_X9_isYard _ y ) lk_X9_66 dX9_odds_9 (by decide) (Nat.le_of_ble_eq_true rfl) rfl rfl ?_
    refine aw_if_eqB (pc := 12) C 33 dX9_odds_12 (by decide) (fun h12 => ?_) (fun h12 => ?_)
    · refine aw_aload_n (pc := 33) C 0 dX9_odds_33 rfl ?_
      refine aw_ldc (pc := 34) C dX9_odds_34 kc_X9_46 ?_
      refine aw_cVI (pc := 36) C (c_X9_finds _ (-100000001) 0 (by decide) (by decide)) lk_X9_48 sh73 rfl dX9_odds_36 (by decide) (Nat.le_of_ble_eq_true rfl) rfl rfl ?_
      exact aw_iretP (pc := 39) C rfl dX9_odds_39 (pm_of (an' := .inl 0) (by rw [sOdds, if_neg (fun z => h12 (z.2.1))]) rfl rfl)
    · refine aw_iload_n (pc := 15) C 3 dX9_odds_15 rfl ?_
      refine aw_cSI (pc := 16) C (c_X9_isPace _ p ) lk_X9_107 dX9_odds_16 (by decide) (Nat.le_of_ble_eq_true rfl) rfl rfl ?_
      refine aw_if_eqB (pc := 19) C 33 dX9_odds_19 (by decide) (fun h19 => ?_) (fun h19 => ?_)
      · refine aw_aload_n (pc := 33) C 0 dX9_odds_33 rfl ?_
        refine aw_ldc (pc := 34) C dX9_odds_34 kc_X9_46 ?_
        refine aw_cVI (pc := 36) C (c_X9_finds _ (-100000001) 0 (by decide) (by decide)) lk_X9_48 sh73 rfl dX9_odds_36 (by decide) (Nat.le_of_ble_eq_true rfl) rfl rfl ?_
        exact aw_iretP (pc := 39) C rfl dX9_odds_39 (pm_of (an' := .inl 0) (by rw [sOdds, if_neg (fun z => h19 (z.2.2.1))]) rfl rfl)
      · refine aw_iload (pc := 22) C 4 dX9_odds_22 rfl ?_
        refine aw_i2l (pc := 24) C dX9_odds_24 ?_
        refine aw_lconst (pc := 25) (v := 0) C dX9_odds_25 rfl ?_
        refine aw_lconst (pc := 26) (v := 1) C dX9_odds_26 rfl ?_
        refine aw_cSI (pc := 27) C (c_X9_in _ s 0 1 _ _ _ rfl (by decide) (by decide)) lk_X9_54 dX9_odds_27 (by decide) (Nat.le_of_ble_eq_true rfl) rfl rfl ?_
        refine aw_if_neB (pc := 30) C 40 dX9_odds_30 (by decide) (fun h30 => ?_) (fun h30 => ?_)
        · obtain ⟨rr, rfl, hrr⟩ := rgR h5 hz
          obtain ⟨yy, rfl, hyy0, hyy⟩ := rg 0 29 h12 (by omega) (by omega)
          refine aw_aload_n (pc := 40) C 0 dX9_odds_40 rfl ?_
          refine aw_iload_n (pc := 41) C 1 dX9_odds_41 rfl ?_
          refine aw_iload_n (pc := 42) C 2 dX9_odds_42 rfl ?_
          refine aw_iload_n (pc := 43) C 3 dX9_odds_43 rfl ?_
          refine aw_iload (pc := 44) C 4 dX9_odds_44 rfl ?_
          refine aw_iconst (pc := 46) (v := 1) C dX9_odds_46 rfl ?_
          refine aw_icmp_ne (pc := 47) C 54 dX9_odds_47 (by decide) (fun h47 => ?_) (fun h47 => ?_)
          · refine aw_iconst (pc := 54) (v := 0) C dX9_odds_54 rfl ?_
            refine aw_top C (b2i (s = 1)) (b2i_f h47).symm ?_
            refine aw_iconst (pc := 55) (v := 0) C dX9_odds_55 rfl ?_
            refine aw_cVI (pc := 56) C (c_X9_oddsBy _ rr yy p (s = 1) 0 (by omega) (by omega)) lk_X9_122 sh73 rfl dX9_odds_56 (by decide) (Nat.le_of_ble_eq_true rfl) rfl rfl ?_
            exact aw_iretP (pc := 59) C rfl dX9_odds_59 (pm_of (an' := .inr (oddsM (σ.1 20) rr yy p (shk (s = 1)) 0, σ.1 20)) (by rw [sOdds, if_pos ⟨h5, h12, h19, h30⟩, cl_nI (show rr < 2147483648 by omega), cl_nI (show yy < 2147483648 by omega)]) rfl (setR_same _ 20).symm)
          · refine aw_iconst (pc := 50) (v := 1) C dX9_odds_50 rfl ?_
            refine aw_goto (pc := 51) C 55 dX9_odds_51 (by decide) ?_
            refine aw_top C (b2i (s = 1)) (b2i_t h47).symm ?_
            refine aw_iconst (pc := 55) (v := 0) C dX9_odds_55 rfl ?_
            refine aw_cVI (pc := 56) C (c_X9_oddsBy _ rr yy p (s = 1) 0 (by omega) (by omega)) lk_X9_122 sh73 rfl dX9_odds_56 (by decide) (Nat.le_of_ble_eq_true rfl) rfl rfl ?_
            exact aw_iretP (pc := 59) C rfl dX9_odds_59 (pm_of (an' := .inr (oddsM (σ.1 20) rr yy p (shk (s = 1)) 0, σ.1 20)) (by rw [sOdds, if_pos ⟨h5, h12, h19, h30⟩, cl_nI (show rr < 2147483648 by omega), cl_nI (show yy < 2147483648 by omega)]) rfl (setR_same _ 20).symm)
        · refine aw_aload_n (pc := 33) C 0 dX9_odds_33 rfl ?_
          refine aw_ldc (pc := 34) C dX9_odds_34 kc_X9_46 ?_
          refine aw_cVI (pc := 36) C (c_X9_finds _ (-100000001) 0 (by decide) (by decide)) lk_X9_48 sh73 rfl dX9_odds_36 (by decide) (Nat.le_of_ble_eq_true rfl) rfl rfl ?_
          exact aw_iretP (pc := 39) C rfl dX9_odds_39 (pm_of (an' := .inl 0) (by rw [sOdds, if_neg (fun z => h30 (z.2.2.2))]) rfl rfl)
theorem c_X9_now (σ : St) (n : Nat) (hok : Ok n (σ.1 20)) (r : Int32) : AMet Y_X9_now [.ref 73, .int r] σ (PM σ (sNow (σ.1 20) n r)) := by
  refine am_intro (by decide +kernel) (Nat.le_of_ble_eq_true rfl) (fun K C => ?_)
  have hz := hok.1
  have hn := hok.2.1
  refine aw_aload_n (pc := 0) C 0 dX9_now_0 rfl ?_
  refine aw_iload_n (pc := 1) C 1 dX9_now_1 rfl ?_
  refine aw_cVI (pc := 2) C (c_X9_isRunner _ n hn hz r ) lk_X9_91 sh73 rfl dX9_now_2 (by decide) (Nat.le_of_ble_eq_true rfl) rfl rfl ?_
  refine aw_if_neB (pc := 5) C 15 dX9_now_5 (by decide) (fun h5 => ?_) (fun h5 => ?_)
  · obtain ⟨rr, rfl, hrr⟩ := rgR h5 hz
    refine aw_aload_n (pc := 15) C 0 dX9_now_15 rfl ?_
    refine aw_iload_n (pc := 16) C 1 dX9_now_16 rfl ?_
    refine aw_cVI (pc := 17) C (c_X9_isHome _ rr (by omega)) lk_X9_126 sh73 rfl dX9_now_17 (by decide) (Nat.le_of_ble_eq_true rfl) rfl rfl ?_
    refine aw_if_eqB (pc := 20) C 32 dX9_now_20 (by decide) (fun h20 => ?_) (fun h20 => ?_)
    · obtain ⟨y, hy3, hy⟩ := hok.yard hrr h20
      refine aw_aload_n (pc := 32) C 0 dX9_now_32 rfl ?_
      refine aw_iload_n (pc := 33) C 1 dX9_now_33 rfl ?_
      refine aw_cVI (pc := 34) C (c_X9_oddsNow _ n hn hz rr (by omega) y hy hy3) lk_X9_135 sh73 rfl dX9_now_34 (by decide) (Nat.le_of_ble_eq_true rfl) rfl rfl ?_
      exact aw_iretP (pc := 37) C rfl dX9_now_37 (pm_of (an' := .inr (oddsN (σ.1 20) n rr, σ.1 20)) (by rw [sNow, if_pos h5, cl_nI (show rr < 2147483648 by omega), if_neg h20]) rfl (setR_same _ 20).symm)
    · refine aw_aload_n (pc := 23) C 0 dX9_now_23 rfl ?_
      refine aw_ldc (pc := 24) C dX9_now_24 kc_X9_134 ?_
      refine aw_cVI (pc := 26) C (c_X9_finds _ (-100000005) 4 (by decide) (by decide)) lk_X9_48 sh73 rfl dX9_now_26 (by decide) (Nat.le_of_ble_eq_true rfl) rfl rfl ?_
      refine aw_goto (pc := 29) C 37 dX9_now_29 (by decide) ?_
      exact aw_iretP (pc := 37) C rfl dX9_now_37 (pm_of (an' := .inl 4) (by rw [sNow, if_pos h5, cl_nI (show rr < 2147483648 by omega), if_pos h20]) rfl rfl)
  · refine aw_aload_n (pc := 8) C 0 dX9_now_8 rfl ?_
    refine aw_ldc (pc := 9) C dX9_now_9 kc_X9_46 ?_
    refine aw_cVI (pc := 11) C (c_X9_finds _ (-100000001) 0 (by decide) (by decide)) lk_X9_48 sh73 rfl dX9_now_11 (by decide) (Nat.le_of_ble_eq_true rfl) rfl rfl ?_
    exact aw_iretP (pc := 14) C rfl dX9_now_14 (pm_of (an' := .inl 0) (by rw [sNow, if_neg (fun z => h5 (z))]) rfl rfl)
theorem c_X9_nerves (σ : St) (n : Nat) (hn : σ.1 20 2 = nI n) (hz : n ≤ 6) (r : Int32) : AMet Y_X9_nerves [.ref 73, .int r] σ (PM σ (sNerves (σ.1 20) n r)) := by
  refine am_intro (by decide +kernel) (Nat.le_of_ble_eq_true rfl) (fun K C => ?_)
  refine aw_aload_n (pc := 0) C 0 dX9_nerves_0 rfl ?_
  refine aw_iload_n (pc := 1) C 1 dX9_nerves_1 rfl ?_
  refine aw_cVI (pc := 2) C (c_X9_isRunner _ n hn hz r ) lk_X9_91 sh73 rfl dX9_nerves_2 (by decide) (Nat.le_of_ble_eq_true rfl) rfl rfl ?_
  refine aw_if_eqB (pc := 5) C 16 dX9_nerves_5 (by decide) (fun h5 => ?_) (fun h5 => ?_)
  · refine aw_aload_n (pc := 16) C 0 dX9_nerves_16 rfl ?_
    refine aw_ldc (pc := 17) C dX9_nerves_17 kc_X9_46 ?_
    refine aw_cVI (pc := 19) C (c_X9_finds _ (-100000001) 0 (by decide) (by decide)) lk_X9_48 sh73 rfl dX9_nerves_19 (by decide) (Nat.le_of_ble_eq_true rfl) rfl rfl ?_
    exact aw_iretP (pc := 22) C rfl dX9_nerves_22 (pm_of (an' := .inl 0) (by rw [sNerves, if_neg (fun z => h5 (z))]) rfl rfl)
  · obtain ⟨rr, rfl, hrr⟩ := rgR h5 hz
    refine aw_aload_n (pc := 8) C 0 dX9_nerves_8 rfl ?_
    refine aw_iload_n (pc := 9) C 1 dX9_nerves_9 rfl ?_
    refine aw_cVI (pc := 10) C (c_X9_nervesOf _ n hn hz rr (by omega)) lk_X9_131 sh73 rfl dX9_nerves_10 (by decide) (Nat.le_of_ble_eq_true rfl) rfl rfl ?_
    refine aw_goto (pc := 13) C 22 dX9_nerves_13 (by decide) ?_
    exact aw_iretP (pc := 22) C rfl dX9_nerves_22 (pm_of (an' := .inr (nrv (σ.1 20) rr n, σ.1 20)) (by rw [sNerves, if_pos h5, cl_nI (show rr < 2147483648 by omega)]) rfl (setR_same _ 20).symm)
theorem c_X9_orNone_m (σ : St) : AMet Y_X9_orNone [.ref 73, .int ((-1))] σ (fz (some (.int (-100000004))) (setR σ 24 (upd (σ.1 24) 3 (σ.1 24 3 + 1)))) := by
  refine am_intro (by decide +kernel) (Nat.le_of_ble_eq_true rfl) (fun K C => ?_)
  refine aw_iload_n (pc := 0) C 1 dX9_orNone_0 rfl ?_
  refine aw_if_ge (pc := 1) C 13 dX9_orNone_1 (by decide) (fun h1 => absurd h1 (by decide)) (fun h1 => ?_)
  refine aw_aload_n (pc := 4) C 0 dX9_orNone_4 rfl ?_
  refine aw_ldc (pc := 5) C dX9_orNone_5 kc_X9_47 ?_
  refine aw_cVI (pc := 7) C (c_X9_finds _ (-100000004) 3 (by decide) (by decide)) lk_X9_48 sh73 rfl dX9_orNone_7 (by decide) (Nat.le_of_ble_eq_true rfl) rfl rfl ?_
  refine aw_goto (pc := 10) C 14 dX9_orNone_10 (by decide) ?_
  exact aw_iret (pc := 14) C rfl dX9_orNone_14 rfl rfl
theorem c_X9_orNone_n (σ : St) (b : Nat) (hb : b < 1000) : AMet Y_X9_orNone [.ref 73, .int (nI b)] σ (fz (some (.int (nI b))) (σ)) := by
  refine am_intro (by decide +kernel) (Nat.le_of_ble_eq_true rfl) (fun K C => ?_)
  refine aw_iload_n (pc := 0) C 1 dX9_orNone_0 rfl ?_
  refine aw_if_ge (pc := 1) C 13 dX9_orNone_1 (by decide) (fun h1 => ?_) (fun h1 => absurd h1 (fun z => z (nI_pos' (by omega))))
  refine aw_iload_n (pc := 13) C 1 dX9_orNone_13 rfl ?_
  exact aw_iret (pc := 14) C rfl dX9_orNone_14 rfl rfl
theorem c_X9_next (σ : St) (n : Nat) (hn : σ.1 20 2 = nI n) (hz : n ≤ 6) : AMet Y_X9_next [.ref 73] σ (PM σ (sNext (σ.1 20) n)) := by
  refine am_intro (by decide +kernel) (Nat.le_of_ble_eq_true rfl) (fun K C => ?_)
  refine aw_aload_n (pc := 0) C 0 dX9_next_0 rfl ?_
  refine aw_aload_n (pc := 1) C 0 dX9_next_1 rfl ?_
  refine aw_cVI (pc := 2) C (c_X9_runsNext _ n hn hz ) lk_X9_139 sh73 rfl dX9_next_2 (by decide) (Nat.le_of_ble_eq_true rfl) rfl rfl ?_
  rcases hb : nxt (σ.1 20) n with _ | b
  · refine aw_top C ((-1)) rfl ?_
    refine aw_cVI (pc := 5) C (c_X9_orNone_m _  ) lk_X9_143 sh73 rfl dX9_next_5 (by decide) (Nat.le_of_ble_eq_true rfl) rfl rfl ?_
    exact aw_iretP (pc := 8) C rfl dX9_next_8 (pm_of (an' := .inl 3) (by simp only [sNext, hb]) rfl rfl)
  · have hbl := (nxt_lt hb).1
    refine aw_top C (nI (b)) rfl ?_
    refine aw_cVI (pc := 5) C (c_X9_orNone_n _  b (by omega)) lk_X9_143 sh73 rfl dX9_next_5 (by decide) (Nat.le_of_ble_eq_true rfl) rfl rfl ?_
    exact aw_iretP (pc := 8) C rfl dX9_next_8 (pm_of (an' := .inr (nI (b), σ.1 20)) (by simp only [sNext, hb]) rfl (setR_same _ 20).symm)
theorem c_X9_steps (σ : St) (n : Nat) (hok : Ok n (σ.1 20)) (k : Int32) : AMet Y_X9_steps [.ref 73, .int k] σ (PM σ (sSteps (σ.1 20) n k)) := by
  refine am_intro (by decide +kernel) (Nat.le_of_ble_eq_true rfl) (fun K C => ?_)
  have hz := hok.1
  have hn := hok.2.1
  refine aw_iload_n (pc := 0) C 1 dX9_steps_0 rfl ?_
  refine aw_i2l (pc := 1) C dX9_steps_1 ?_
  refine aw_lconst (pc := 2) (v := 1) C dX9_steps_2 rfl ?_
  refine aw_ldc2 (pc := 3) C dX9_steps_3 kc_X9_152 ?_
  refine aw_cSI (pc := 6) C (c_X9_in _ k 1 180 _ _ _ rfl (by decide) (by decide)) lk_X9_54 dX9_steps_6 (by decide) (Nat.le_of_ble_eq_true rfl) rfl rfl ?_
  refine aw_if_eqB (pc := 9) C 20 dX9_steps_9 (by decide) (fun h9 => ?_) (fun h9 => ?_)
  · refine aw_aload_n (pc := 20) C 0 dX9_steps_20 rfl ?_
    refine aw_ldc (pc := 21) C dX9_steps_21 kc_X9_46 ?_
    refine aw_cVI (pc := 23) C (c_X9_finds _ (-100000001) 0 (by decide) (by decide)) lk_X9_48 sh73 rfl dX9_steps_23 (by decide) (Nat.le_of_ble_eq_true rfl) rfl rfl ?_
    exact aw_iretP (pc := 26) C rfl dX9_steps_26 (pm_of (an' := .inl 0) (by rw [sSteps, if_neg (fun z => h9 (z))]) rfl rfl)
  · obtain ⟨kk, rfl, hkk0, hkk⟩ := rg 1 180 h9 (by omega) (by omega)
    refine aw_aload_n (pc := 12) C 0 dX9_steps_12 rfl ?_
    refine aw_iload_n (pc := 13) C 1 dX9_steps_13 rfl ?_
    refine aw_cVI (pc := 14) C (c_X9_stepsGo _ n hok kk (by omega)) lk_X9_154 sh73 rfl dX9_steps_14 (by decide) (Nat.le_of_ble_eq_true rfl) rfl rfl ?_
    refine aw_goto (pc := 17) C 26 dX9_steps_17 (by decide) ?_
    exact aw_iretP (pc := 26) C rfl dX9_steps_26 (pm_of (an' := .inr (goD n (σ.1 20) kk, goM n (σ.1 20) kk)) (by rw [sSteps, if_pos h9, cl_nI (show kk < 2147483648 by omega)]) rfl rfl)
theorem c_X9_start (σ : St) (n : Nat) (hn : σ.1 20 2 = nI n) (hz : n ≤ 6) : AMet Y_X9_start [.ref 73] σ (PM σ (sStart (σ.1 20) n)) := by
  refine am_intro (by decide +kernel) (Nat.le_of_ble_eq_true rfl) (fun K C => ?_)
  refine aw_aload_n (pc := 0) C 0 dX9_start_0 rfl ?_
  refine aw_cVI (pc := 1) C (c_X9_home _ n hn hz ) lk_X9_157 sh73 rfl dX9_start_1 (by decide) (Nat.le_of_ble_eq_true rfl) rfl rfl ?_
  refine aw_cSI (pc := 4) C (c_X9_many _ (homeS (σ.1 20) n) ) lk_X9_160 dX9_start_4 (by decide) (Nat.le_of_ble_eq_true rfl) rfl rfl ?_
  refine aw_istore_n (pc := 7) C [(1, .int (manyS (homeS (σ.1 20) n) 6)), (0, .ref 73)] dX9_start_7 (Nat.le_of_ble_eq_true rfl) rfl ?_
  refine aw_aload_n (pc := 8) C 1 dX9_start_8 rfl ?_
  refine aw_cV0 (pc := 9) C (c_X9_starts _ n hn hz ) lk_X9_163 sh73 rfl dX9_start_9 (by decide) (Nat.le_of_ble_eq_true rfl) rfl rfl ?_
  refine aw_iload_n (pc := 12) C 0 dX9_start_12 rfl ?_
  exact aw_iretP (pc := 13) C rfl dX9_start_13 (pm_of (an' := .inr (manyS (homeS (σ.1 20) n) 6, startM (σ.1 20) n)) rfl rfl rfl)
