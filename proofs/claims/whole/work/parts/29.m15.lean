/-! the reference: teams, rain, THE TAPE -/
theorem c_X9_isTeam (σ : St) (n : Nat) (hn : σ.1 20 2 = nI n) (hz : n ≤ 6) (x : Int32) : AMet Y_X9_isTeam [.ref 73, .int x] σ (fz (some (.int (b2i (teamOk n x)))) (σ)) := by
  refine am_intro (by decide +kernel) (Nat.le_of_ble_eq_true rfl) (fun K C => ?_)
  refine aw_iload_n (pc := 0) C 1 dX9_isTeam_0 rfl ?_
  refine aw_i2l (pc := 1) C dX9_isTeam_1 ?_
  refine aw_lconst (pc := 2) (v := 0) C dX9_isTeam_2 rfl ?_
  refine aw_iconst (pc := 3) (v := 1) C dX9_isTeam_3 rfl ?_
  refine aw_aload_n (pc := 4) C 0 dX9_isTeam_4 rfl ?_
  refine aw_getR (pc := 5) C fl_X9_9 sh73 rfl dX9_isTeam_5 ?_
  refine aw_iconst (pc := 8) (v := 2) C dX9_isTeam_8 rfl ?_
  refine aw_ild (pc := 9) (k := 2) C (2) (σ.1 20 2) sh74 dX9_isTeam_9 rfl (by omega) rfl rfl ?_
  refine aw_top C (nI (n)) hn ?_
  refine aw_ishl (pc := 10) C dX9_isTeam_10 ?_
  refine aw_iconst (pc := 11) (v := 1) C dX9_isTeam_11 rfl ?_
  refine aw_isub (pc := 12) C dX9_isTeam_12 ?_
  refine aw_i2l (pc := 13) C dX9_isTeam_13 ?_
  refine aw_cSI (pc := 14) C (c_X9_in _ x 0 ((1 <<< (nI (n) &&& 31)) - 1) _ _ _ rfl (by decide) rfl) lk_X9_54 dX9_isTeam_14 (by decide) (Nat.le_of_ble_eq_true rfl) rfl rfl ?_
  refine aw_if_eqB (pc := 17) C 32 dX9_isTeam_17 (by decide) (fun h17 => ?_) (fun h17 => ?_)
  · refine aw_iconst (pc := 32) (v := 0) C dX9_isTeam_32 rfl ?_
    exact aw_zret (pc := 33) C rfl rfl dX9_isTeam_33 (b2i_f (fun z => h17 z.1)).symm rfl
  · refine aw_iload_n (pc := 20) C 1 dX9_isTeam_20 rfl ?_
    refine aw_cSI (pc := 21) C (c_X9_many _ x ) lk_X9_160 dX9_isTeam_21 (by decide) (Nat.le_of_ble_eq_true rfl) rfl rfl ?_
    refine aw_iconst (pc := 24) (v := 3) C dX9_isTeam_24 rfl ?_
    refine aw_icmp_lt (pc := 25) C 32 dX9_isTeam_25 (by decide) (fun h25 => ?_) (fun h25 => ?_)
    · refine aw_iconst (pc := 32) (v := 0) C dX9_isTeam_32 rfl ?_
      exact aw_zret (pc := 33) C rfl rfl dX9_isTeam_33 (b2i_f (fun z => z.2 h25)).symm rfl
    · refine aw_iconst (pc := 28) (v := 1) C dX9_isTeam_28 rfl ?_
      refine aw_goto (pc := 29) C 33 dX9_isTeam_29 (by decide) ?_
      exact aw_zret (pc := 33) C rfl rfl dX9_isTeam_33 (b2i_t ⟨h17, h25⟩).symm rfl
theorem c_X9_bestTeam (σ : St) (n : Nat) (hok : Ok n (σ.1 20)) (x : Int32) (hx : 0 ≤ x ∧ x ≤ 1 <<< (nI n &&& 31) - 1) : AMet Y_X9_bestTeam [.ref 73, .int x] σ (TeamO σ x) := by
  refine am_intro (by decide +kernel) (Nat.le_of_ble_eq_true rfl) (fun K C => ?_)
  have hz := hok.1
  have hn := hok.2.1
  refine aw_iconst (pc := 0) (v := 0) C dX9_bestTeam_0 rfl ?_
  refine aw_istore_n (pc := 1) C [(2, .int 0), (0, .ref 73), (1, .int x)] dX9_bestTeam_1 (Nat.le_of_ble_eq_true rfl) rfl ?_
  refine aw_lvs C [0, 1, 2] [(2, .int 0), (0, .ref 73), (1, .int x)] rfl ?_
  refine aw_conv (σ' := setR (setR (setR σ 25 (σ.1 25)) 26 (σ.1 26)) 27 (σ.1 27)) (lv' := [(2, .int (nI 0)), (0, .ref 73), (1, .int x)]) (by rw [setR_same, setR_same, setR_same]) rfl rfl ?_
  refine loop_up (P := fun k => ∀ (f g h : Fl) (hI : LInv (σ.1 20) (3 * k) h), AW _ K _ (setR (setR (setR σ 25 (f)) 26 (g)) 27 (h)) 2 [(2, .int (nI k)), (0, .ref 73), (1, .int x)] []) n ?_ ?_ 0 (by omega) (σ.1 25) (σ.1 26) (σ.1 27) (fun i hi => by omega)
  · intro f g h hI
    refine aw_iload_n (pc := 2) C 0 dX9_bestTeam_2 rfl ?_
    refine aw_aload_n (pc := 3) C 1 dX9_bestTeam_3 rfl ?_
    refine aw_getR (pc := 4) C fl_X9_9 sh73 rfl dX9_bestTeam_4 ?_
    refine aw_iconst (pc := 7) (v := 2) C dX9_bestTeam_7 rfl ?_
    refine aw_ild (pc := 8) (k := 2) C (2) (σ.1 20 2) sh74 dX9_bestTeam_8 rfl (by omega) rfl (by first | rfl | (simp (disch := omega) only [setR_at, setR_twice, setL_at, setL_twice, setR_2, setL_1, setR_ne, setL_ne, ne_eq, Nat.reduceEqDiff, not_false_eq_true, pk_us, pk_un]; done) | ((try simp (disch := omega) only [setR_at, setR_twice, setL_at, setL_twice, setR_2, setL_1, setR_ne, setL_ne, ne_eq, Nat.reduceEqDiff, not_false_eq_true, pk_us, pk_un]); refine Prod.ext (funext fun z => ?_) rfl; simp only [setR]; (repeat' split) <;> first | rfl | (exfalso; omega))) ?_
    refine aw_top C (nI (n)) hn ?_
    refine aw_icmp_geN (pc := 9) C n n 62 rfl rfl (by omega) (by omega) dX9_bestTeam_9 (by decide) (fun h9 => ?_) (fun h9 => absurd h9 (by omega))
    refine aw_iconst (pc := 62) (v := (-1)) C dX9_bestTeam_62 rfl ?_
    refine aw_istore_n (pc := 63) C [(2, .int ((-1))), (0, .ref 73), (1, .int x)] dX9_bestTeam_63 (Nat.le_of_ble_eq_true rfl) rfl ?_
    refine aw_iconst (pc := 64) (v := 0) C dX9_bestTeam_64 rfl ?_
    refine aw_istore_n (pc := 65) C [(3, .int 0), (2, .int ((-1))), (0, .ref 73), (1, .int x)] dX9_bestTeam_65 (Nat.le_of_ble_eq_true rfl) rfl ?_
    refine aw_lvs C [0, 1, 2, 3] [(3, .int 0), (2, .int ((-1))), (0, .ref 73), (1, .int x)] rfl ?_
    refine aw_conv (σ' := setR (setR (setR (setR σ 25 (f)) 26 (g)) 27 (h)) 28 (σ.1 28)) (lv' := [(3, .int (nI 0)), (2, .int (lsT (σ.1 20) (tmS (σ.1 20) x 0))), (0, .ref 73), (1, .int x)]) (setR_same (setR (setR (setR σ 25 f) 26 g) 27 h) 28).symm rfl rfl ?_
    refine loop_up (P := fun d => ∀ (t : Fl) (hT : TInv (σ.1 20) x d t), AW _ K _ (setR (setR (setR (setR σ 25 (f)) 26 (g)) 27 (h)) 28 (t)) 66 [(3, .int (nI d)), (2, .int (lsT (σ.1 20) (tmS (σ.1 20) x d))), (0, .ref 73), (1, .int x)] []) 216 ?_ ?_ 0 (by omega) (σ.1 28) (fun b hb => by cases hb)
    · intro t hT
      refine aw_iload_n (pc := 66) C 0 dX9_bestTeam_66 rfl ?_
      refine aw_sipush (pc := 67) (v := 216) C dX9_bestTeam_67 rfl ?_
      refine aw_icmp_geN (pc := 70) C 216 216 221 rfl rfl (by omega) (by omega) dX9_bestTeam_70 (by decide) (fun h70 => ?_) (fun h70 => absurd h70 (by omega))
      refine aw_iload_n (pc := 221) C 1 dX9_bestTeam_221 rfl ?_
      exact aw_iretP (pc := 222) C rfl dX9_bestTeam_222 ⟨f, g, h, t, hT, rfl, rfl⟩
    · intro d hk66 ih66 t hT
      refine aw_iload_n (pc := 66) C 0 dX9_bestTeam_66 rfl ?_
      refine aw_sipush (pc := 67) (v := 216) C dX9_bestTeam_67 rfl ?_
      refine aw_icmp_geN (pc := 70) C d 216 221 rfl rfl (by omega) (by omega) dX9_bestTeam_70 (by decide) (fun h70 => absurd h70 (by omega)) (fun h70 => ?_)
      refine aw_iload_n (pc := 73) C 0 dX9_bestTeam_73 rfl ?_
      refine aw_bipush (pc := 74) (v := 6) C dX9_bestTeam_74 rfl ?_
      refine aw_idivN (pc := 76) C d 6 rfl rfl (by omega) (by omega) (by omega) dX9_bestTeam_76 ?_
      refine aw_bipush (pc := 77) (v := 6) C dX9_bestTeam_77 rfl ?_
      refine aw_idivN (pc := 79) C (d / 6) 6 rfl rfl (by omega) (by omega) (by omega) dX9_bestTeam_79 ?_
      refine aw_istore (pc := 80) C [(4, .int (nI ((d / 6) / 6))), (3, .int (nI d)), (2, .int (lsT (σ.1 20) (tmS (σ.1 20) x d))), (0, .ref 73), (1, .int x)] dX9_bestTeam_80 (Nat.le_of_ble_eq_true rfl) rfl ?_
      refine aw_iload_n (pc := 82) C 1 dX9_bestTeam_82 rfl ?_
      refine aw_bipush (pc := 83) (v := 6) C dX9_bestTeam_83 rfl ?_
      refine aw_idivN (pc := 85) C d 6 rfl rfl (by omega) (by omega) (by omega) dX9_bestTeam_85 ?_
      refine aw_bipush (pc := 86) (v := 6) C dX9_bestTeam_86 rfl ?_
      refine aw_iremN (pc := 88) C (d / 6) 6 rfl rfl (by omega) (by omega) (by omega) dX9_bestTeam_88 ?_
      refine aw_istore (pc := 89) C [(5, .int (nI ((d / 6) % 6))), (4, .int (nI ((d / 6) / 6))), (3, .int (nI d)), (2, .int (lsT (σ.1 20) (tmS (σ.1 20) x d))), (0, .ref 73), (1, .int x)] dX9_bestTeam_89 (Nat.le_of_ble_eq_true rfl) rfl ?_
      refine aw_iload_n (pc := 91) C 2 dX9_bestTeam_91 rfl ?_
      refine aw_bipush (pc := 92) (v := 6) C dX9_bestTeam_92 rfl ?_
      refine aw_iremN (pc := 94) C d 6 rfl rfl (by omega) (by omega) (by omega) dX9_bestTeam_94 ?_
      refine aw_istore (pc := 95) C [(6, .int (nI (d % 6))), (5, .int (nI ((d / 6) % 6))), (4, .int (nI ((d / 6) / 6))), (3, .int (nI d)), (2, .int (lsT (σ.1 20) (tmS (σ.1 20) x d))), (0, .ref 73), (1, .int x)] dX9_bestTeam_95 (Nat.le_of_ble_eq_true rfl) rfl ?_
      refine aw_iload (pc := 97) C 2 dX9_bestTeam_97 rfl ?_
      refine aw_iload (pc := 99) C 1 dX9_bestTeam_99 rfl ?_
      refine aw_icmp_eqN (pc := 101) C ((d / 6) / 6) ((d / 6) % 6) 215 rfl rfl (by omega) (by omega) dX9_bestTeam_101 (by decide) (fun h101 => ?_) (fun h101 => ?_)
      · refine aw_iincN (pc := 215) C 3 d [(3, .int (nI (d + 1))), (6, .int (nI (d % 6))), (5, .int (nI ((d / 6) % 6))), (4, .int (nI ((d / 6) / 6))), (2, .int (lsT (σ.1 20) (tmS (σ.1 20) x d))), (0, .ref 73), (1, .int x)] dX9_bestTeam_215 rfl rfl rfl (Nat.le_of_ble_eq_true rfl) rfl ?_
        refine aw_goto (pc := 218) C 66 dX9_bestTeam_218 (by decide) ?_
        refine aw_lvs C [0, 4, 5, 6] [(3, .int (nI (d + 1))), (2, .int (lsT (σ.1 20) (tmS (σ.1 20) x d))), (0, .ref 73), (1, .int x)] rfl ?_
        exact aw_conv (σ' := setR (setR (setR (setR σ 25 (f)) 26 (g)) 27 (h)) 28 (t)) (lv' := [(3, .int (nI (d + 1))), (2, .int (lsT (σ.1 20) (tmS (σ.1 20) x (d + 1)))), (0, .ref 73), (1, .int x)]) rfl (by rw [tmS_no (fun z => z.1 h101)]) rfl (ih66 t (hT.keep (tmS_no (fun z => z.1 h101))))
      · refine aw_iload (pc := 104) C 2 dX9_bestTeam_104 rfl ?_
        refine aw_iload (pc := 106) C 0 dX9_bestTeam_106 rfl ?_
        refine aw_icmp_eqN (pc := 108) C ((d / 6) / 6) (d % 6) 215 rfl rfl (by omega) (by omega) dX9_bestTeam_108 (by decide) (fun h108 => ?_) (fun h108 => ?_)
        · refine aw_iincN (pc := 215) C 3 d [(3, .int (nI (d + 1))), (6, .int (nI (d % 6))), (5, .int (nI ((d / 6) % 6))), (4, .int (nI ((d / 6) / 6))), (2, .int (lsT (σ.1 20) (tmS (σ.1 20) x d))), (0, .ref 73), (1, .int x)] dX9_bestTeam_215 rfl rfl rfl (Nat.le_of_ble_eq_true rfl) rfl ?_
          refine aw_goto (pc := 218) C 66 dX9_bestTeam_218 (by decide) ?_
          refine aw_lvs C [0, 4, 5, 6] [(3, .int (nI (d + 1))), (2, .int (lsT (σ.1 20) (tmS (σ.1 20) x d))), (0, .ref 73), (1, .int x)] rfl ?_
          exact aw_conv (σ' := setR (setR (setR (setR σ 25 (f)) 26 (g)) 27 (h)) 28 (t)) (lv' := [(3, .int (nI (d + 1))), (2, .int (lsT (σ.1 20) (tmS (σ.1 20) x (d + 1)))), (0, .ref 73), (1, .int x)]) rfl (by rw [tmS_no (fun z => z.2.1 h108)]) rfl (ih66 t (hT.keep (tmS_no (fun z => z.2.1 h108))))
        · refine aw_iload (pc := 111) C 1 dX9_bestTeam_111 rfl ?_
          refine aw_iload (pc := 113) C 0 dX9_bestTeam_113 rfl ?_
          refine aw_icmp_eqN (pc := 115) C ((d / 6) % 6) (d % 6) 215 rfl rfl (by omega) (by omega) dX9_bestTeam_115 (by decide) (fun h115 => ?_) (fun h115 => ?_)
          · refine aw_iincN (pc := 215) C 3 d [(3, .int (nI (d + 1))), (6, .int (nI (d % 6))), (5, .int (nI ((d / 6) % 6))), (4, .int (nI ((d / 6) / 6))), (2, .int (lsT (σ.1 20) (tmS (σ.1 20) x d))), (0, .ref 73), (1, .int x)] dX9_bestTeam_215 rfl rfl rfl (Nat.le_of_ble_eq_true rfl) rfl ?_
            refine aw_goto (pc := 218) C 66 dX9_bestTeam_218 (by decide) ?_
            refine aw_lvs C [0, 4, 5, 6] [(3, .int (nI (d + 1))), (2, .int (lsT (σ.1 20) (tmS (σ.1 20) x d))), (0, .ref 73), (1, .int x)] rfl ?_
            exact aw_conv (σ' := setR (setR (setR (setR σ 25 (f)) 26 (g)) 27 (h)) 28 (t)) (lv' := [(3, .int (nI (d + 1))), (2, .int (lsT (σ.1 20) (tmS (σ.1 20) x (d + 1)))), (0, .ref 73), (1, .int x)]) rfl (by rw [tmS_no (fun z => z.2.2.1 h115)]) rfl (ih66 t (hT.keep (tmS_no (fun z => z.2.2.1 h115))))
          · refine aw_iload_n (pc := 118) C 6 dX9_bestTeam_118 rfl ?_
            refine aw_iload (pc := 119) C 2 dX9_bestTeam_119 rfl ?_
            refine aw_ishr (pc := 121) C dX9_bestTeam_121 ?_
            refine aw_iload_n (pc := 122) C 6 dX9_bestTeam_122 rfl ?_
            refine aw_iload (pc := 123) C 1 dX9_bestTeam_123 rfl ?_
            refine aw_ishr (pc := 125) C dX9_bestTeam_125 ?_
            refine aw_iand (pc := 126) C dX9_bestTeam_126 ?_
            refine aw_iload_n (pc := 127) C 6 dX9_bestTeam_127 rfl ?_
            refine aw_iload (pc := 128) C 0 dX9_bestTeam_128 rfl ?_
            refine aw_ishr (pc := 130) C dX9_bestTeam_130 ?_
            refine aw_iand (pc := 131) C dX9_bestTeam_131 ?_
            refine aw_iconst (pc := 132) (v := 1) C dX9_bestTeam_132 rfl ?_
            refine aw_iand (pc := 133) C dX9_bestTeam_133 ?_
            refine aw_if_ne (pc := 134) C 140 dX9_bestTeam_134 (by decide) (fun h134 => ?_) (fun h134 => ?_)
            · have hP : teamP x d := ⟨h101, h108, h115, h134⟩
              have hl := team_lt hz hx (by omega) hP
              refine aw_aload_n (pc := 140) C 5 dX9_bestTeam_140 rfl ?_
              refine aw_getR (pc := 141) C fl_X9_28 sh73 rfl dX9_bestTeam_141 ?_
              refine aw_iconst (pc := 144) (v := 3) C dX9_bestTeam_144 rfl ?_
              refine aw_iload (pc := 145) C 2 dX9_bestTeam_145 rfl ?_
              refine aw_imulN (pc := 147) C 3 ((d / 6) / 6) rfl rfl dX9_bestTeam_147 ?_
              refine aw_ild (pc := 148) (k := 3 * ((d / 6) / 6)) C (3 * ((d / 6) / 6)) (h (3 * ((d / 6) / 6))) sh80 dX9_bestTeam_148 rfl (by omega) rfl (by first | rfl | (simp (disch := omega) only [setR_at, setR_twice, setL_at, setL_twice, setR_2, setL_1, setR_ne, setL_ne, ne_eq, Nat.reduceEqDiff, not_false_eq_true, pk_us, pk_un]; done) | ((try simp (disch := omega) only [setR_at, setR_twice, setL_at, setL_twice, setR_2, setL_1, setR_ne, setL_ne, ne_eq, Nat.reduceEqDiff, not_false_eq_true, pk_us, pk_un]); refine Prod.ext (funext fun z => ?_) rfl; simp only [setR]; (repeat' split) <;> first | rfl | (exfalso; omega))) ?_
              refine aw_top C (legS (σ.1 20) (d / 6 / 6) 0) (hI.at (l := 0) hl.1 (by omega)) ?_
              refine aw_aload_n (pc := 149) C 5 dX9_bestTeam_149 rfl ?_
              refine aw_getR (pc := 150) C fl_X9_28 sh73 rfl dX9_bestTeam_150 ?_
              refine aw_iconst (pc := 153) (v := 3) C dX9_bestTeam_153 rfl ?_
              refine aw_iload (pc := 154) C 1 dX9_bestTeam_154 rfl ?_
              refine aw_imulN (pc := 156) C 3 ((d / 6) % 6) rfl rfl dX9_bestTeam_156 ?_
              refine aw_iconst (pc := 157) (v := 1) C dX9_bestTeam_157 rfl ?_
              refine aw_iaddN (pc := 158) C (3 * ((d / 6) % 6)) 1 rfl rfl dX9_bestTeam_158 ?_
              refine aw_ild (pc := 159) (k := (3 * ((d / 6) % 6)) + 1) C ((3 * ((d / 6) % 6)) + 1) (h ((3 * ((d / 6) % 6)) + 1)) sh80 dX9_bestTeam_159 rfl (by omega) rfl (by first | rfl | (simp (disch := omega) only [setR_at, setR_twice, setL_at, setL_twice, setR_2, setL_1, setR_ne, setL_ne, ne_eq, Nat.reduceEqDiff, not_false_eq_true, pk_us, pk_un]; done) | ((try simp (disch := omega) only [setR_at, setR_twice, setL_at, setL_twice, setR_2, setL_1, setR_ne, setL_ne, ne_eq, Nat.reduceEqDiff, not_false_eq_true, pk_us, pk_un]); refine Prod.ext (funext fun z => ?_) rfl; simp only [setR]; (repeat' split) <;> first | rfl | (exfalso; omega))) ?_
              refine aw_top C (legS (σ.1 20) (d / 6 % 6) 1) (hI.at (l := 1) hl.2.1 (by omega)) ?_
              refine aw_iadd (pc := 160) C dX9_bestTeam_160 ?_
              refine aw_aload_n (pc := 161) C 5 dX9_bestTeam_161 rfl ?_
              refine aw_getR (pc := 162) C fl_X9_28 sh73 rfl dX9_bestTeam_162 ?_
              refine aw_iconst (pc := 165) (v := 3) C dX9_bestTeam_165 rfl ?_
              refine aw_iload (pc := 166) C 0 dX9_bestTeam_166 rfl ?_
              refine aw_imulN (pc := 168) C 3 (d % 6) rfl rfl dX9_bestTeam_168 ?_
              refine aw_iconst (pc := 169) (v := 2) C dX9_bestTeam_169 rfl ?_
              refine aw_iaddN (pc := 170) C (3 * (d % 6)) 2 rfl rfl dX9_bestTeam_170 ?_
              refine aw_ild (pc := 171) (k := (3 * (d % 6)) + 2) C ((3 * (d % 6)) + 2) (h ((3 * (d % 6)) + 2)) sh80 dX9_bestTeam_171 rfl (by omega) rfl (by first | rfl | (simp (disch := omega) only [setR_at, setR_twice, setL_at, setL_twice, setR_2, setL_1, setR_ne, setL_ne, ne_eq, Nat.reduceEqDiff, not_false_eq_true, pk_us, pk_un]; done) | ((try simp (disch := omega) only [setR_at, setR_twice, setL_at, setL_twice, setR_2, setL_1, setR_ne, setL_ne, ne_eq, Nat.reduceEqDiff, not_false_eq_true, pk_us, pk_un]); refine Prod.ext (funext fun z => ?_) rfl; simp only [setR]; (repeat' split) <;> first | rfl | (exfalso; omega))) ?_
              refine aw_top C (legS (σ.1 20) (d % 6) 2) (hI.at (l := 2) hl.2.2 (by omega)) ?_
              refine aw_iadd (pc := 172) C dX9_bestTeam_172 ?_
              refine aw_top C (tv (σ.1 20) d) (rfl) ?_
              refine aw_istore (pc := 173) C [(7, .int (tv (σ.1 20) d)), (6, .int (nI (d % 6))), (5, .int (nI ((d / 6) % 6))), (4, .int (nI ((d / 6) / 6))), (3, .int (nI d)), (2, .int (lsT (σ.1 20) (tmS (σ.1 20) x d))), (0, .ref 73), (1, .int x)] dX9_bestTeam_173 (Nat.le_of_ble_eq_true rfl) rfl ?_
              rcases hb : tmS (σ.1 20) x d with _ | b
              · refine aw_lvs C [0, 1, 2, 3, 4, 5, 6, 7] [(7, .int (tv (σ.1 20) d)), (6, .int (nI (d % 6))), (5, .int (nI ((d / 6) % 6))), (4, .int (nI ((d / 6) / 6))), (3, .int (nI d)), (2, .int ((-1))), (0, .ref 73), (1, .int x)] rfl ?_
                refine aw_iload_n (pc := 175) C 5 dX9_bestTeam_175 rfl ?_
                refine aw_if_lt (pc := 176) C 188 dX9_bestTeam_176 (by decide) (fun h176 => ?_) (fun h176 => absurd h176 (by decide))
                refine aw_iload (pc := 188) C 0 dX9_bestTeam_188 rfl ?_
                refine aw_istore_n (pc := 190) C [(2, .int (tv (σ.1 20) d)), (7, .int (tv (σ.1 20) d)), (6, .int (nI (d % 6))), (5, .int (nI ((d / 6) % 6))), (4, .int (nI ((d / 6) / 6))), (3, .int (nI d)), (0, .ref 73), (1, .int x)] dX9_bestTeam_190 (Nat.le_of_ble_eq_true rfl) rfl ?_
                refine aw_aload_n (pc := 191) C 6 dX9_bestTeam_191 rfl ?_
                refine aw_getR (pc := 192) C fl_X9_31 sh73 rfl dX9_bestTeam_192 ?_
                refine aw_iconst (pc := 195) (v := 0) C dX9_bestTeam_195 rfl ?_
                refine aw_iload (pc := 196) C 4 dX9_bestTeam_196 rfl ?_
                refine aw_ist (pc := 198) (k := 0) C (0) (setR (setR (setR (setR σ 25 (f)) 26 (g)) 27 (h)) 28 (upd t 0 (nI ((d / 6) / 6)))) sh81 dX9_bestTeam_198 rfl (by omega) rfl (by first | rfl | (simp (disch := omega) only [setR_at, setR_twice, setL_at, setL_twice, setR_2, setL_1, setR_ne, setL_ne, ne_eq, Nat.reduceEqDiff, not_false_eq_true, pk_us, pk_un]; done) | ((try simp (disch := omega) only [setR_at, setR_twice, setL_at, setL_twice, setR_2, setL_1, setR_ne, setL_ne, ne_eq, Nat.reduceEqDiff, not_false_eq_true, pk_us, pk_un]); refine Prod.ext (funext fun z => ?_) rfl; simp only [setR]; (repeat' split) <;> first | rfl | (exfalso; omega))) ?_
                refine aw_aload_n (pc := 199) C 6 dX9_bestTeam_199 rfl ?_
                refine aw_getR (pc := 200) C fl_X9_31 sh73 rfl dX9_bestTeam_200 ?_
                refine aw_iconst (pc := 203) (v := 1) C dX9_bestTeam_203 rfl ?_
                refine aw_iload (pc := 204) C 3 dX9_bestTeam_204 rfl ?_
                refine aw_ist (pc := 206) (k := 1) C (1) (setR (setR (setR (setR σ 25 (f)) 26 (g)) 27 (h)) 28 (upd (upd t 0 (nI ((d / 6) / 6))) 1 (nI ((d / 6) % 6)))) sh81 dX9_bestTeam_206 rfl (by omega) rfl (by first | rfl | (simp (disch := omega) only [setR_at, setR_twice, setL_at, setL_twice, setR_2, setL_1, setR_ne, setL_ne, ne_eq, Nat.reduceEqDiff, not_false_eq_true, pk_us, pk_un]; done) | ((try simp (disch := omega) only [setR_at, setR_twice, setL_at, setL_twice, setR_2, setL_1, setR_ne, setL_ne, ne_eq, Nat.reduceEqDiff, not_false_eq_true, pk_us, pk_un]); refine Prod.ext (funext fun z => ?_) rfl; simp only [setR]; (repeat' split) <;> first | rfl | (exfalso; omega))) ?_
                refine aw_aload_n (pc := 207) C 6 dX9_bestTeam_207 rfl ?_
                refine aw_getR (pc := 208) C fl_X9_31 sh73 rfl dX9_bestTeam_208 ?_
                refine aw_iconst (pc := 211) (v := 2) C dX9_bestTeam_211 rfl ?_
                refine aw_iload (pc := 212) C 2 dX9_bestTeam_212 rfl ?_
                refine aw_ist (pc := 214) (k := 2) C (2) (setR (setR (setR (setR σ 25 (f)) 26 (g)) 27 (h)) 28 (upd (upd (upd t 0 (nI ((d / 6) / 6))) 1 (nI ((d / 6) % 6))) 2 (nI (d % 6)))) sh81 dX9_bestTeam_214 rfl (by omega) rfl (by first | rfl | (simp (disch := omega) only [setR_at, setR_twice, setL_at, setL_twice, setR_2, setL_1, setR_ne, setL_ne, ne_eq, Nat.reduceEqDiff, not_false_eq_true, pk_us, pk_un]; done) | ((try simp (disch := omega) only [setR_at, setR_twice, setL_at, setL_twice, setR_2, setL_1, setR_ne, setL_ne, ne_eq, Nat.reduceEqDiff, not_false_eq_true, pk_us, pk_un]); refine Prod.ext (funext fun z => ?_) rfl; simp only [setR]; (repeat' split) <;> first | rfl | (exfalso; omega))) ?_
                refine aw_iincN (pc := 215) C 5 d [(3, .int (nI (d + 1))), (2, .int (tv (σ.1 20) d)), (7, .int (tv (σ.1 20) d)), (6, .int (nI (d % 6))), (5, .int (nI ((d / 6) % 6))), (4, .int (nI ((d / 6) / 6))), (0, .ref 73), (1, .int x)] dX9_bestTeam_215 rfl rfl rfl (Nat.le_of_ble_eq_true rfl) rfl ?_
                refine aw_goto (pc := 218) C 66 dX9_bestTeam_218 (by decide) ?_
                refine aw_lvs C [0, 1, 6, 7] [(3, .int (nI (d + 1))), (2, .int (tv (σ.1 20) d)), (0, .ref 73), (1, .int x)] rfl ?_
                exact aw_conv (σ' := setR (setR (setR (setR σ 25 (f)) 26 (g)) 27 (h)) 28 (upd (upd (upd t 0 (nI ((d / 6) / 6))) 1 (nI ((d / 6) % 6))) 2 (nI (d % 6)))) (lv' := [(3, .int (nI (d + 1))), (2, .int (lsT (σ.1 20) (tmS (σ.1 20) x (d + 1)))), (0, .ref 73), (1, .int x)]) rfl (by rw [tmS_none hP hb]; rfl) rfl (ih66 _ (TInv.put (tmS_none hP hb)))
              · have hbP := tmS_P hb
                refine aw_lvs C [0, 1, 2, 3, 4, 5, 6, 7] [(7, .int (tv (σ.1 20) d)), (6, .int (nI (d % 6))), (5, .int (nI ((d / 6) % 6))), (4, .int (nI ((d / 6) / 6))), (3, .int (nI d)), (2, .int (tv (σ.1 20) b)), (0, .ref 73), (1, .int x)] rfl ?_
                refine aw_iload_n (pc := 175) C 5 dX9_bestTeam_175 rfl ?_
                refine aw_if_lt (pc := 176) C 188 dX9_bestTeam_176 (by decide) (fun h176 => absurd h176 (tv_pos hok hx (by omega) hbP.2)) (fun h176 => ?_)
                refine aw_iload (pc := 179) C 0 dX9_bestTeam_179 rfl ?_
                refine aw_iload_n (pc := 181) C 5 dX9_bestTeam_181 rfl ?_
                refine aw_icmp_lt (pc := 182) C 188 dX9_bestTeam_182 (by decide) (fun h182 => ?_) (fun h182 => ?_)
                · refine aw_iload (pc := 188) C 0 dX9_bestTeam_188 rfl ?_
                  refine aw_istore_n (pc := 190) C [(2, .int (tv (σ.1 20) d)), (7, .int (tv (σ.1 20) d)), (6, .int (nI (d % 6))), (5, .int (nI ((d / 6) % 6))), (4, .int (nI ((d / 6) / 6))), (3, .int (nI d)), (0, .ref 73), (1, .int x)] dX9_bestTeam_190 (Nat.le_of_ble_eq_true rfl) rfl ?_
                  refine aw_aload_n (pc := 191) C 6 dX9_bestTeam_191 rfl ?_
                  refine aw_getR (pc := 192) C fl_X9_31 sh73 rfl dX9_bestTeam_192 ?_
                  refine aw_iconst (pc := 195) (v := 0) C dX9_bestTeam_195 rfl ?_
                  refine aw_iload (pc := 196) C 4 dX9_bestTeam_196 rfl ?_
                  refine aw_ist (pc := 198) (k := 0) C (0) (setR (setR (setR (setR σ 25 (f)) 26 (g)) 27 (h)) 28 (upd t 0 (nI ((d / 6) / 6)))) sh81 dX9_bestTeam_198 rfl (by omega) rfl (by first | rfl | (simp (disch := omega) only [setR_at, setR_twice, setL_at, setL_twice, setR_2, setL_1, setR_ne, setL_ne, ne_eq, Nat.reduceEqDiff, not_false_eq_true, pk_us, pk_un]; done) | ((try simp (disch := omega) only [setR_at, setR_twice, setL_at, setL_twice, setR_2, setL_1, setR_ne, setL_ne, ne_eq, Nat.reduceEqDiff, not_false_eq_true, pk_us, pk_un]); refine Prod.ext (funext fun z => ?_) rfl; simp only [setR]; (repeat' split) <;> first | rfl | (exfalso; omega))) ?_
                  refine aw_aload_n (pc := 199) C 6 dX9_bestTeam_199 rfl ?_
                  refine aw_getR (pc := 200) C fl_X9_31 sh73 rfl dX9_bestTeam_200 ?_
                  refine aw_iconst (pc := 203) (v := 1) C dX9_bestTeam_203 rfl ?_
                  refine aw_iload (pc := 204) C 3 dX9_bestTeam_204 rfl ?_
                  refine aw_ist (pc := 206) (k := 1) C (1) (setR (setR (setR (setR σ 25 (f)) 26 (g)) 27 (h)) 28 (upd (upd t 0 (nI ((d / 6) / 6))) 1 (nI ((d / 6) % 6)))) sh81 dX9_bestTeam_206 rfl (by omega) rfl (by first | rfl | (simp (disch := omega) only [setR_at, setR_twice, setL_at, setL_twice, setR_2, setL_1, setR_ne, setL_ne, ne_eq, Nat.reduceEqDiff, not_false_eq_true, pk_us, pk_un]; done) | ((try simp (disch := omega) only [setR_at, setR_twice, setL_at, setL_twice, setR_2, setL_1, setR_ne, setL_ne, ne_eq, Nat.reduceEqDiff, not_false_eq_true, pk_us, pk_un]); refine Prod.ext (funext fun z => ?_) rfl; simp only [setR]; (repeat' split) <;> first | rfl | (exfalso; omega))) ?_
                  refine aw_aload_n (pc := 207) C 6 dX9_bestTeam_207 rfl ?_
                  refine aw_getR (pc := 208) C fl_X9_31 sh73 rfl dX9_bestTeam_208 ?_
                  refine aw_iconst (pc := 211) (v := 2) C dX9_bestTeam_211 rfl ?_
                  refine aw_iload (pc := 212) C 2 dX9_bestTeam_212 rfl ?_
                  refine aw_ist (pc := 214) (k := 2) C (2) (setR (setR (setR (setR σ 25 (f)) 26 (g)) 27 (h)) 28 (upd (upd (upd t 0 (nI ((d / 6) / 6))) 1 (nI ((d / 6) % 6))) 2 (nI (d % 6)))) sh81 dX9_bestTeam_214 rfl (by omega) rfl (by first | rfl | (simp (disch := omega) only [setR_at, setR_twice, setL_at, setL_twice, setR_2, setL_1, setR_ne, setL_ne, ne_eq, Nat.reduceEqDiff, not_false_eq_true, pk_us, pk_un]; done) | ((try simp (disch := omega) only [setR_at, setR_twice, setL_at, setL_twice, setR_2, setL_1, setR_ne, setL_ne, ne_eq, Nat.reduceEqDiff, not_false_eq_true, pk_us, pk_un]); refine Prod.ext (funext fun z => ?_) rfl; simp only [setR]; (repeat' split) <;> first | rfl | (exfalso; omega))) ?_
                  refine aw_iincN (pc := 215) C 5 d [(3, .int (nI (d + 1))), (2, .int (tv (σ.1 20) d)), (7, .int (tv (σ.1 20) d)), (6, .int (nI (d % 6))), (5, .int (nI ((d / 6) % 6))), (4, .int (nI ((d / 6) / 6))), (0, .ref 73), (1, .int x)] dX9_bestTeam_215 rfl rfl rfl (Nat.le_of_ble_eq_true rfl) rfl ?_
                  refine aw_goto (pc := 218) C 66 dX9_bestTeam_218 (by decide) ?_
                  refine aw_lvs C [0, 1, 6, 7] [(3, .int (nI (d + 1))), (2, .int (tv (σ.1 20) d)), (0, .ref 73), (1, .int x)] rfl ?_
                  exact aw_conv (σ' := setR (setR (setR (setR σ 25 (f)) 26 (g)) 27 (h)) 28 (upd (upd (upd t 0 (nI ((d / 6) / 6))) 1 (nI ((d / 6) % 6))) 2 (nI (d % 6)))) (lv' := [(3, .int (nI (d + 1))), (2, .int (lsT (σ.1 20) (tmS (σ.1 20) x (d + 1)))), (0, .ref 73), (1, .int x)]) rfl (by rw [tmS_less hP hb h182]; rfl) rfl (ih66 _ (TInv.put (tmS_less hP hb h182)))
                · refine aw_goto (pc := 185) C 215 dX9_bestTeam_185 (by decide) ?_
                  refine aw_iincN (pc := 215) C 4 d [(3, .int (nI (d + 1))), (7, .int (tv (σ.1 20) d)), (6, .int (nI (d % 6))), (5, .int (nI ((d / 6) % 6))), (4, .int (nI ((d / 6) / 6))), (2, .int (tv (σ.1 20) b)), (0, .ref 73), (1, .int x)] dX9_bestTeam_215 rfl rfl rfl (Nat.le_of_ble_eq_true rfl) rfl ?_
                  refine aw_goto (pc := 218) C 66 dX9_bestTeam_218 (by decide) ?_
                  refine aw_lvs C [0, 5, 6, 7] [(3, .int (nI (d + 1))), (2, .int (tv (σ.1 20) b)), (0, .ref 73), (1, .int x)] rfl ?_
                  exact aw_conv (σ' := setR (setR (setR (setR σ 25 (f)) 26 (g)) 27 (h)) 28 (t)) (lv' := [(3, .int (nI (d + 1))), (2, .int (lsT (σ.1 20) (tmS (σ.1 20) x (d + 1)))), (0, .ref 73), (1, .int x)]) rfl (by rw [tmS_more hP hb h182]; rfl) rfl (ih66 t (hT.keep ((tmS_more hP hb h182).trans hb.symm)))
            · refine aw_goto (pc := 137) C 215 dX9_bestTeam_137 (by decide) ?_
              refine aw_iincN (pc := 215) C 3 d [(3, .int (nI (d + 1))), (6, .int (nI (d % 6))), (5, .int (nI ((d / 6) % 6))), (4, .int (nI ((d / 6) / 6))), (2, .int (lsT (σ.1 20) (tmS (σ.1 20) x d))), (0, .ref 73), (1, .int x)] dX9_bestTeam_215 rfl rfl rfl (Nat.le_of_ble_eq_true rfl) rfl ?_
              refine aw_goto (pc := 218) C 66 dX9_bestTeam_218 (by decide) ?_
              refine aw_lvs C [0, 4, 5, 6] [(3, .int (nI (d + 1))), (2, .int (lsT (σ.1 20) (tmS (σ.1 20) x d))), (0, .ref 73), (1, .int x)] rfl ?_
              exact aw_conv (σ' := setR (setR (setR (setR σ 25 (f)) 26 (g)) 27 (h)) 28 (t)) (lv' := [(3, .int (nI (d + 1))), (2, .int (lsT (σ.1 20) (tmS (σ.1 20) x (d + 1)))), (0, .ref 73), (1, .int x)]) rfl (by rw [tmS_no (fun z => z.2.2.2 h134)]) rfl (ih66 t (hT.keep (tmS_no (fun z => z.2.2.2 h134))))
  · intro k hk2 ih2 f g h hI
    refine aw_iload_n (pc := 2) C 0 dX9_bestTeam_2 rfl ?_
    refine aw_aload_n (pc := 3) C 1 dX9_bestTeam_3 rfl ?_
    refine aw_getR (pc := 4) C fl_X9_9 sh73 rfl dX9_bestTeam_4 ?_
    refine aw_iconst (pc := 7) (v := 2) C dX9_bestTeam_7 rfl ?_
    refine aw_ild (pc := 8) (k := 2) C (2) (σ.1 20 2) sh74 dX9_bestTeam_8 rfl (by omega) rfl (by first | rfl | (simp (disch := omega) only [setR_at, setR_twice, setL_at, setL_twice, setR_2, setL_1, setR_ne, setL_ne, ne_eq, Nat.reduceEqDiff, not_false_eq_true, pk_us, pk_un]; done) | ((try simp (disch := omega) only [setR_at, setR_twice, setL_at, setL_twice, setR_2, setL_1, setR_ne, setL_ne, ne_eq, Nat.reduceEqDiff, not_false_eq_true, pk_us, pk_un]); refine Prod.ext (funext fun z => ?_) rfl; simp only [setR]; (repeat' split) <;> first | rfl | (exfalso; omega))) ?_
    refine aw_top C (nI (n)) hn ?_
    refine aw_icmp_geN (pc := 9) C k n 62 rfl rfl (by omega) (by omega) dX9_bestTeam_9 (by decide) (fun h9 => absurd h9 (by omega)) (fun h9 => ?_)
    refine aw_iconst (pc := 12) (v := 0) C dX9_bestTeam_12 rfl ?_
    refine aw_istore_n (pc := 13) C [(3, .int 0), (2, .int (nI k)), (0, .ref 73), (1, .int x)] dX9_bestTeam_13 (Nat.le_of_ble_eq_true rfl) rfl ?_
    refine aw_lvs C [0, 1, 2, 3] [(3, .int 0), (2, .int (nI k)), (0, .ref 73), (1, .int x)] rfl ?_
    refine aw_conv (σ' := setR (setR (setR σ 25 (f)) 26 (g)) 27 (h)) (lv' := [(3, .int (nI 0)), (2, .int (nI k)), (0, .ref 73), (1, .int x)]) rfl rfl rfl ?_
    refine loop_up (P := fun l => ∀ (f g h : Fl) (hJ : LInv (σ.1 20) (3 * k + l) h), AW _ K _ (setR (setR (setR σ 25 (f)) 26 (g)) 27 (h)) 14 [(3, .int (nI l)), (2, .int (nI k)), (0, .ref 73), (1, .int x)] []) 3 ?_ ?_ 0 (by omega) f g h hI
    · intro f g h hJ
      refine aw_iload_n (pc := 14) C 0 dX9_bestTeam_14 rfl ?_
      refine aw_iconst (pc := 15) (v := 3) C dX9_bestTeam_15 rfl ?_
      refine aw_icmp_geN (pc := 16) C 3 3 56 rfl rfl (by omega) (by omega) dX9_bestTeam_16 (by decide) (fun h16 => ?_) (fun h16 => absurd h16 (by omega))
      refine aw_iincN (pc := 56) C 1 k [(2, .int (nI (k + 1))), (3, .int (nI 3)), (0, .ref 73), (1, .int x)] dX9_bestTeam_56 rfl rfl rfl (Nat.le_of_ble_eq_true rfl) rfl ?_
      refine aw_goto (pc := 59) C 2 dX9_bestTeam_59 (by decide) ?_
      refine aw_lvs C [0, 2, 3] [(2, .int (nI (k + 1))), (0, .ref 73), (1, .int x)] rfl ?_
      exact aw_conv (σ' := setR (setR (setR σ 25 (f)) 26 (g)) 27 (h)) (lv' := [(2, .int (nI (k + 1))), (0, .ref 73), (1, .int x)]) rfl rfl rfl (ih2 _ _ _ hJ)
    · intro l hk14 ih14 f g h hJ
      refine aw_iload_n (pc := 14) C 0 dX9_bestTeam_14 rfl ?_
      refine aw_iconst (pc := 15) (v := 3) C dX9_bestTeam_15 rfl ?_
      refine aw_icmp_geN (pc := 16) C l 3 56 rfl rfl (by omega) (by omega) dX9_bestTeam_16 (by decide) (fun h16 => absurd h16 (by omega)) (fun h16 => ?_)
      refine aw_aload_n (pc := 19) C 2 dX9_bestTeam_19 rfl ?_
      refine aw_iload_n (pc := 20) C 1 dX9_bestTeam_20 rfl ?_
      refine aw_bipush (pc := 21) (v := 10) C dX9_bestTeam_21 rfl ?_
      refine aw_iload_n (pc := 23) C 0 dX9_bestTeam_23 rfl ?_
      refine aw_iconst (pc := 24) (v := 1) C dX9_bestTeam_24 rfl ?_
      refine aw_iaddN (pc := 25) C l 1 rfl rfl dX9_bestTeam_25 ?_
      refine aw_imulN (pc := 26) C 10 (l + 1) rfl rfl dX9_bestTeam_26 ?_
      refine aw_iconst (pc := 27) (v := 0) C dX9_bestTeam_27 rfl ?_
      refine aw_callV (pc := 28) C (c_X9_means_false _ k (10 * (l + 1)) (by omega) (by omega)) lk_X9_196 sh73 rfl (by decide) rfl (Nat.le_of_ble_eq_true rfl) dX9_bestTeam_28 rfl (fun w s hq => ?_)
      obtain ⟨f28, g28, hm28, rfl, rfl⟩ := hq
      refine aw_conv (σ' := setR (setR (setR σ 25 (f28)) 26 (g28)) 27 (h)) (st' := []) (by first | rfl | (simp (disch := omega) only [setR_at, setR_twice, setL_at, setL_twice, setR_2, setL_1, setR_ne, setL_ne, ne_eq, Nat.reduceEqDiff, not_false_eq_true, pk_us, pk_un]; done) | ((try simp (disch := omega) only [setR_at, setR_twice, setL_at, setL_twice, setR_2, setL_1, setR_ne, setL_ne, ne_eq, Nat.reduceEqDiff, not_false_eq_true, pk_us, pk_un]); refine Prod.ext (funext fun z => ?_) rfl; simp only [setR]; (repeat' split) <;> first | rfl | (exfalso; omega))) rfl (by first | rfl | (simp (disch := omega) only [setR_at, setR_twice, setL_at, setL_twice, setR_2, setL_1, setR_ne, setL_ne, ne_eq, Nat.reduceEqDiff, not_false_eq_true, pk_us, pk_un]; done) | ((try simp (disch := omega) only [setR_at, setR_twice, setL_at, setL_twice, setR_2, setL_1, setR_ne, setL_ne, ne_eq, Nat.reduceEqDiff, not_false_eq_true, pk_us, pk_un]); refine Prod.ext (funext fun z => ?_) rfl; simp only [setR]; (repeat' split) <;> first | rfl | (exfalso; omega))) ?_
      refine aw_aload_n (pc := 31) C 2 dX9_bestTeam_31 rfl ?_
      refine aw_getR (pc := 32) C fl_X9_28 sh73 rfl dX9_bestTeam_32 ?_
      refine aw_iconst (pc := 35) (v := 3) C dX9_bestTeam_35 rfl ?_
      refine aw_iload_n (pc := 36) C 1 dX9_bestTeam_36 rfl ?_
      refine aw_imulN (pc := 37) C 3 k rfl rfl dX9_bestTeam_37 ?_
      refine aw_iload_n (pc := 38) C 0 dX9_bestTeam_38 rfl ?_
      refine aw_iaddN (pc := 39) C (3 * k) l rfl rfl dX9_bestTeam_39 ?_
      refine aw_aload_n (pc := 40) C 2 dX9_bestTeam_40 rfl ?_
      refine aw_getR (pc := 41) C fl_X9_22 sh73 rfl dX9_bestTeam_41 ?_
      refine aw_bipush (pc := 44) (v := 40) C dX9_bestTeam_44 rfl ?_
      refine aw_iload_n (pc := 46) C 0 dX9_bestTeam_46 rfl ?_
      refine aw_imulN (pc := 47) C 40 l rfl rfl dX9_bestTeam_47 ?_
      refine aw_ild (pc := 48) (k := 40 * l) C (40 * l) (f28 (40 * l)) sh78 dX9_bestTeam_48 rfl (by omega) rfl (by first | rfl | (simp (disch := omega) only [setR_at, setR_twice, setL_at, setL_twice, setR_2, setL_1, setR_ne, setL_ne, ne_eq, Nat.reduceEqDiff, not_false_eq_true, pk_us, pk_un]; done) | ((try simp (disch := omega) only [setR_at, setR_twice, setL_at, setL_twice, setR_2, setL_1, setR_ne, setL_ne, ne_eq, Nat.reduceEqDiff, not_false_eq_true, pk_us, pk_un]); refine Prod.ext (funext fun z => ?_) rfl; simp only [setR]; (repeat' split) <;> first | rfl | (exfalso; omega))) ?_
      refine aw_top C (legS (σ.1 20) k l) (by rw [show 40 * l = 4 * (10 * l) + 0 by omega]; exact hm28.1 (10 * l) (by omega) (by omega) 0 (by omega)) ?_
      refine aw_ist (pc := 49) (k := (3 * k) + l) C ((3 * k) + l) (setR (setR (setR σ 25 (f28)) 26 (g28)) 27 (upd h ((3 * k) + l) (legS (σ.1 20) k l))) sh80 dX9_bestTeam_49 rfl (by omega) rfl (by first | rfl | (simp (disch := omega) only [setR_at, setR_twice, setL_at, setL_twice, setR_2, setL_1, setR_ne, setL_ne, ne_eq, Nat.reduceEqDiff, not_false_eq_true, pk_us, pk_un]; done) | ((try simp (disch := omega) only [setR_at, setR_twice, setL_at, setL_twice, setR_2, setL_1, setR_ne, setL_ne, ne_eq, Nat.reduceEqDiff, not_false_eq_true, pk_us, pk_un]); refine Prod.ext (funext fun z => ?_) rfl; simp only [setR]; (repeat' split) <;> first | rfl | (exfalso; omega))) ?_
      refine aw_iincN (pc := 50) C 0 l [(3, .int (nI (l + 1))), (2, .int (nI k)), (0, .ref 73), (1, .int x)] dX9_bestTeam_50 rfl rfl rfl (Nat.le_of_ble_eq_true rfl) rfl ?_
      refine aw_goto (pc := 53) C 14 dX9_bestTeam_53 (by decide) ?_
      refine aw_lvs C [0, 1, 2, 3] [(3, .int (nI (l + 1))), (2, .int (nI k)), (0, .ref 73), (1, .int x)] rfl ?_
      exact aw_conv (σ' := setR (setR (setR σ 25 (f28)) 26 (g28)) 27 (upd h ((3 * k) + l) (legS (σ.1 20) k l))) (lv' := [(3, .int (nI (l + 1))), (2, .int (nI k)), (0, .ref 73), (1, .int x)]) rfl rfl rfl (ih14 _ _ _ (hJ.put (by omega) rfl))
theorem c_X9_team (σ : St) (n : Nat) (hok : Ok n (σ.1 20)) (x : Int32) : AMet Y_X9_team [.ref 73, .int x] σ (PM σ (sTeam (σ.1 20) n x)) := by
  refine am_intro (by decide +kernel) (Nat.le_of_ble_eq_true rfl) (fun K C => ?_)
  have hz := hok.1
  have hn := hok.2.1
  refine aw_aload_n (pc := 0) C 0 dX9_team_0 rfl ?_
  refine aw_iload_n (pc := 1) C 1 dX9_team_1 rfl ?_
  refine aw_cVI (pc := 2) C (c_X9_isTeam _ n hn hz x ) lk_X9_208 sh73 rfl dX9_team_2 (by decide) (Nat.le_of_ble_eq_true rfl) rfl rfl ?_
  refine aw_if_eqB (pc := 5) C 16 dX9_team_5 (by decide) (fun h5 => ?_) (fun h5 => ?_)
  · refine aw_aload_n (pc := 16) C 0 dX9_team_16 rfl ?_
    refine aw_ldc (pc := 17) C dX9_team_17 kc_X9_46 ?_
    refine aw_cVI (pc := 19) C (c_X9_finds _ (-100000001) 0 (by decide) (by decide)) lk_X9_48 sh73 rfl dX9_team_19 (by decide) (Nat.le_of_ble_eq_true rfl) rfl rfl ?_
    exact aw_iretP (pc := 22) C rfl dX9_team_22 (pm_of (an' := .inl 0) (by rw [sTeam, if_neg (fun z => h5 (z))]) rfl rfl)
  · refine aw_aload_n (pc := 8) C 0 dX9_team_8 rfl ?_
    refine aw_iload_n (pc := 9) C 1 dX9_team_9 rfl ?_
    refine aw_callV (pc := 10) C (c_X9_bestTeam _ n hok x h5.1) lk_X9_211 sh73 rfl (by decide) rfl (Nat.le_of_ble_eq_true rfl) dX9_team_10 rfl (fun w s hq => ?_)
    obtain ⟨f10, g10, h10, t10, hT10, rfl, rfl⟩ := hq
    refine aw_conv (σ' := setR (setR (setR (setR σ 25 (f10)) 26 (g10)) 27 (h10)) 28 (t10)) (st' := [.int (lsT (σ.1 20) (tmS (σ.1 20) x 216))]) (by first | rfl | (simp (disch := omega) only [setR_at, setR_twice, setL_at, setL_twice, setR_2, setL_1, setR_ne, setL_ne, ne_eq, Nat.reduceEqDiff, not_false_eq_true, pk_us, pk_un]; done) | ((try simp (disch := omega) only [setR_at, setR_twice, setL_at, setL_twice, setR_2, setL_1, setR_ne, setL_ne, ne_eq, Nat.reduceEqDiff, not_false_eq_true, pk_us, pk_un]); refine Prod.ext (funext fun z => ?_) rfl; simp only [setR]; (repeat' split) <;> first | rfl | (exfalso; omega))) rfl (by first | rfl | (simp (disch := omega) only [setR_at, setR_twice, setL_at, setL_twice, setR_2, setL_1, setR_ne, setL_ne, ne_eq, Nat.reduceEqDiff, not_false_eq_true, pk_us, pk_un]; done) | ((try simp (disch := omega) only [setR_at, setR_twice, setL_at, setL_twice, setR_2, setL_1, setR_ne, setL_ne, ne_eq, Nat.reduceEqDiff, not_false_eq_true, pk_us, pk_un]); refine Prod.ext (funext fun z => ?_) rfl; simp only [setR]; (repeat' split) <;> first | rfl | (exfalso; omega))) ?_
    refine aw_goto (pc := 13) C 22 dX9_team_13 (by decide) ?_
    exact aw_iretP (pc := 22) C rfl dX9_team_22 (pm_scr (an' := .inr (lsT (σ.1 20) (tmS (σ.1 20) x 216), σ.1 20)) (by rw [sTeam, if_pos h5]) rfl (fun r hr => by simp only [anS, setR]; (repeat' split) <;> first | rfl | (subst_vars; first | rfl | exact absurd (by decide) hr)) rfl)
theorem c_X9_leg (σ : St) (n : Nat) (hok : Ok n (σ.1 20)) (x i : Int32) : AMet Y_X9_leg [.ref 73, .int x, .int i] σ (PM σ (sLeg (σ.1 20) n x i)) := by
  refine am_intro (by decide +kernel) (Nat.le_of_ble_eq_true rfl) (fun K C => ?_)
  have hz := hok.1
  have hn := hok.2.1
  refine aw_aload_n (pc := 0) C 0 dX9_leg_0 rfl ?_
  refine aw_iload_n (pc := 1) C 1 dX9_leg_1 rfl ?_
  refine aw_cVI (pc := 2) C (c_X9_isTeam _ n hn hz x ) lk_X9_208 sh73 rfl dX9_leg_2 (by decide) (Nat.le_of_ble_eq_true rfl) rfl rfl ?_
  refine aw_if_eqB (pc := 5) C 20 dX9_leg_5 (by decide) (fun h5 => ?_) (fun h5 => ?_)
  · refine aw_aload_n (pc := 20) C 0 dX9_leg_20 rfl ?_
    refine aw_ldc (pc := 21) C dX9_leg_21 kc_X9_46 ?_
    refine aw_cVI (pc := 23) C (c_X9_finds _ (-100000001) 0 (by decide) (by decide)) lk_X9_48 sh73 rfl dX9_leg_23 (by decide) (Nat.le_of_ble_eq_true rfl) rfl rfl ?_
    exact aw_iretP (pc := 26) C rfl dX9_leg_26 (pm_of (an' := .inl 0) (by rw [sLeg, if_neg (fun z => h5 z.1)]) rfl rfl)
  · refine aw_iload_n (pc := 8) C 2 dX9_leg_8 rfl ?_
    refine aw_i2l (pc := 9) C dX9_leg_9 ?_
    refine aw_lconst (pc := 10) (v := 0) C dX9_leg_10 rfl ?_
    refine aw_ldc2 (pc := 11) C dX9_leg_11 kc_X9_214 ?_
    refine aw_cSI (pc := 14) C (c_X9_in _ i 0 2 _ _ _ rfl (by decide) (by decide)) lk_X9_54 dX9_leg_14 (by decide) (Nat.le_of_ble_eq_true rfl) rfl rfl ?_
    refine aw_if_neB (pc := 17) C 27 dX9_leg_17 (by decide) (fun h17 => ?_) (fun h17 => ?_)
    · obtain ⟨ii, rfl, hii0, hii⟩ := rg 0 2 h17 (by omega) (by omega)
      refine aw_aload_n (pc := 27) C 0 dX9_leg_27 rfl ?_
      refine aw_iload_n (pc := 28) C 1 dX9_leg_28 rfl ?_
      refine aw_callV (pc := 29) C (c_X9_bestTeam _ n hok x h5.1) lk_X9_211 sh73 rfl (by decide) rfl (Nat.le_of_ble_eq_true rfl) dX9_leg_29 rfl (fun w s hq => ?_)
      obtain ⟨f29, g29, h29, t29, hT29, rfl, rfl⟩ := hq
      refine aw_conv (σ' := setR (setR (setR (setR σ 25 (f29)) 26 (g29)) 27 (h29)) 28 (t29)) (st' := [.int (lsT (σ.1 20) (tmS (σ.1 20) x 216))]) (by first | rfl | (simp (disch := omega) only [setR_at, setR_twice, setL_at, setL_twice, setR_2, setL_1, setR_ne, setL_ne, ne_eq, Nat.reduceEqDiff, not_false_eq_true, pk_us, pk_un]; done) | ((try simp (disch := omega) only [setR_at, setR_twice, setL_at, setL_twice, setR_2, setL_1, setR_ne, setL_ne, ne_eq, Nat.reduceEqDiff, not_false_eq_true, pk_us, pk_un]); refine Prod.ext (funext fun z => ?_) rfl; simp only [setR]; (repeat' split) <;> first | rfl | (exfalso; omega))) rfl (by first | rfl | (simp (disch := omega) only [setR_at, setR_twice, setL_at, setL_twice, setR_2, setL_1, setR_ne, setL_ne, ne_eq, Nat.reduceEqDiff, not_false_eq_true, pk_us, pk_un]; done) | ((try simp (disch := omega) only [setR_at, setR_twice, setL_at, setL_twice, setR_2, setL_1, setR_ne, setL_ne, ne_eq, Nat.reduceEqDiff, not_false_eq_true, pk_us, pk_un]); refine Prod.ext (funext fun z => ?_) rfl; simp only [setR]; (repeat' split) <;> first | rfl | (exfalso; omega))) ?_
      refine aw_pop (pc := 32) C dX9_leg_32 rfl ?_
      refine aw_aload_n (pc := 33) C 0 dX9_leg_33 rfl ?_
      refine aw_getR (pc := 34) C fl_X9_31 sh73 rfl dX9_leg_34 ?_
      refine aw_iload_n (pc := 37) C 2 dX9_leg_37 rfl ?_
      refine aw_ild (pc := 38) (k := ii) C (ii) (t29 ii) sh81 dX9_leg_38 rfl (by omega) rfl (by first | rfl | (simp (disch := omega) only [setR_at, setR_twice, setL_at, setL_twice, setR_2, setL_1, setR_ne, setL_ne, ne_eq, Nat.reduceEqDiff, not_false_eq_true, pk_us, pk_un]; done) | ((try simp (disch := omega) only [setR_at, setR_twice, setL_at, setL_twice, setR_2, setL_1, setR_ne, setL_ne, ne_eq, Nat.reduceEqDiff, not_false_eq_true, pk_us, pk_un]); refine Prod.ext (funext fun z => ?_) rfl; simp only [setR]; (repeat' split) <;> first | rfl | (exfalso; omega))) ?_
      obtain ⟨b, hb⟩ := team_ex (μ := σ.1 20) hz h5
      refine aw_top C (tmL b ii) (hT29 b hb ii (by omega)) ?_
      exact aw_iretP (pc := 39) C rfl dX9_leg_39 (pm_scr (an' := .inr (tmL b ii, σ.1 20)) (by rw [sLeg, if_pos ⟨h5, h17⟩, hb, cl_nI (show ii < 2147483648 by omega)]) rfl (fun r hr => by simp only [anS, setR]; (repeat' split) <;> first | rfl | (subst_vars; first | rfl | exact absurd (by decide) hr)) rfl)
    · refine aw_aload_n (pc := 20) C 0 dX9_leg_20 rfl ?_
      refine aw_ldc (pc := 21) C dX9_leg_21 kc_X9_46 ?_
      refine aw_cVI (pc := 23) C (c_X9_finds _ (-100000001) 0 (by decide) (by decide)) lk_X9_48 sh73 rfl dX9_leg_23 (by decide) (Nat.le_of_ble_eq_true rfl) rfl rfl ?_
      exact aw_iretP (pc := 26) C rfl dX9_leg_26 (pm_of (an' := .inl 0) (by rw [sLeg, if_neg (fun z => h17 z.2)]) rfl rfl)
theorem c_X9_grass (σ : St) : AMet Y_X9_grass [.ref 73] σ (fz (some (.int (grS (σ.1 20) 30))) (σ)) := by
  refine am_intro (by decide +kernel) (Nat.le_of_ble_eq_true rfl) (fun K C => ?_)
  refine aw_iconst (pc := 0) (v := 0) C dX9_grass_0 rfl ?_
  refine aw_istore_n (pc := 1) C [(1, .int 0), (0, .ref 73)] dX9_grass_1 (Nat.le_of_ble_eq_true rfl) rfl ?_
  refine aw_iconst (pc := 2) (v := 0) C dX9_grass_2 rfl ?_
  refine aw_istore_n (pc := 3) C [(2, .int 0), (1, .int 0), (0, .ref 73)] dX9_grass_3 (Nat.le_of_ble_eq_true rfl) rfl ?_
  refine aw_lvs C [0, 1, 2] [(2, .int 0), (1, .int 0), (0, .ref 73)] rfl ?_
  refine aw_conv (σ' := σ) (lv' := [(2, .int (nI 0)), (1, .int (grS (σ.1 20) 0)), (0, .ref 73)]) rfl rfl rfl ?_
  refine loop_up (P := fun k => AW _ K _ (σ) 4 [(2, .int (nI k)), (1, .int (grS (σ.1 20) k)), (0, .ref 73)] []) 30 ?_ ?_ 0 (by omega) 
  · refine aw_iload_n (pc := 4) C 0 dX9_grass_4 rfl ?_
    refine aw_bipush (pc := 5) (v := 30) C dX9_grass_5 rfl ?_
    refine aw_icmp_geN (pc := 7) C 30 30 35 rfl rfl (by omega) (by omega) dX9_grass_7 (by decide) (fun h7 => ?_) (fun h7 => absurd h7 (by omega))
    refine aw_iload_n (pc := 35) C 1 dX9_grass_35 rfl ?_
    exact aw_iret (pc := 36) C rfl dX9_grass_36 rfl rfl
  · intro k hk4 ih4 
    refine aw_iload_n (pc := 4) C 0 dX9_grass_4 rfl ?_
    refine aw_bipush (pc := 5) (v := 30) C dX9_grass_5 rfl ?_
    refine aw_icmp_geN (pc := 7) C k 30 35 rfl rfl (by omega) (by omega) dX9_grass_7 (by decide) (fun h7 => absurd h7 (by omega)) (fun h7 => ?_)
    refine aw_iload_n (pc := 10) C 1 dX9_grass_10 rfl ?_
    refine aw_aload_n (pc := 11) C 2 dX9_grass_11 rfl ?_
    refine aw_getR (pc := 12) C fl_X9_9 sh73 rfl dX9_grass_12 ?_
    refine aw_iconst (pc := 15) (v := 3) C dX9_grass_15 rfl ?_
    refine aw_iload_n (pc := 16) C 0 dX9_grass_16 rfl ?_
    refine aw_iaddN (pc := 17) C 3 k rfl rfl dX9_grass_17 ?_
    refine aw_ild (pc := 18) (k := 3 + k) C (3 + k) (σ.1 20 (3 + k)) sh74 dX9_grass_18 rfl (by omega) rfl rfl ?_
    refine aw_if_ne (pc := 19) C 26 dX9_grass_19 (by decide) (fun h19 => ?_) (fun h19 => ?_)
    · refine aw_iconst (pc := 26) (v := 0) C dX9_grass_26 rfl ?_
      refine aw_iadd (pc := 27) C dX9_grass_27 ?_
      refine aw_istore_n (pc := 28) C [(1, .int ((grS (σ.1 20) k) + 0)), (2, .int (nI k)), (0, .ref 73)] dX9_grass_28 (Nat.le_of_ble_eq_true rfl) rfl ?_
      refine aw_iincN (pc := 29) C 1 k [(2, .int (nI (k + 1))), (1, .int ((grS (σ.1 20) k) + 0)), (0, .ref 73)] dX9_grass_29 rfl rfl rfl (Nat.le_of_ble_eq_true rfl) rfl ?_
      refine aw_goto (pc := 32) C 4 dX9_grass_32 (by decide) ?_
      refine aw_lvs C [0, 1, 2] [(2, .int (nI (k + 1))), (1, .int ((grS (σ.1 20) k) + 0)), (0, .ref 73)] rfl ?_
      exact aw_conv (σ' := σ) (lv' := [(2, .int (nI (k + 1))), (1, .int (grS (σ.1 20) (k + 1))), (0, .ref 73)]) rfl (by rw [grS, if_neg h19]) rfl ih4
    · refine aw_iconst (pc := 22) (v := 1) C dX9_grass_22 rfl ?_
      refine aw_goto (pc := 23) C 27 dX9_grass_23 (by decide) ?_
      refine aw_iadd (pc := 27) C dX9_grass_27 ?_
      refine aw_istore_n (pc := 28) C [(1, .int ((grS (σ.1 20) k) + 1)), (2, .int (nI k)), (0, .ref 73)] dX9_grass_28 (Nat.le_of_ble_eq_true rfl) rfl ?_
      refine aw_iincN (pc := 29) C 1 k [(2, .int (nI (k + 1))), (1, .int ((grS (σ.1 20) k) + 1)), (0, .ref 73)] dX9_grass_29 rfl rfl rfl (Nat.le_of_ble_eq_true rfl) rfl ?_
      refine aw_goto (pc := 32) C 4 dX9_grass_32 (by decide) ?_
      refine aw_lvs C [0, 1, 2] [(2, .int (nI (k + 1))), (1, .int ((grS (σ.1 20) k) + 1)), (0, .ref 73)] rfl ?_
      exact aw_conv (σ' := σ) (lv' := [(2, .int (nI (k + 1))), (1, .int (grS (σ.1 20) (k + 1))), (0, .ref 73)]) rfl (by rw [grS, if_pos h19]) rfl ih4
theorem c_X9_rain (σ : St) (k : Int32) : AMet Y_X9_rain [.ref 73, .int k] σ (PM σ (sRain (σ.1 20) k)) := by
  refine am_intro (by decide +kernel) (Nat.le_of_ble_eq_true rfl) (fun K C => ?_)
  refine aw_iload_n (pc := 0) C 1 dX9_rain_0 rfl ?_
  refine aw_i2l (pc := 1) C dX9_rain_1 ?_
  refine aw_lconst (pc := 2) (v := 1) C dX9_rain_2 rfl ?_
  refine aw_ldc2 (pc := 3) C dX9_rain_3 kc_X9_219 ?_
  refine aw_cSI (pc := 6) C (c_X9_in _ k 1 12 _ _ _ rfl (by decide) (by decide)) lk_X9_54 dX9_rain_6 (by decide) (Nat.le_of_ble_eq_true rfl) rfl rfl ?_
  refine aw_if_neB (pc := 9) C 19 dX9_rain_9 (by decide) (fun h9 => ?_) (fun h9 => ?_)
  · obtain ⟨kk, rfl, hkk0, hkk⟩ := rg 1 12 h9 (by omega) (by omega)
    refine aw_iconst (pc := 19) (v := 0) C dX9_rain_19 rfl ?_
    refine aw_istore_n (pc := 20) C [(2, .int 0), (0, .ref 73), (1, .int (nI kk))] dX9_rain_20 (Nat.le_of_ble_eq_true rfl) rfl ?_
    refine aw_lvs C [0, 1, 2] [(2, .int 0), (0, .ref 73), (1, .int (nI kk))] rfl ?_
    refine aw_conv (σ' := setR σ 20 (rnM (σ.1 20) 0)) (lv' := [(2, .int (nI 0)), (0, .ref 73), (1, .int (nI kk))]) (setR_same σ 20).symm rfl rfl ?_
    refine loop_up (P := fun k => AW _ K _ (setR σ 20 (rnM (σ.1 20) k)) 21 [(2, .int (nI k)), (0, .ref 73), (1, .int (nI kk))] []) kk ?_ ?_ 0 (by omega) 
    · refine aw_iload_n (pc := 21) C 0 dX9_rain_21 rfl ?_
      refine aw_iload_n (pc := 22) C 2 dX9_rain_22 rfl ?_
      refine aw_icmp_geN (pc := 23) C kk kk 54 rfl rfl (by omega) (by omega) dX9_rain_23 (by decide) (fun h23 => ?_) (fun h23 => absurd h23 (by omega))
      refine aw_aload_n (pc := 54) C 1 dX9_rain_54 rfl ?_
      refine aw_cVI (pc := 55) C (c_X9_grass _  ) lk_X9_221 sh73 rfl dX9_rain_55 (by decide) (Nat.le_of_ble_eq_true rfl) rfl rfl ?_
      refine aw_conv (σ' := setR σ 20 (rnM (σ.1 20) kk)) (st' := [.int (grS (rnM (σ.1 20) kk) 30)]) (by first | rfl | (simp (disch := omega) only [setR_at, setR_twice, setL_at, setL_twice, setR_2, setL_1, setR_ne, setL_ne, ne_eq, Nat.reduceEqDiff, not_false_eq_true, pk_us, pk_un]; done) | ((try simp (disch := omega) only [setR_at, setR_twice, setL_at, setL_twice, setR_2, setL_1, setR_ne, setL_ne, ne_eq, Nat.reduceEqDiff, not_false_eq_true, pk_us, pk_un]); refine Prod.ext (funext fun z => ?_) rfl; simp only [setR]; (repeat' split) <;> first | rfl | (exfalso; omega))) rfl (by first | rfl | (simp (disch := omega) only [setR_at, setR_twice, setL_at, setL_twice, setR_2, setL_1, setR_ne, setL_ne, ne_eq, Nat.reduceEqDiff, not_false_eq_true, pk_us, pk_un]; done) | ((try simp (disch := omega) only [setR_at, setR_twice, setL_at, setL_twice, setR_2, setL_1, setR_ne, setL_ne, ne_eq, Nat.reduceEqDiff, not_false_eq_true, pk_us, pk_un]); refine Prod.ext (funext fun z => ?_) rfl; simp only [setR]; (repeat' split) <;> first | rfl | (exfalso; omega))) ?_
      exact aw_iretP (pc := 58) C rfl dX9_rain_58 (pm_of (an' := .inr (grS (rnM (σ.1 20) kk) 30, rnM (σ.1 20) kk)) (by rw [sRain, if_pos h9, cl_nI (show kk < 2147483648 by omega)]) rfl rfl)
    · intro k hk21 ih21 
      refine aw_iload_n (pc := 21) C 0 dX9_rain_21 rfl ?_
      refine aw_iload_n (pc := 22) C 2 dX9_rain_22 rfl ?_
      refine aw_icmp_geN (pc := 23) C k kk 54 rfl rfl (by omega) (by omega) dX9_rain_23 (by decide) (fun h23 => absurd h23 (by omega)) (fun h23 => ?_)
      refine aw_aload_n (pc := 26) C 1 dX9_rain_26 rfl ?_
      refine aw_cVI (pc := 27) C (c_X9_draw _  ) lk_X9_146 sh73 rfl dX9_rain_27 (by decide) (Nat.le_of_ble_eq_true rfl) rfl rfl ?_
      refine aw_conv (σ' := setR σ 20 (upd (rnM (σ.1 20) k) 1 (drawZ (rnM (σ.1 20) k)))) (st' := [.int (drawV (rnM (σ.1 20) k))]) (by first | rfl | (simp (disch := omega) only [setR_at, setR_twice, setL_at, setL_twice, setR_2, setL_1, setR_ne, setL_ne, ne_eq, Nat.reduceEqDiff, not_false_eq_true, pk_us, pk_un]; done) | ((try simp (disch := omega) only [setR_at, setR_twice, setL_at, setL_twice, setR_2, setL_1, setR_ne, setL_ne, ne_eq, Nat.reduceEqDiff, not_false_eq_true, pk_us, pk_un]); refine Prod.ext (funext fun z => ?_) rfl; simp only [setR]; (repeat' split) <;> first | rfl | (exfalso; omega))) rfl (by first | rfl | (simp (disch := omega) only [setR_at, setR_twice, setL_at, setL_twice, setR_2, setL_1, setR_ne, setL_ne, ne_eq, Nat.reduceEqDiff, not_false_eq_true, pk_us, pk_un]; done) | ((try simp (disch := omega) only [setR_at, setR_twice, setL_at, setL_twice, setR_2, setL_1, setR_ne, setL_ne, ne_eq, Nat.reduceEqDiff, not_false_eq_true, pk_us, pk_un]); refine Prod.ext (funext fun z => ?_) rfl; simp only [setR]; (repeat' split) <;> first | rfl | (exfalso; omega))) ?_
      refine aw_bipush (pc := 30) (v := 30) C dX9_rain_30 rfl ?_
      refine aw_irem (pc := 32) C dX9_rain_32 (by decide) ?_
      obtain ⟨j, hj, ej⟩ := draw_rem (rnM (σ.1 20) k) 30 (by omega) (by omega)
      refine aw_top C (nI (j)) ej ?_
      refine aw_istore_n (pc := 33) C [(3, .int (nI j)), (2, .int (nI k)), (0, .ref 73), (1, .int (nI kk))] dX9_rain_33 (Nat.le_of_ble_eq_true rfl) rfl ?_
      refine aw_aload_n (pc := 34) C 2 dX9_rain_34 rfl ?_
      refine aw_getR (pc := 35) C fl_X9_9 sh73 rfl dX9_rain_35 ?_
      refine aw_iconst (pc := 38) (v := 3) C dX9_rain_38 rfl ?_
      refine aw_iload_n (pc := 39) C 0 dX9_rain_39 rfl ?_
      refine aw_iaddN (pc := 40) C 3 j rfl rfl dX9_rain_40 ?_
      refine aw_aload_n (pc := 41) C 2 dX9_rain_41 rfl ?_
      refine aw_cVI (pc := 42) C (c_X9_draw _  ) lk_X9_146 sh73 rfl dX9_rain_42 (by decide) (Nat.le_of_ble_eq_true rfl) rfl rfl ?_
      refine aw_conv (σ' := setR σ 20 (upd (upd (rnM (σ.1 20) k) 1 (drawZ (rnM (σ.1 20) k))) 1 (drawZ (upd (rnM (σ.1 20) k) 1 (drawZ (rnM (σ.1 20) k)))))) (st' := [.int (drawV (upd (rnM (σ.1 20) k) 1 (drawZ (rnM (σ.1 20) k)))), .int (nI (3 + j)), .ref 74]) (by first | rfl | (simp (disch := omega) only [setR_at, setR_twice, setL_at, setL_twice, setR_2, setL_1, setR_ne, setL_ne, ne_eq, Nat.reduceEqDiff, not_false_eq_true, pk_us, pk_un]; done) | ((try simp (disch := omega) only [setR_at, setR_twice, setL_at, setL_twice, setR_2, setL_1, setR_ne, setL_ne, ne_eq, Nat.reduceEqDiff, not_false_eq_true, pk_us, pk_un]); refine Prod.ext (funext fun z => ?_) rfl; simp only [setR]; (repeat' split) <;> first | rfl | (exfalso; omega))) rfl (by first | rfl | (simp (disch := omega) only [setR_at, setR_twice, setL_at, setL_twice, setR_2, setL_1, setR_ne, setL_ne, ne_eq, Nat.reduceEqDiff, not_false_eq_true, pk_us, pk_un]; done) | ((try simp (disch := omega) only [setR_at, setR_twice, setL_at, setL_twice, setR_2, setL_1, setR_ne, setL_ne, ne_eq, Nat.reduceEqDiff, not_false_eq_true, pk_us, pk_un]); refine Prod.ext (funext fun z => ?_) rfl; simp only [setR]; (repeat' split) <;> first | rfl | (exfalso; omega))) ?_
      refine aw_iconst (pc := 45) (v := 5) C dX9_rain_45 rfl ?_
      refine aw_irem (pc := 46) C dX9_rain_46 (by decide) ?_
      refine aw_ist (pc := 47) (k := 3 + j) C (3 + j) (setR σ 20 (upd (upd (upd (rnM (σ.1 20) k) 1 (drawZ (rnM (σ.1 20) k))) 1 (drawZ (upd (rnM (σ.1 20) k) 1 (drawZ (rnM (σ.1 20) k))))) (3 + j) ((drawV (upd (rnM (σ.1 20) k) 1 (drawZ (rnM (σ.1 20) k)))) - (drawV (upd (rnM (σ.1 20) k) 1 (drawZ (rnM (σ.1 20) k)))) / 5 * 5))) sh74 dX9_rain_47 rfl (by omega) rfl (by first | rfl | (simp (disch := omega) only [setR_at, setR_twice, setL_at, setL_twice, setR_2, setL_1, setR_ne, setL_ne, ne_eq, Nat.reduceEqDiff, not_false_eq_true, pk_us, pk_un]; done) | ((try simp (disch := omega) only [setR_at, setR_twice, setL_at, setL_twice, setR_2, setL_1, setR_ne, setL_ne, ne_eq, Nat.reduceEqDiff, not_false_eq_true, pk_us, pk_un]); refine Prod.ext (funext fun z => ?_) rfl; simp only [setR]; (repeat' split) <;> first | rfl | (exfalso; omega))) ?_
      refine aw_iincN (pc := 48) C 1 k [(2, .int (nI (k + 1))), (3, .int (nI j)), (0, .ref 73), (1, .int (nI kk))] dX9_rain_48 rfl rfl rfl (Nat.le_of_ble_eq_true rfl) rfl ?_
      refine aw_goto (pc := 51) C 21 dX9_rain_51 (by decide) ?_
      refine aw_lvs C [0, 2, 3] [(2, .int (nI (k + 1))), (0, .ref 73), (1, .int (nI kk))] rfl ?_
      exact aw_conv (σ' := setR σ 20 (rnM (σ.1 20) (k + 1))) (lv' := [(2, .int (nI (k + 1))), (0, .ref 73), (1, .int (nI kk))]) (by rw [rnM]; simp only [rem, rn1, show drawV (rnM (σ.1 20) k) - drawV (rnM (σ.1 20) k) / 30 * 30 = nI j from ej, cl_nI (show j < 2147483648 by omega)]) rfl rfl ih21
  · refine aw_aload_n (pc := 12) C 0 dX9_rain_12 rfl ?_
    refine aw_ldc (pc := 13) C dX9_rain_13 kc_X9_46 ?_
    refine aw_cVI (pc := 15) C (c_X9_finds _ (-100000001) 0 (by decide) (by decide)) lk_X9_48 sh73 rfl dX9_rain_15 (by decide) (Nat.le_of_ble_eq_true rfl) rfl rfl ?_
    exact aw_iretP (pc := 18) C rfl dX9_rain_18 (pm_of (an' := .inl 0) (by rw [sRain, if_neg (fun z => h9 (z))]) rfl rfl)
theorem c_X9_seed (σ : St) (v : Int32) : AMet Y_X9_seed [.ref 73, .int v] σ (PM σ (sSeed (σ.1 20) v)) := by
  refine am_intro (by decide +kernel) (Nat.le_of_ble_eq_true rfl) (fun K C => ?_)
  refine aw_aload_n (pc := 0) C 0 dX9_seed_0 rfl ?_
  refine aw_iconst (pc := 1) (v := 1) C dX9_seed_1 rfl ?_
  refine aw_iload_n (pc := 2) C 1 dX9_seed_2 rfl ?_
  refine aw_cVI (pc := 3) C (c_X9_becomes _ 1 v (by omega)) lk_X9_72 sh73 rfl dX9_seed_3 (by decide) (Nat.le_of_ble_eq_true rfl) rfl rfl ?_
  exact aw_iretP (pc := 6) C rfl dX9_seed_6 (pm_of (an' := .inr (σ.1 20 1, upd (σ.1 20) 1 (v))) rfl rfl rfl)
theorem c_X9_feed (σ : St) (t : Nat) (ht : σ.1 23 1 = nI t) (h120 : t ≤ 120) (x n : Int32) : AMet Y_X9_feed [.ref 73, .int x, .int n] σ (PT σ (sFeed (σ.1 29) t x n)) := by
  refine am_intro (by decide +kernel) (Nat.le_of_ble_eq_true rfl) (fun K C => ?_)
  refine aw_iload_n (pc := 0) C 2 dX9_feed_0 rfl ?_
  refine aw_i2l (pc := 1) C dX9_feed_1 ?_
  refine aw_lconst (pc := 2) (v := 1) C dX9_feed_2 rfl ?_
  refine aw_ldc2 (pc := 3) C dX9_feed_3 kc_X9_70 ?_
  refine aw_cSI (pc := 6) C (c_X9_in _ n 1 4 _ _ _ rfl (by decide) (by decide)) lk_X9_54 dX9_feed_6 (by decide) (Nat.le_of_ble_eq_true rfl) rfl rfl ?_
  refine aw_if_neB (pc := 9) C 19 dX9_feed_9 (by decide) (fun h9 => ?_) (fun h9 => ?_)
  · obtain ⟨nn, rfl, hnn0, hnn⟩ := rg 1 4 h9 (by omega) (by omega)
    refine aw_aload_n (pc := 19) C 0 dX9_feed_19 rfl ?_
    refine aw_gld (pc := 20) C (σ.1 23 1) fl_X9_224 sh73 rfl dX9_feed_20 rfl ?_
    refine aw_top C (nI (t)) ht ?_
    refine aw_iload_n (pc := 23) C 2 dX9_feed_23 rfl ?_
    refine aw_iaddN (pc := 24) C t nn rfl rfl dX9_feed_24 ?_
    refine aw_bipush (pc := 25) (v := 120) C dX9_feed_25 rfl ?_
    refine aw_icmp_leN (pc := 27) C (t + nn) 120 37 rfl rfl (by omega) (by omega) dX9_feed_27 (by decide) (fun h27 => ?_) (fun h27 => ?_)
    · refine aw_iload_n (pc := 37) C 2 dX9_feed_37 rfl ?_
      refine aw_iconst (pc := 38) (v := 1) C dX9_feed_38 rfl ?_
      refine aw_isub (pc := 39) C dX9_feed_39 ?_
      refine aw_istore_n (pc := 40) C [(3, .int ((nI (nn)) - 1)), (0, .ref 73), (1, .int x), (2, .int (nI nn))] dX9_feed_40 (Nat.le_of_ble_eq_true rfl) rfl ?_
      refine aw_lvs C [0, 1, 2, 3] [(3, .int ((nI (nn)) - 1)), (0, .ref 73), (1, .int x), (2, .int (nI nn))] rfl ?_
      refine aw_conv (σ' := setR (setR σ 29 (fdB (σ.1 29) t x nn (nn - nn))) 23 (upd (σ.1 23) 1 (nI (t + (nn - nn))))) (lv' := [(3, .int (dI nn)), (0, .ref 73), (1, .int x), (2, .int (nI nn))]) (by rw [Nat.sub_self]; show σ = setR (setR σ 29 (σ.1 29)) 23 (upd (σ.1 23) 1 (nI (t + 0))); rw [Nat.add_zero, ← ht, upd_same, setR_same, setR_same]) (by rw [dI_sub]) rfl ?_
      refine loop_dn (P := fun m => m ≤ nn → AW _ K _ (setR (setR σ 29 (fdB (σ.1 29) t x nn (nn - m))) 23 (upd (σ.1 23) 1 (nI (t + (nn - m))))) 41 [(3, .int (dI m)), (0, .ref 73), (1, .int x), (2, .int (nI nn))] []) ?_ ?_ nn (by omega) 
      · intro hk41 
        refine aw_iload_n (pc := 41) C 0 dX9_feed_41 rfl ?_
        refine aw_if_lt (pc := 42) C 80 dX9_feed_42 (by decide) (fun h42 => ?_) (fun h42 => absurd h42 (by decide))
        refine aw_aload_n (pc := 80) C 1 dX9_feed_80 rfl ?_
        refine aw_gld (pc := 81) C (nI (t + (nn - 0))) fl_X9_224 sh73 rfl dX9_feed_81 (by first | rfl | (simp (disch := omega) only [setR_at, setR_twice, setL_at, setL_twice, setR_2, setL_1, setR_ne, setL_ne, ne_eq, Nat.reduceEqDiff, not_false_eq_true, pk_us, pk_un]; done) | ((try simp (disch := omega) only [setR_at, setR_twice, setL_at, setL_twice, setR_2, setL_1, setR_ne, setL_ne, ne_eq, Nat.reduceEqDiff, not_false_eq_true, pk_us, pk_un]); refine Prod.ext (funext fun z => ?_) rfl; simp only [setR]; (repeat' split) <;> first | rfl | (exfalso; omega))) ?_
        exact aw_iretP (pc := 84) C rfl dX9_feed_84 (pt_of (an' := .inr (nI (t + nn), fdB (σ.1 29) t x nn nn, t + nn)) (by rw [sFeed, if_pos h9, cl_nI (show nn < 2147483648 by omega), if_neg (by omega)]) rfl rfl)
      · intro m ih41 hk41 
        refine aw_iload_n (pc := 41) C 0 dX9_feed_41 rfl ?_
        refine aw_if_lt (pc := 42) C 80 dX9_feed_42 (by decide) (fun h42 => absurd h42 (nI_pos (by omega))) (fun h42 => ?_)
        refine aw_aload_n (pc := 45) C 1 dX9_feed_45 rfl ?_
        refine aw_getR (pc := 46) C fl_X9_34 sh73 rfl dX9_feed_46 ?_
        refine aw_aload_n (pc := 49) C 1 dX9_feed_49 rfl ?_
        refine aw_gld (pc := 50) C (nI (t + (nn - (m + 1)))) fl_X9_224 sh73 rfl dX9_feed_50 (by first | rfl | (simp (disch := omega) only [setR_at, setR_twice, setL_at, setL_twice, setR_2, setL_1, setR_ne, setL_ne, ne_eq, Nat.reduceEqDiff, not_false_eq_true, pk_us, pk_un]; done) | ((try simp (disch := omega) only [setR_at, setR_twice, setL_at, setL_twice, setR_2, setL_1, setR_ne, setL_ne, ne_eq, Nat.reduceEqDiff, not_false_eq_true, pk_us, pk_un]); refine Prod.ext (funext fun z => ?_) rfl; simp only [setR]; (repeat' split) <;> first | rfl | (exfalso; omega))) ?_
        refine aw_top C (nI (t + (nn - (m + 1)))) rfl ?_
        refine aw_iload_n (pc := 53) C 2 dX9_feed_53 rfl ?_
        refine aw_bipush (pc := 54) (v := 8) C dX9_feed_54 rfl ?_
        refine aw_iload_n (pc := 56) C 0 dX9_feed_56 rfl ?_
        refine aw_imulN (pc := 57) C 8 m rfl rfl dX9_feed_57 ?_
        refine aw_ishr (pc := 58) C dX9_feed_58 ?_
        refine aw_sipush (pc := 59) (v := 255) C dX9_feed_59 rfl ?_
        refine aw_iand (pc := 62) C dX9_feed_62 ?_
        refine aw_ist (pc := 63) (k := t + (nn - (m + 1))) C (t + (nn - (m + 1))) (setR (setR σ 29 (upd (fdB (σ.1 29) t x nn (nn - (m + 1))) (t + (nn - (m + 1))) ((x >>> (nI (8 * m) &&& 31)) &&& 255))) 23 (upd (σ.1 23) 1 (nI (t + (nn - (m + 1)))))) sh82 dX9_feed_63 rfl (by omega) rfl (by first | rfl | (simp (disch := omega) only [setR_at, setR_twice, setL_at, setL_twice, setR_2, setL_1, setR_ne, setL_ne, ne_eq, Nat.reduceEqDiff, not_false_eq_true, pk_us, pk_un]; done) | ((try simp (disch := omega) only [setR_at, setR_twice, setL_at, setL_twice, setR_2, setL_1, setR_ne, setL_ne, ne_eq, Nat.reduceEqDiff, not_false_eq_true, pk_us, pk_un]); refine Prod.ext (funext fun z => ?_) rfl; simp only [setR]; (repeat' split) <;> first | rfl | (exfalso; omega))) ?_
        refine aw_aload_n (pc := 64) C 1 dX9_feed_64 rfl ?_
        refine aw_dup (pc := 65) C dX9_feed_65 rfl ?_
        refine aw_gld (pc := 66) C (nI (t + (nn - (m + 1)))) fl_X9_224 sh73 rfl dX9_feed_66 (by first | rfl | (simp (disch := omega) only [setR_at, setR_twice, setL_at, setL_twice, setR_2, setL_1, setR_ne, setL_ne, ne_eq, Nat.reduceEqDiff, not_false_eq_true, pk_us, pk_un]; done) | ((try simp (disch := omega) only [setR_at, setR_twice, setL_at, setL_twice, setR_2, setL_1, setR_ne, setL_ne, ne_eq, Nat.reduceEqDiff, not_false_eq_true, pk_us, pk_un]); refine Prod.ext (funext fun z => ?_) rfl; simp only [setR]; (repeat' split) <;> first | rfl | (exfalso; omega))) ?_
        refine aw_iconst (pc := 69) (v := 1) C dX9_feed_69 rfl ?_
        refine aw_iadd (pc := 70) C dX9_feed_70 ?_
        refine aw_pst (pc := 71) C (setR (setR σ 29 (upd (fdB (σ.1 29) t x nn (nn - (m + 1))) (t + (nn - (m + 1))) ((x >>> (nI (8 * m) &&& 31)) &&& 255))) 23 (upd (upd (σ.1 23) 1 (nI (t + (nn - (m + 1))))) 1 ((nI (t + (nn - (m + 1)))) + 1))) fp_X9_224 sh73 rfl dX9_feed_71 (by first | rfl | (simp (disch := omega) only [setR_at, setR_twice, setL_at, setL_twice, setR_2, setL_1, setR_ne, setL_ne, ne_eq, Nat.reduceEqDiff, not_false_eq_true, pk_us, pk_un]; done) | ((try simp (disch := omega) only [setR_at, setR_twice, setL_at, setL_twice, setR_2, setL_1, setR_ne, setL_ne, ne_eq, Nat.reduceEqDiff, not_false_eq_true, pk_us, pk_un]); refine Prod.ext (funext fun z => ?_) rfl; simp only [setR]; (repeat' split) <;> first | rfl | (exfalso; omega))) ?_
        refine aw_iinc (pc := 74) C 0 ((nI (m)) + (-1)) [(3, .int ((nI (m)) + (-1))), (0, .ref 73), (1, .int x), (2, .int (nI nn))] dX9_feed_74 rfl rfl (Nat.le_of_ble_eq_true rfl) rfl ?_
        refine aw_goto (pc := 77) C 41 dX9_feed_77 (by decide) ?_
        refine aw_lvs C [0, 1, 2, 3] [(3, .int ((nI (m)) + (-1))), (0, .ref 73), (1, .int x), (2, .int (nI nn))] rfl ?_
        exact aw_conv (σ' := setR (setR σ 29 (fdB (σ.1 29) t x nn (nn - m))) 23 (upd (σ.1 23) 1 (nI (t + (nn - m))))) (lv' := [(3, .int (dI m)), (0, .ref 73), (1, .int x), (2, .int (nI nn))]) (by rw [upd_twice, nI_1, fdB_s (by omega), show t + (nn - (m + 1)) + 1 = t + (nn - m) by omega]) (by rw [dI_dec]) rfl (ih41 (by omega))
    · refine aw_aload_n (pc := 30) C 0 dX9_feed_30 rfl ?_
      refine aw_ldc (pc := 31) C dX9_feed_31 kc_X9_86 ?_
      refine aw_cVI (pc := 33) C (c_X9_finds _ (-100000002) 1 (by decide) (by decide)) lk_X9_48 sh73 rfl dX9_feed_33 (by decide) (Nat.le_of_ble_eq_true rfl) rfl rfl ?_
      exact aw_iretP (pc := 36) C rfl dX9_feed_36 (pt_of (an' := .inl 1) (by rw [sFeed, if_pos h9, cl_nI (show nn < 2147483648 by omega), if_pos h27]) rfl rfl)
  · refine aw_aload_n (pc := 12) C 0 dX9_feed_12 rfl ?_
    refine aw_ldc (pc := 13) C dX9_feed_13 kc_X9_46 ?_
    refine aw_cVI (pc := 15) C (c_X9_finds _ (-100000001) 0 (by decide) (by decide)) lk_X9_48 sh73 rfl dX9_feed_15 (by decide) (Nat.le_of_ble_eq_true rfl) rfl rfl ?_
    exact aw_iretP (pc := 18) C rfl dX9_feed_18 (pt_of (an' := .inl 0) (by rw [sFeed, if_neg h9]) rfl rfl)
theorem c_X9_wipe (σ : St) (t : Nat) (ht : σ.1 23 1 = nI t) (h120 : t ≤ 120) : AMet Y_X9_wipe [.ref 73] σ (PT σ (sWipe (σ.1 29) t)) := by
  refine am_intro (by decide +kernel) (Nat.le_of_ble_eq_true rfl) (fun K C => ?_)
  refine aw_aload_n (pc := 0) C 0 dX9_wipe_0 rfl ?_
  refine aw_gld (pc := 1) C (σ.1 23 1) fl_X9_224 sh73 rfl dX9_wipe_1 rfl ?_
  refine aw_istore_n (pc := 4) C [(1, .int (σ.1 23 1)), (0, .ref 73)] dX9_wipe_4 (Nat.le_of_ble_eq_true rfl) rfl ?_
  refine aw_aload_n (pc := 5) C 1 dX9_wipe_5 rfl ?_
  refine aw_iconst (pc := 6) (v := 0) C dX9_wipe_6 rfl ?_
  refine aw_pst (pc := 7) C (setR σ 23 (upd (σ.1 23) 1 (0))) fp_X9_224 sh73 rfl dX9_wipe_7 rfl ?_
  refine aw_iload_n (pc := 10) C 0 dX9_wipe_10 rfl ?_
  exact aw_iretP (pc := 11) C rfl dX9_wipe_11 (pt_of (an' := .inr (nI t, σ.1 29, 0)) rfl ht (by show _ = setR (setR σ 29 (σ.1 29)) 23 _; rw [setR_same]; rfl))
