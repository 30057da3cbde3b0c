/-! THE LAW'S LOOP -/
theorem and63 (x : Int32) : ∃ u, u < 64 ∧ x &&& 63 = nI u := by
  refine ⟨(x &&& 63).toBitVec.toNat, ?_, ?_⟩
  · rw [Int32.toBitVec_and, BitVec.toNat_and]
    exact Nat.lt_of_le_of_lt Nat.and_le_right (by decide)
  · apply Int32.toBitVec_inj.mp
    show _ = BitVec.ofNat 32 _
    rw [BitVec.ofNat_toNat, BitVec.setWidth_eq]
theorem less6 {L i : Nat} (hL : L ≤ 384) (hi : i ≤ 384) : nI L - 6 < nI i ↔ L < i + 6 := by
  have e : (nI L - 6).toInt = (L : Int) - 6 := by
    rw [Int32.toInt_sub, nI_toInt (by omega), show (6 : Int32).toInt = 6 from rfl]
    exact Int.bmod_eq_of_le (by omega) (by omega)
  rw [Int32.lt_iff_toInt_lt, e, nI_toInt (by omega)]
  omega
section LWL
variable {K : LK}
theorem lw_switch (C : LCx K) {σ : St} (hR : Rel σ) {i : Nat} (hi : i + 6 ≤ K.L) (kk : ∀ σ', Rel σ' → LW K σ' 1838 (lvL K i) []) (u : Nat) (hu : u < 64) : LW K σ 33 (lvL K i) [.int (nI u)] := by
  intro H locs ls hP hS hl
  match u, hu with
  | 0, _ => exact lv_tableIn (tgt := 252) (off := 219) C.1.1 C.1.2.1 dL_law_33 (by decide) (by decide) rfl (by decide) (lc_0 C hR hi kk H locs ls hP hS hl)
  | 1, _ => exact lv_tableIn (tgt := 285) (off := 252) C.1.1 C.1.2.1 dL_law_33 (by decide) (by decide) rfl (by decide) (lc_1 C hR hi kk H locs ls hP hS hl)
  | 2, _ => exact lv_tableIn (tgt := 308) (off := 275) C.1.1 C.1.2.1 dL_law_33 (by decide) (by decide) rfl (by decide) (lc_2 C hR hi kk H locs ls hP hS hl)
  | 3, _ => exact lv_tableIn (tgt := 351) (off := 318) C.1.1 C.1.2.1 dL_law_33 (by decide) (by decide) rfl (by decide) (lc_3 C hR hi kk H locs ls hP hS hl)
  | 4, _ => exact lv_tableIn (tgt := 384) (off := 351) C.1.1 C.1.2.1 dL_law_33 (by decide) (by decide) rfl (by decide) (lc_4 C hR hi kk H locs ls hP hS hl)
  | 5, _ => exact lv_tableIn (tgt := 427) (off := 394) C.1.1 C.1.2.1 dL_law_33 (by decide) (by decide) rfl (by decide) (lc_5 C hR hi kk H locs ls hP hS hl)
  | 6, _ => exact lv_tableIn (tgt := 480) (off := 447) C.1.1 C.1.2.1 dL_law_33 (by decide) (by decide) rfl (by decide) (lc_6 C hR hi kk H locs ls hP hS hl)
  | 7, _ => exact lv_tableIn (tgt := 513) (off := 480) C.1.1 C.1.2.1 dL_law_33 (by decide) (by decide) rfl (by decide) (lc_7 C hR hi kk H locs ls hP hS hl)
  | 8, _ => exact lv_tableIn (tgt := 556) (off := 523) C.1.1 C.1.2.1 dL_law_33 (by decide) (by decide) rfl (by decide) (lc_8 C hR hi kk H locs ls hP hS hl)
  | 9, _ => exact lv_tableIn (tgt := 609) (off := 576) C.1.1 C.1.2.1 dL_law_33 (by decide) (by decide) rfl (by decide) (lc_9 C hR hi kk H locs ls hP hS hl)
  | 10, _ => exact lv_tableIn (tgt := 632) (off := 599) C.1.1 C.1.2.1 dL_law_33 (by decide) (by decide) rfl (by decide) (lc_10 C hR hi kk H locs ls hP hS hl)
  | 11, _ => exact lv_tableIn (tgt := 655) (off := 622) C.1.1 C.1.2.1 dL_law_33 (by decide) (by decide) rfl (by decide) (lc_11 C hR hi kk H locs ls hP hS hl)
  | 12, _ => exact lv_tableIn (tgt := 668) (off := 635) C.1.1 C.1.2.1 dL_law_33 (by decide) (by decide) rfl (by decide) (lc_12 C hR hi kk H locs ls hP hS hl)
  | 13, _ => exact lv_tableIn (tgt := 691) (off := 658) C.1.1 C.1.2.1 dL_law_33 (by decide) (by decide) rfl (by decide) (lc_13 C hR hi kk H locs ls hP hS hl)
  | 14, _ => exact lv_tableIn (tgt := 704) (off := 671) C.1.1 C.1.2.1 dL_law_33 (by decide) (by decide) rfl (by decide) (lc_14 C hR hi kk H locs ls hP hS hl)
  | 15, _ => exact lv_tableIn (tgt := 737) (off := 704) C.1.1 C.1.2.1 dL_law_33 (by decide) (by decide) rfl (by decide) (lc_15 C hR hi kk H locs ls hP hS hl)
  | 16, _ => exact lv_tableIn (tgt := 750) (off := 717) C.1.1 C.1.2.1 dL_law_33 (by decide) (by decide) rfl (by decide) (lc_16 C hR hi kk H locs ls hP hS hl)
  | 17, _ => exact lv_tableIn (tgt := 773) (off := 740) C.1.1 C.1.2.1 dL_law_33 (by decide) (by decide) rfl (by decide) (lc_17 C hR hi kk H locs ls hP hS hl)
  | 18, _ => exact lv_tableIn (tgt := 806) (off := 773) C.1.1 C.1.2.1 dL_law_33 (by decide) (by decide) rfl (by decide) (lc_18 C hR hi kk H locs ls hP hS hl)
  | 19, _ => exact lv_tableIn (tgt := 850) (off := 817) C.1.1 C.1.2.1 dL_law_33 (by decide) (by decide) rfl (by decide) (lc_19 C hR hi kk H locs ls hP hS hl)
  | 20, _ => exact lv_tableIn (tgt := 904) (off := 871) C.1.1 C.1.2.1 dL_law_33 (by decide) (by decide) rfl (by decide) (lc_20 C hR hi kk H locs ls hP hS hl)
  | 21, _ => exact lv_tableIn (tgt := 947) (off := 914) C.1.1 C.1.2.1 dL_law_33 (by decide) (by decide) rfl (by decide) (lc_21 C hR hi kk H locs ls hP hS hl)
  | 22, _ => exact lv_tableIn (tgt := 990) (off := 957) C.1.1 C.1.2.1 dL_law_33 (by decide) (by decide) rfl (by decide) (lc_22 C hR hi kk H locs ls hP hS hl)
  | 23, _ => exact lv_tableIn (tgt := 1033) (off := 1000) C.1.1 C.1.2.1 dL_law_33 (by decide) (by decide) rfl (by decide) (lc_23 C hR hi kk H locs ls hP hS hl)
  | 24, _ => exact lv_tableIn (tgt := 1056) (off := 1023) C.1.1 C.1.2.1 dL_law_33 (by decide) (by decide) rfl (by decide) (lc_24 C hR hi kk H locs ls hP hS hl)
  | 25, _ => exact lv_tableIn (tgt := 1079) (off := 1046) C.1.1 C.1.2.1 dL_law_33 (by decide) (by decide) rfl (by decide) (lc_25 C hR hi kk H locs ls hP hS hl)
  | 26, _ => exact lv_tableIn (tgt := 1112) (off := 1079) C.1.1 C.1.2.1 dL_law_33 (by decide) (by decide) rfl (by decide) (lc_26 C hR hi kk H locs ls hP hS hl)
  | 27, _ => exact lv_tableIn (tgt := 1135) (off := 1102) C.1.1 C.1.2.1 dL_law_33 (by decide) (by decide) rfl (by decide) (lc_27 C hR hi kk H locs ls hP hS hl)
  | 28, _ => exact lv_tableIn (tgt := 1158) (off := 1125) C.1.1 C.1.2.1 dL_law_33 (by decide) (by decide) rfl (by decide) (lc_28 C hR hi kk H locs ls hP hS hl)
  | 29, _ => exact lv_tableIn (tgt := 1191) (off := 1158) C.1.1 C.1.2.1 dL_law_33 (by decide) (by decide) rfl (by decide) (lc_29 C hR hi kk H locs ls hP hS hl)
  | 30, _ => exact lv_tableIn (tgt := 1214) (off := 1181) C.1.1 C.1.2.1 dL_law_33 (by decide) (by decide) rfl (by decide) (lc_30 C hR hi kk H locs ls hP hS hl)
  | 31, _ => exact lv_tableIn (tgt := 1237) (off := 1204) C.1.1 C.1.2.1 dL_law_33 (by decide) (by decide) rfl (by decide) (lc_31 C hR hi kk H locs ls hP hS hl)
  | 32, _ => exact lv_tableIn (tgt := 1270) (off := 1237) C.1.1 C.1.2.1 dL_law_33 (by decide) (by decide) rfl (by decide) (lc_32 C hR hi kk H locs ls hP hS hl)
  | 33, _ => exact lv_tableIn (tgt := 1334) (off := 1301) C.1.1 C.1.2.1 dL_law_33 (by decide) (by decide) rfl (by decide) (lc_33 C hR hi kk H locs ls hP hS hl)
  | 34, _ => exact lv_tableIn (tgt := 1377) (off := 1344) C.1.1 C.1.2.1 dL_law_33 (by decide) (by decide) rfl (by decide) (lc_34 C hR hi kk H locs ls hP hS hl)
  | 35, _ => exact lv_tableIn (tgt := 1400) (off := 1367) C.1.1 C.1.2.1 dL_law_33 (by decide) (by decide) rfl (by decide) (lc_35 C hR hi kk H locs ls hP hS hl)
  | 36, _ => exact lv_tableIn (tgt := 1423) (off := 1390) C.1.1 C.1.2.1 dL_law_33 (by decide) (by decide) rfl (by decide) (lc_36 C hR hi kk H locs ls hP hS hl)
  | 37, _ => exact lv_tableIn (tgt := 1456) (off := 1423) C.1.1 C.1.2.1 dL_law_33 (by decide) (by decide) rfl (by decide) (lc_37 C hR hi kk H locs ls hP hS hl)
  | 38, _ => exact lv_tableIn (tgt := 1469) (off := 1436) C.1.1 C.1.2.1 dL_law_33 (by decide) (by decide) rfl (by decide) (lc_38 C hR hi kk H locs ls hP hS hl)
  | 39, _ => exact lv_tableIn (tgt := 1482) (off := 1449) C.1.1 C.1.2.1 dL_law_33 (by decide) (by decide) rfl (by decide) (lc_39 C hR hi kk H locs ls hP hS hl)
  | 40, _ => exact lv_tableIn (tgt := 1515) (off := 1482) C.1.1 C.1.2.1 dL_law_33 (by decide) (by decide) rfl (by decide) (lc_40 C hR hi kk H locs ls hP hS hl)
  | 41, _ => exact lv_tableIn (tgt := 1548) (off := 1515) C.1.1 C.1.2.1 dL_law_33 (by decide) (by decide) rfl (by decide) (lc_41 C hR hi kk H locs ls hP hS hl)
  | 42, _ => exact lv_tableIn (tgt := 1591) (off := 1558) C.1.1 C.1.2.1 dL_law_33 (by decide) (by decide) rfl (by decide) (lc_42 C hR hi kk H locs ls hP hS hl)
  | 43, _ => exact lv_tableIn (tgt := 1634) (off := 1601) C.1.1 C.1.2.1 dL_law_33 (by decide) (by decide) rfl (by decide) (lc_43 C hR hi kk H locs ls hP hS hl)
  | 44, _ => exact lv_tableIn (tgt := 1697) (off := 1664) C.1.1 C.1.2.1 dL_law_33 (by decide) (by decide) rfl (by decide) (lc_44 C hR hi kk H locs ls hP hS hl)
  | 45, _ => exact lv_tableIn (tgt := 1730) (off := 1697) C.1.1 C.1.2.1 dL_law_33 (by decide) (by decide) rfl (by decide) (lc_45 C hR hi kk H locs ls hP hS hl)
  | 46, _ => exact lv_tableIn (tgt := 1753) (off := 1720) C.1.1 C.1.2.1 dL_law_33 (by decide) (by decide) rfl (by decide) (lc_46 C hR hi kk H locs ls hP hS hl)
  | 47, _ => exact lv_tableIn (tgt := 1766) (off := 1733) C.1.1 C.1.2.1 dL_law_33 (by decide) (by decide) rfl (by decide) (lc_47 C hR hi kk H locs ls hP hS hl)
  | 48, _ => exact lv_tableIn (tgt := 1779) (off := 1746) C.1.1 C.1.2.1 dL_law_33 (by decide) (by decide) rfl (by decide) (lc_48 C hR hi kk H locs ls hP hS hl)
  | 49, _ => exact lv_tableIn (tgt := 1792) (off := 1759) C.1.1 C.1.2.1 dL_law_33 (by decide) (by decide) rfl (by decide) (lc_49 C hR hi kk H locs ls hP hS hl)
  | 50, _ => exact lv_tableIn (tgt := 1815) (off := 1782) C.1.1 C.1.2.1 dL_law_33 (by decide) (by decide) rfl (by decide) (lc_50 C hR hi kk H locs ls hP hS hl)
  | u + 51, h => exact lv_tableOut (tgt := 1838) C.1.1 C.1.2.1 dL_law_33 (Or.inr (by rw [nI_toInt (by omega)]; omega)) (by decide) (kk σ hR H locs ls hP hS hl)
theorem lw_exit (C : LCx K) {σ : St} {lv : List (Nat × Value)} : LW K σ 1844 lv [] := by
  intro H locs ls hP hS hl
  refine lv_iconst (v := 1) C.1.1 C.1.2.1 dL_law_1844 (by decide) ?_
  refine va_forget (fun q hq => ?_) (lw_ret C.1.1 C.1.2.1 C.1.2.2.1 C.1.2.2.2.2.2.2.2.2.1 dL_law_1845)
  obtain ⟨c, hc, e⟩ := hS.2.2 q hq
  have h1 := C.2.2.2 c hc
  omega
theorem lw_loop (C : LCx K) : ∀ (d i : Nat) (σ : St), Rel σ → i ≤ 384 → K.L ≤ i + d → LW K σ 18 (lvL K i) [] := by
  have hL := C.2.1
  intro d
  induction d with
  | zero =>
    intro i σ hR hi hd
    refine lw_iload C 0 dL_law_18 rfl ?_
    refine lw_aload C 1 dL_law_19 rfl ?_
    intro H locs ls hP hS hl
    refine va_slen C.1.1 C.1.2.1 C.1.2.2.2.2.2.2.1 C.1.2.2.2.2.2.2.2.1 C.off hS dL_law_20 ?_
    refine lv_bipush (v := 6) C.1.1 C.1.2.1 dL_law_21 (by decide) ?_
    refine lv_isub C.1.1 C.1.2.1 dL_law_23 ?_
    exact lv_icmp_gt (tgt := 1844) C.1.1 C.1.2.1 dL_law_24 (by decide) (fun _ => lw_exit C H locs ls hP hS hl) (fun z => absurd ((less6 hL hi).mpr (by omega)) z)
  | succ d ih =>
    intro i σ hR hi hd
    refine lw_iload C 0 dL_law_18 rfl ?_
    refine lw_aload C 1 dL_law_19 rfl ?_
    intro H locs ls hP hS hl
    refine va_slen C.1.1 C.1.2.1 C.1.2.2.2.2.2.2.1 C.1.2.2.2.2.2.2.2.1 C.off hS dL_law_20 ?_
    refine lv_bipush (v := 6) C.1.1 C.1.2.1 dL_law_21 (by decide) ?_
    refine lv_isub C.1.1 C.1.2.1 dL_law_23 ?_
    refine lv_icmp_gt (tgt := 1844) C.1.1 C.1.2.1 dL_law_24 (by decide) (fun _ => lw_exit C H locs ls hP hS hl) (fun z => ?_)
    have h6 : i + 6 ≤ K.L := by
      rcases Nat.lt_or_ge K.L (i + 6) with h | h
      · exact absurd ((less6 hL hi).mpr h) z
      · exact h
    refine lv_aload_n C.1.1 C.1.2.1 dL_law_27 rfl (lv_at hl 1 rfl) ?_
    refine lv_iload_n C.1.1 C.1.2.1 dL_law_28 rfl (lv_at hl 0 rfl) ?_
    refine va_sld C.1.1 C.1.2.1 C.1.2.2.2.2.2.2.1 C.1.2.2.2.2.2.2.2.1 C.off hS (vp_in_nI (show i < K.L by omega) (by omega)) dL_law_29 ?_
    refine lv_bipush (v := 63) C.1.1 C.1.2.1 dL_law_30 (by decide) ?_
    refine lv_iand C.1.1 C.1.2.1 dL_law_32 ?_
    obtain ⟨u, hu, e⟩ := and63 (K.xs (nI i).toNatClampNeg)
    rw [e]
    refine lw_switch C hR h6 (fun σ' hR' => ?_) u hu H locs ls hP hS hl
    intro H1 locs1 ls1 hP1 hS1 hl1
    refine lv_iinc (k := 0) (v := nI (i + 6)) (lv' := lvL K (i + 6)) C.1.1 C.1.2.1 dL_law_1838 hl1 rfl (nI_add i 6) (by decide) rfl (fun ls2 hl2 => ?_)
    refine lv_goto (tgt := 18) C.1.1 C.1.2.1 dL_law_1841 (by decide) ?_
    exact ih (i + 6) σ' hR' (by omega) (by omega) H1 locs1 ls2 hP1 hS1 hl2
end LWL
