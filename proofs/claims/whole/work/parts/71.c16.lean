/-! the class: KINDS -/
theorem c_X4_isOfKind (σ : St) (j : Nat) (hj : j < 3) (i : Nat) (hi : i < 6) (k : Nat) (hk : σ.1 j (33 + 37 * i + 0) = nI k) (hk7 : k < 7) (a : Int32) : AMet Y_X4_isOfKind [.ref (29 + 16 * j + 2 * i), .int a] σ (fz (some (.int (b2i (asP (fl (σ.1 j) i 0) a)))) (σ)) := by
  refine am_intro (by decide +kernel) (Nat.le_of_ble_eq_true rfl) (fun K C => ?_)
  refine aw_aload_n (pc := 0) C 0 dX4_isOfKind_0 rfl ?_
  refine aw_gld (pc := 1) C (σ.1 j (33 + 37 * i + 0)) fl_X4_21 (shR hj hi) rfl dX4_isOfKind_1 rfl ?_
  rcases (show k = 0 ∨ k = 1 ∨ k = 2 ∨ k = 3 ∨ k = 4 ∨ k = 5 ∨ k = 6 by omega) with rfl | rfl | rfl | rfl | rfl | rfl | rfl
  · refine aw_top C 0 (hk.trans (by decide)) ?_
    refine aw_istore_n (pc := 4) C [(2, .int 0), (0, .ref (29 + 16 * j + 2 * i)), (1, .int a)] dX4_isOfKind_4 (Nat.le_of_ble_eq_true rfl) rfl ?_
    refine aw_iconst (pc := 5) (v := 0) C dX4_isOfKind_5 rfl ?_
    refine aw_istore_n (pc := 6) C [(3, .int 0), (2, .int 0), (0, .ref (29 + 16 * j + 2 * i)), (1, .int a)] dX4_isOfKind_6 (Nat.le_of_ble_eq_true rfl) rfl ?_
    refine aw_iload_n (pc := 7) C 0 dX4_isOfKind_7 rfl ?_
    refine aw_bipush (pc := 8) (v := 6) C dX4_isOfKind_8 rfl ?_
    refine aw_icmp_gt (pc := 10) C 36 dX4_isOfKind_10 (by decide) (fun h10 => absurd h10 (by decide)) (fun h10 => ?_)
    refine aw_iload_n (pc := 13) C 1 dX4_isOfKind_13 rfl ?_
    refine aw_if_lt (pc := 14) C 36 dX4_isOfKind_14 (by decide) (fun h14 => absurd h14 (by decide)) (fun h14 => ?_)
    refine aw_iload_n (pc := 17) C 1 dX4_isOfKind_17 rfl ?_
    refine aw_iload_n (pc := 18) C 3 dX4_isOfKind_18 rfl ?_
    refine aw_icmp_ne (pc := 19) C 24 dX4_isOfKind_19 (by decide) (fun h19 => ?_) (fun h19 => ?_)
    · have hn0 := h19
      refine aw_getst (pc := 24) (i := 2) C rfl rfl (by decide) dX4_isOfKind_24 ?_
      refine aw_iload_n (pc := 27) C 1 dX4_isOfKind_27 rfl ?_
      refine aw_tab (pc := 28) (i := 2) (k := 0) C rfl dX4_isOfKind_28 rfl (by first | decide | omega) ?_
      refine aw_top C ((-1)) (by decide) ?_
      refine aw_istore_n (pc := 29) C [(2, .int ((-1))), (3, .int 0), (0, .ref (29 + 16 * j + 2 * i)), (1, .int a)] dX4_isOfKind_29 (Nat.le_of_ble_eq_true rfl) rfl ?_
      refine aw_iinc (pc := 30) C 1 1 [(3, .int 1), (2, .int ((-1))), (0, .ref (29 + 16 * j + 2 * i)), (1, .int a)] dX4_isOfKind_30 rfl (by decide) (Nat.le_of_ble_eq_true rfl) rfl ?_
      refine aw_goto (pc := 33) C 7 dX4_isOfKind_33 (by decide) ?_
      refine aw_iload_n (pc := 7) C 0 dX4_isOfKind_7 rfl ?_
      refine aw_bipush (pc := 8) (v := 6) C dX4_isOfKind_8 rfl ?_
      refine aw_icmp_gt (pc := 10) C 36 dX4_isOfKind_10 (by decide) (fun h10 => absurd h10 (by decide)) (fun h10 => ?_)
      refine aw_iload_n (pc := 13) C 1 dX4_isOfKind_13 rfl ?_
      refine aw_if_lt (pc := 14) C 36 dX4_isOfKind_14 (by decide) (fun h14 => ?_) (fun h14 => absurd h14 (by decide))
      refine aw_iconst (pc := 36) (v := 0) C dX4_isOfKind_36 rfl ?_
      exact aw_zret (pc := 37) C rfl rfl dX4_isOfKind_37 (b2i_f (by rw [show fl (σ.1 j) i 0 = nI 0 from hk]; exact (show ¬ asP (nI 0) a from fun z => by rcases z with z | z | ⟨z, q⟩ | ⟨z, q⟩ <;> first | exact hn0 z | exact hn0 z.symm | exact absurd q (by decide) | exact absurd q (by decide)))).symm rfl
    · refine aw_iconst (pc := 22) (v := 1) C dX4_isOfKind_22 rfl ?_
      exact aw_zret (pc := 23) C rfl rfl dX4_isOfKind_23 (b2i_t (by rw [show fl (σ.1 j) i 0 = nI 0 from hk]; exact (show asP (nI 0) a from Or.inl h19))).symm rfl
  · refine aw_top C 1 (hk.trans (by decide)) ?_
    refine aw_istore_n (pc := 4) C [(2, .int 1), (0, .ref (29 + 16 * j + 2 * i)), (1, .int a)] dX4_isOfKind_4 (Nat.le_of_ble_eq_true rfl) rfl ?_
    refine aw_iconst (pc := 5) (v := 0) C dX4_isOfKind_5 rfl ?_
    refine aw_istore_n (pc := 6) C [(3, .int 0), (2, .int 1), (0, .ref (29 + 16 * j + 2 * i)), (1, .int a)] dX4_isOfKind_6 (Nat.le_of_ble_eq_true rfl) rfl ?_
    refine aw_iload_n (pc := 7) C 0 dX4_isOfKind_7 rfl ?_
    refine aw_bipush (pc := 8) (v := 6) C dX4_isOfKind_8 rfl ?_
    refine aw_icmp_gt (pc := 10) C 36 dX4_isOfKind_10 (by decide) (fun h10 => absurd h10 (by decide)) (fun h10 => ?_)
    refine aw_iload_n (pc := 13) C 1 dX4_isOfKind_13 rfl ?_
    refine aw_if_lt (pc := 14) C 36 dX4_isOfKind_14 (by decide) (fun h14 => absurd h14 (by decide)) (fun h14 => ?_)
    refine aw_iload_n (pc := 17) C 1 dX4_isOfKind_17 rfl ?_
    refine aw_iload_n (pc := 18) C 3 dX4_isOfKind_18 rfl ?_
    refine aw_icmp_ne (pc := 19) C 24 dX4_isOfKind_19 (by decide) (fun h19 => ?_) (fun h19 => ?_)
    · have hn1 := h19
      refine aw_getst (pc := 24) (i := 2) C rfl rfl (by decide) dX4_isOfKind_24 ?_
      refine aw_iload_n (pc := 27) C 1 dX4_isOfKind_27 rfl ?_
      refine aw_tab (pc := 28) (i := 2) (k := 1) C rfl dX4_isOfKind_28 rfl (by first | decide | omega) ?_
      refine aw_top C (0) (by decide) ?_
      refine aw_istore_n (pc := 29) C [(2, .int 0), (3, .int 0), (0, .ref (29 + 16 * j + 2 * i)), (1, .int a)] dX4_isOfKind_29 (Nat.le_of_ble_eq_true rfl) rfl ?_
      refine aw_iinc (pc := 30) C 1 1 [(3, .int 1), (2, .int 0), (0, .ref (29 + 16 * j + 2 * i)), (1, .int a)] dX4_isOfKind_30 rfl (by decide) (Nat.le_of_ble_eq_true rfl) rfl ?_
      refine aw_goto (pc := 33) C 7 dX4_isOfKind_33 (by decide) ?_
      refine aw_iload_n (pc := 7) C 0 dX4_isOfKind_7 rfl ?_
      refine aw_bipush (pc := 8) (v := 6) C dX4_isOfKind_8 rfl ?_
      refine aw_icmp_gt (pc := 10) C 36 dX4_isOfKind_10 (by decide) (fun h10 => absurd h10 (by decide)) (fun h10 => ?_)
      refine aw_iload_n (pc := 13) C 1 dX4_isOfKind_13 rfl ?_
      refine aw_if_lt (pc := 14) C 36 dX4_isOfKind_14 (by decide) (fun h14 => absurd h14 (by decide)) (fun h14 => ?_)
      refine aw_iload_n (pc := 17) C 1 dX4_isOfKind_17 rfl ?_
      refine aw_iload_n (pc := 18) C 3 dX4_isOfKind_18 rfl ?_
      refine aw_icmp_ne (pc := 19) C 24 dX4_isOfKind_19 (by decide) (fun h19 => ?_) (fun h19 => ?_)
      · have hn0 := h19
        refine aw_getst (pc := 24) (i := 2) C rfl rfl (by decide) dX4_isOfKind_24 ?_
        refine aw_iload_n (pc := 27) C 1 dX4_isOfKind_27 rfl ?_
        refine aw_tab (pc := 28) (i := 2) (k := 0) C rfl dX4_isOfKind_28 rfl (by first | decide | omega) ?_
        refine aw_top C ((-1)) (by decide) ?_
        refine aw_istore_n (pc := 29) C [(2, .int ((-1))), (3, .int 1), (0, .ref (29 + 16 * j + 2 * i)), (1, .int a)] dX4_isOfKind_29 (Nat.le_of_ble_eq_true rfl) rfl ?_
        refine aw_iinc (pc := 30) C 1 2 [(3, .int 2), (2, .int ((-1))), (0, .ref (29 + 16 * j + 2 * i)), (1, .int a)] dX4_isOfKind_30 rfl (by decide) (Nat.le_of_ble_eq_true rfl) rfl ?_
        refine aw_goto (pc := 33) C 7 dX4_isOfKind_33 (by decide) ?_
        refine aw_iload_n (pc := 7) C 0 dX4_isOfKind_7 rfl ?_
        refine aw_bipush (pc := 8) (v := 6) C dX4_isOfKind_8 rfl ?_
        refine aw_icmp_gt (pc := 10) C 36 dX4_isOfKind_10 (by decide) (fun h10 => absurd h10 (by decide)) (fun h10 => ?_)
        refine aw_iload_n (pc := 13) C 1 dX4_isOfKind_13 rfl ?_
        refine aw_if_lt (pc := 14) C 36 dX4_isOfKind_14 (by decide) (fun h14 => ?_) (fun h14 => absurd h14 (by decide))
        refine aw_iconst (pc := 36) (v := 0) C dX4_isOfKind_36 rfl ?_
        exact aw_zret (pc := 37) C rfl rfl dX4_isOfKind_37 (b2i_f (by rw [show fl (σ.1 j) i 0 = nI 1 from hk]; exact (show ¬ asP (nI 1) a from fun z => by rcases z with z | z | ⟨z, q⟩ | ⟨z, q⟩ <;> first | exact hn1 z | exact hn0 z.symm | exact hn1 z.symm | exact absurd q (by decide)))).symm rfl
      · refine aw_iconst (pc := 22) (v := 1) C dX4_isOfKind_22 rfl ?_
        exact aw_zret (pc := 23) C rfl rfl dX4_isOfKind_23 (b2i_t (by rw [show fl (σ.1 j) i 0 = nI 1 from hk]; exact (show asP (nI 1) a from Or.inr (Or.inl h19.symm)))).symm rfl
    · refine aw_iconst (pc := 22) (v := 1) C dX4_isOfKind_22 rfl ?_
      exact aw_zret (pc := 23) C rfl rfl dX4_isOfKind_23 (b2i_t (by rw [show fl (σ.1 j) i 0 = nI 1 from hk]; exact (show asP (nI 1) a from Or.inl h19))).symm rfl
  · refine aw_top C 2 (hk.trans (by decide)) ?_
    refine aw_istore_n (pc := 4) C [(2, .int 2), (0, .ref (29 + 16 * j + 2 * i)), (1, .int a)] dX4_isOfKind_4 (Nat.le_of_ble_eq_true rfl) rfl ?_
    refine aw_iconst (pc := 5) (v := 0) C dX4_isOfKind_5 rfl ?_
    refine aw_istore_n (pc := 6) C [(3, .int 0), (2, .int 2), (0, .ref (29 + 16 * j + 2 * i)), (1, .int a)] dX4_isOfKind_6 (Nat.le_of_ble_eq_true rfl) rfl ?_
    refine aw_iload_n (pc := 7) C 0 dX4_isOfKind_7 rfl ?_
    refine aw_bipush (pc := 8) (v := 6) C dX4_isOfKind_8 rfl ?_
    refine aw_icmp_gt (pc := 10) C 36 dX4_isOfKind_10 (by decide) (fun h10 => absurd h10 (by decide)) (fun h10 => ?_)
    refine aw_iload_n (pc := 13) C 1 dX4_isOfKind_13 rfl ?_
    refine aw_if_lt (pc := 14) C 36 dX4_isOfKind_14 (by decide) (fun h14 => absurd h14 (by decide)) (fun h14 => ?_)
    refine aw_iload_n (pc := 17) C 1 dX4_isOfKind_17 rfl ?_
    refine aw_iload_n (pc := 18) C 3 dX4_isOfKind_18 rfl ?_
    refine aw_icmp_ne (pc := 19) C 24 dX4_isOfKind_19 (by decide) (fun h19 => ?_) (fun h19 => ?_)
    · have hn2 := h19
      refine aw_getst (pc := 24) (i := 2) C rfl rfl (by decide) dX4_isOfKind_24 ?_
      refine aw_iload_n (pc := 27) C 1 dX4_isOfKind_27 rfl ?_
      refine aw_tab (pc := 28) (i := 2) (k := 2) C rfl dX4_isOfKind_28 rfl (by first | decide | omega) ?_
      refine aw_top C (0) (by decide) ?_
      refine aw_istore_n (pc := 29) C [(2, .int 0), (3, .int 0), (0, .ref (29 + 16 * j + 2 * i)), (1, .int a)] dX4_isOfKind_29 (Nat.le_of_ble_eq_true rfl) rfl ?_
      refine aw_iinc (pc := 30) C 1 1 [(3, .int 1), (2, .int 0), (0, .ref (29 + 16 * j + 2 * i)), (1, .int a)] dX4_isOfKind_30 rfl (by decide) (Nat.le_of_ble_eq_true rfl) rfl ?_
      refine aw_goto (pc := 33) C 7 dX4_isOfKind_33 (by decide) ?_
      refine aw_iload_n (pc := 7) C 0 dX4_isOfKind_7 rfl ?_
      refine aw_bipush (pc := 8) (v := 6) C dX4_isOfKind_8 rfl ?_
      refine aw_icmp_gt (pc := 10) C 36 dX4_isOfKind_10 (by decide) (fun h10 => absurd h10 (by decide)) (fun h10 => ?_)
      refine aw_iload_n (pc := 13) C 1 dX4_isOfKind_13 rfl ?_
      refine aw_if_lt (pc := 14) C 36 dX4_isOfKind_14 (by decide) (fun h14 => absurd h14 (by decide)) (fun h14 => ?_)
      refine aw_iload_n (pc := 17) C 1 dX4_isOfKind_17 rfl ?_
      refine aw_iload_n (pc := 18) C 3 dX4_isOfKind_18 rfl ?_
      refine aw_icmp_ne (pc := 19) C 24 dX4_isOfKind_19 (by decide) (fun h19 => ?_) (fun h19 => ?_)
      · have hn0 := h19
        refine aw_getst (pc := 24) (i := 2) C rfl rfl (by decide) dX4_isOfKind_24 ?_
        refine aw_iload_n (pc := 27) C 1 dX4_isOfKind_27 rfl ?_
        refine aw_tab (pc := 28) (i := 2) (k := 0) C rfl dX4_isOfKind_28 rfl (by first | decide | omega) ?_
        refine aw_top C ((-1)) (by decide) ?_
        refine aw_istore_n (pc := 29) C [(2, .int ((-1))), (3, .int 1), (0, .ref (29 + 16 * j + 2 * i)), (1, .int a)] dX4_isOfKind_29 (Nat.le_of_ble_eq_true rfl) rfl ?_
        refine aw_iinc (pc := 30) C 1 2 [(3, .int 2), (2, .int ((-1))), (0, .ref (29 + 16 * j + 2 * i)), (1, .int a)] dX4_isOfKind_30 rfl (by decide) (Nat.le_of_ble_eq_true rfl) rfl ?_
        refine aw_goto (pc := 33) C 7 dX4_isOfKind_33 (by decide) ?_
        refine aw_iload_n (pc := 7) C 0 dX4_isOfKind_7 rfl ?_
        refine aw_bipush (pc := 8) (v := 6) C dX4_isOfKind_8 rfl ?_
        refine aw_icmp_gt (pc := 10) C 36 dX4_isOfKind_10 (by decide) (fun h10 => absurd h10 (by decide)) (fun h10 => ?_)
        refine aw_iload_n (pc := 13) C 1 dX4_isOfKind_13 rfl ?_
        refine aw_if_lt (pc := 14) C 36 dX4_isOfKind_14 (by decide) (fun h14 => ?_) (fun h14 => absurd h14 (by decide))
        refine aw_iconst (pc := 36) (v := 0) C dX4_isOfKind_36 rfl ?_
        exact aw_zret (pc := 37) C rfl rfl dX4_isOfKind_37 (b2i_f (by rw [show fl (σ.1 j) i 0 = nI 2 from hk]; exact (show ¬ asP (nI 2) a from fun z => by rcases z with z | z | ⟨z, q⟩ | ⟨z, q⟩ <;> first | exact hn2 z | exact hn0 z.symm | exact absurd q (by decide) | exact hn2 z.symm))).symm rfl
      · refine aw_iconst (pc := 22) (v := 1) C dX4_isOfKind_22 rfl ?_
        exact aw_zret (pc := 23) C rfl rfl dX4_isOfKind_23 (b2i_t (by rw [show fl (σ.1 j) i 0 = nI 2 from hk]; exact (show asP (nI 2) a from Or.inr (Or.inl h19.symm)))).symm rfl
    · refine aw_iconst (pc := 22) (v := 1) C dX4_isOfKind_22 rfl ?_
      exact aw_zret (pc := 23) C rfl rfl dX4_isOfKind_23 (b2i_t (by rw [show fl (σ.1 j) i 0 = nI 2 from hk]; exact (show asP (nI 2) a from Or.inl h19))).symm rfl
  · refine aw_top C 3 (hk.trans (by decide)) ?_
    refine aw_istore_n (pc := 4) C [(2, .int 3), (0, .ref (29 + 16 * j + 2 * i)), (1, .int a)] dX4_isOfKind_4 (Nat.le_of_ble_eq_true rfl) rfl ?_
    refine aw_iconst (pc := 5) (v := 0) C dX4_isOfKind_5 rfl ?_
    refine aw_istore_n (pc := 6) C [(3, .int 0), (2, .int 3), (0, .ref (29 + 16 * j + 2 * i)), (1, .int a)] dX4_isOfKind_6 (Nat.le_of_ble_eq_true rfl) rfl ?_
    refine aw_iload_n (pc := 7) C 0 dX4_isOfKind_7 rfl ?_
    refine aw_bipush (pc := 8) (v := 6) C dX4_isOfKind_8 rfl ?_
    refine aw_icmp_gt (pc := 10) C 36 dX4_isOfKind_10 (by decide) (fun h10 => absurd h10 (by decide)) (fun h10 => ?_)
    refine aw_iload_n (pc := 13) C 1 dX4_isOfKind_13 rfl ?_
    refine aw_if_lt (pc := 14) C 36 dX4_isOfKind_14 (by decide) (fun h14 => absurd h14 (by decide)) (fun h14 => ?_)
    refine aw_iload_n (pc := 17) C 1 dX4_isOfKind_17 rfl ?_
    refine aw_iload_n (pc := 18) C 3 dX4_isOfKind_18 rfl ?_
    refine aw_icmp_ne (pc := 19) C 24 dX4_isOfKind_19 (by decide) (fun h19 => ?_) (fun h19 => ?_)
    · have hn3 := h19
      refine aw_getst (pc := 24) (i := 2) C rfl rfl (by decide) dX4_isOfKind_24 ?_
      refine aw_iload_n (pc := 27) C 1 dX4_isOfKind_27 rfl ?_
      refine aw_tab (pc := 28) (i := 2) (k := 3) C rfl dX4_isOfKind_28 rfl (by first | decide | omega) ?_
      refine aw_top C (0) (by decide) ?_
      refine aw_istore_n (pc := 29) C [(2, .int 0), (3, .int 0), (0, .ref (29 + 16 * j + 2 * i)), (1, .int a)] dX4_isOfKind_29 (Nat.le_of_ble_eq_true rfl) rfl ?_
      refine aw_iinc (pc := 30) C 1 1 [(3, .int 1), (2, .int 0), (0, .ref (29 + 16 * j + 2 * i)), (1, .int a)] dX4_isOfKind_30 rfl (by decide) (Nat.le_of_ble_eq_true rfl) rfl ?_
      refine aw_goto (pc := 33) C 7 dX4_isOfKind_33 (by decide) ?_
      refine aw_iload_n (pc := 7) C 0 dX4_isOfKind_7 rfl ?_
      refine aw_bipush (pc := 8) (v := 6) C dX4_isOfKind_8 rfl ?_
      refine aw_icmp_gt (pc := 10) C 36 dX4_isOfKind_10 (by decide) (fun h10 => absurd h10 (by decide)) (fun h10 => ?_)
      refine aw_iload_n (pc := 13) C 1 dX4_isOfKind_13 rfl ?_
      refine aw_if_lt (pc := 14) C 36 dX4_isOfKind_14 (by decide) (fun h14 => absurd h14 (by decide)) (fun h14 => ?_)
      refine aw_iload_n (pc := 17) C 1 dX4_isOfKind_17 rfl ?_
      refine aw_iload_n (pc := 18) C 3 dX4_isOfKind_18 rfl ?_
      refine aw_icmp_ne (pc := 19) C 24 dX4_isOfKind_19 (by decide) (fun h19 => ?_) (fun h19 => ?_)
      · have hn0 := h19
        refine aw_getst (pc := 24) (i := 2) C rfl rfl (by decide) dX4_isOfKind_24 ?_
        refine aw_iload_n (pc := 27) C 1 dX4_isOfKind_27 rfl ?_
        refine aw_tab (pc := 28) (i := 2) (k := 0) C rfl dX4_isOfKind_28 rfl (by first | decide | omega) ?_
        refine aw_top C ((-1)) (by decide) ?_
        refine aw_istore_n (pc := 29) C [(2, .int ((-1))), (3, .int 1), (0, .ref (29 + 16 * j + 2 * i)), (1, .int a)] dX4_isOfKind_29 (Nat.le_of_ble_eq_true rfl) rfl ?_
        refine aw_iinc (pc := 30) C 1 2 [(3, .int 2), (2, .int ((-1))), (0, .ref (29 + 16 * j + 2 * i)), (1, .int a)] dX4_isOfKind_30 rfl (by decide) (Nat.le_of_ble_eq_true rfl) rfl ?_
        refine aw_goto (pc := 33) C 7 dX4_isOfKind_33 (by decide) ?_
        refine aw_iload_n (pc := 7) C 0 dX4_isOfKind_7 rfl ?_
        refine aw_bipush (pc := 8) (v := 6) C dX4_isOfKind_8 rfl ?_
        refine aw_icmp_gt (pc := 10) C 36 dX4_isOfKind_10 (by decide) (fun h10 => absurd h10 (by decide)) (fun h10 => ?_)
        refine aw_iload_n (pc := 13) C 1 dX4_isOfKind_13 rfl ?_
        refine aw_if_lt (pc := 14) C 36 dX4_isOfKind_14 (by decide) (fun h14 => ?_) (fun h14 => absurd h14 (by decide))
        refine aw_iconst (pc := 36) (v := 0) C dX4_isOfKind_36 rfl ?_
        exact aw_zret (pc := 37) C rfl rfl dX4_isOfKind_37 (b2i_f (by rw [show fl (σ.1 j) i 0 = nI 3 from hk]; exact (show ¬ asP (nI 3) a from fun z => by rcases z with z | z | ⟨z, q⟩ | ⟨z, q⟩ <;> first | exact hn3 z | exact hn0 z.symm | exact absurd q (by decide) | exact absurd q (by decide)))).symm rfl
      · refine aw_iconst (pc := 22) (v := 1) C dX4_isOfKind_22 rfl ?_
        exact aw_zret (pc := 23) C rfl rfl dX4_isOfKind_23 (b2i_t (by rw [show fl (σ.1 j) i 0 = nI 3 from hk]; exact (show asP (nI 3) a from Or.inr (Or.inl h19.symm)))).symm rfl
    · refine aw_iconst (pc := 22) (v := 1) C dX4_isOfKind_22 rfl ?_
      exact aw_zret (pc := 23) C rfl rfl dX4_isOfKind_23 (b2i_t (by rw [show fl (σ.1 j) i 0 = nI 3 from hk]; exact (show asP (nI 3) a from Or.inl h19))).symm rfl
  · refine aw_top C 4 (hk.trans (by decide)) ?_
    refine aw_istore_n (pc := 4) C [(2, .int 4), (0, .ref (29 + 16 * j + 2 * i)), (1, .int a)] dX4_isOfKind_4 (Nat.le_of_ble_eq_true rfl) rfl ?_
    refine aw_iconst (pc := 5) (v := 0) C dX4_isOfKind_5 rfl ?_
    refine aw_istore_n (pc := 6) C [(3, .int 0), (2, .int 4), (0, .ref (29 + 16 * j + 2 * i)), (1, .int a)] dX4_isOfKind_6 (Nat.le_of_ble_eq_true rfl) rfl ?_
    refine aw_iload_n (pc := 7) C 0 dX4_isOfKind_7 rfl ?_
    refine aw_bipush (pc := 8) (v := 6) C dX4_isOfKind_8 rfl ?_
    refine aw_icmp_gt (pc := 10) C 36 dX4_isOfKind_10 (by decide) (fun h10 => absurd h10 (by decide)) (fun h10 => ?_)
    refine aw_iload_n (pc := 13) C 1 dX4_isOfKind_13 rfl ?_
    refine aw_if_lt (pc := 14) C 36 dX4_isOfKind_14 (by decide) (fun h14 => absurd h14 (by decide)) (fun h14 => ?_)
    refine aw_iload_n (pc := 17) C 1 dX4_isOfKind_17 rfl ?_
    refine aw_iload_n (pc := 18) C 3 dX4_isOfKind_18 rfl ?_
    refine aw_icmp_ne (pc := 19) C 24 dX4_isOfKind_19 (by decide) (fun h19 => ?_) (fun h19 => ?_)
    · have hn4 := h19
      refine aw_getst (pc := 24) (i := 2) C rfl rfl (by decide) dX4_isOfKind_24 ?_
      refine aw_iload_n (pc := 27) C 1 dX4_isOfKind_27 rfl ?_
      refine aw_tab (pc := 28) (i := 2) (k := 4) C rfl dX4_isOfKind_28 rfl (by first | decide | omega) ?_
      refine aw_top C (1) (by decide) ?_
      refine aw_istore_n (pc := 29) C [(2, .int 1), (3, .int 0), (0, .ref (29 + 16 * j + 2 * i)), (1, .int a)] dX4_isOfKind_29 (Nat.le_of_ble_eq_true rfl) rfl ?_
      refine aw_iinc (pc := 30) C 1 1 [(3, .int 1), (2, .int 1), (0, .ref (29 + 16 * j + 2 * i)), (1, .int a)] dX4_isOfKind_30 rfl (by decide) (Nat.le_of_ble_eq_true rfl) rfl ?_
      refine aw_goto (pc := 33) C 7 dX4_isOfKind_33 (by decide) ?_
      refine aw_iload_n (pc := 7) C 0 dX4_isOfKind_7 rfl ?_
      refine aw_bipush (pc := 8) (v := 6) C dX4_isOfKind_8 rfl ?_
      refine aw_icmp_gt (pc := 10) C 36 dX4_isOfKind_10 (by decide) (fun h10 => absurd h10 (by decide)) (fun h10 => ?_)
      refine aw_iload_n (pc := 13) C 1 dX4_isOfKind_13 rfl ?_
      refine aw_if_lt (pc := 14) C 36 dX4_isOfKind_14 (by decide) (fun h14 => absurd h14 (by decide)) (fun h14 => ?_)
      refine aw_iload_n (pc := 17) C 1 dX4_isOfKind_17 rfl ?_
      refine aw_iload_n (pc := 18) C 3 dX4_isOfKind_18 rfl ?_
      refine aw_icmp_ne (pc := 19) C 24 dX4_isOfKind_19 (by decide) (fun h19 => ?_) (fun h19 => ?_)
      · have hn1 := h19
        refine aw_getst (pc := 24) (i := 2) C rfl rfl (by decide) dX4_isOfKind_24 ?_
        refine aw_iload_n (pc := 27) C 1 dX4_isOfKind_27 rfl ?_
        refine aw_tab (pc := 28) (i := 2) (k := 1) C rfl dX4_isOfKind_28 rfl (by first | decide | omega) ?_
        refine aw_top C (0) (by decide) ?_
        refine aw_istore_n (pc := 29) C [(2, .int 0), (3, .int 1), (0, .ref (29 + 16 * j + 2 * i)), (1, .int a)] dX4_isOfKind_29 (Nat.le_of_ble_eq_true rfl) rfl ?_
        refine aw_iinc (pc := 30) C 1 2 [(3, .int 2), (2, .int 0), (0, .ref (29 + 16 * j + 2 * i)), (1, .int a)] dX4_isOfKind_30 rfl (by decide) (Nat.le_of_ble_eq_true rfl) rfl ?_
        refine aw_goto (pc := 33) C 7 dX4_isOfKind_33 (by decide) ?_
        refine aw_iload_n (pc := 7) C 0 dX4_isOfKind_7 rfl ?_
        refine aw_bipush (pc := 8) (v := 6) C dX4_isOfKind_8 rfl ?_
        refine aw_icmp_gt (pc := 10) C 36 dX4_isOfKind_10 (by decide) (fun h10 => absurd h10 (by decide)) (fun h10 => ?_)
        refine aw_iload_n (pc := 13) C 1 dX4_isOfKind_13 rfl ?_
        refine aw_if_lt (pc := 14) C 36 dX4_isOfKind_14 (by decide) (fun h14 => absurd h14 (by decide)) (fun h14 => ?_)
        refine aw_iload_n (pc := 17) C 1 dX4_isOfKind_17 rfl ?_
        refine aw_iload_n (pc := 18) C 3 dX4_isOfKind_18 rfl ?_
        refine aw_icmp_ne (pc := 19) C 24 dX4_isOfKind_19 (by decide) (fun h19 => ?_) (fun h19 => ?_)
        · have hn0 := h19
          refine aw_getst (pc := 24) (i := 2) C rfl rfl (by decide) dX4_isOfKind_24 ?_
          refine aw_iload_n (pc := 27) C 1 dX4_isOfKind_27 rfl ?_
          refine aw_tab (pc := 28) (i := 2) (k := 0) C rfl dX4_isOfKind_28 rfl (by first | decide | omega) ?_
          refine aw_top C ((-1)) (by decide) ?_
          refine aw_istore_n (pc := 29) C [(2, .int ((-1))), (3, .int 2), (0, .ref (29 + 16 * j + 2 * i)), (1, .int a)] dX4_isOfKind_29 (Nat.le_of_ble_eq_true rfl) rfl ?_
          refine aw_iinc (pc := 30) C 1 3 [(3, .int 3), (2, .int ((-1))), (0, .ref (29 + 16 * j + 2 * i)), (1, .int a)] dX4_isOfKind_30 rfl (by decide) (Nat.le_of_ble_eq_true rfl) rfl ?_
          refine aw_goto (pc := 33) C 7 dX4_isOfKind_33 (by decide) ?_
          refine aw_iload_n (pc := 7) C 0 dX4_isOfKind_7 rfl ?_
          refine aw_bipush (pc := 8) (v := 6) C dX4_isOfKind_8 rfl ?_
          refine aw_icmp_gt (pc := 10) C 36 dX4_isOfKind_10 (by decide) (fun h10 => absurd h10 (by decide)) (fun h10 => ?_)
          refine aw_iload_n (pc := 13) C 1 dX4_isOfKind_13 rfl ?_
          refine aw_if_lt (pc := 14) C 36 dX4_isOfKind_14 (by decide) (fun h14 => ?_) (fun h14 => absurd h14 (by decide))
          refine aw_iconst (pc := 36) (v := 0) C dX4_isOfKind_36 rfl ?_
          exact aw_zret (pc := 37) C rfl rfl dX4_isOfKind_37 (b2i_f (by rw [show fl (σ.1 j) i 0 = nI 4 from hk]; exact (show ¬ asP (nI 4) a from fun z => by rcases z with z | z | ⟨z, q⟩ | ⟨z, q⟩ <;> first | exact hn4 z | exact hn0 z.symm | exact hn1 z.symm | exact absurd q (by decide)))).symm rfl
        · refine aw_iconst (pc := 22) (v := 1) C dX4_isOfKind_22 rfl ?_
          exact aw_zret (pc := 23) C rfl rfl dX4_isOfKind_23 (b2i_t (by rw [show fl (σ.1 j) i 0 = nI 4 from hk]; exact (show asP (nI 4) a from Or.inr (Or.inl h19.symm)))).symm rfl
      · refine aw_iconst (pc := 22) (v := 1) C dX4_isOfKind_22 rfl ?_
        exact aw_zret (pc := 23) C rfl rfl dX4_isOfKind_23 (b2i_t (by rw [show fl (σ.1 j) i 0 = nI 4 from hk]; exact (show asP (nI 4) a from Or.inr (Or.inr (Or.inl ⟨h19.symm, by decide⟩))))).symm rfl
    · refine aw_iconst (pc := 22) (v := 1) C dX4_isOfKind_22 rfl ?_
      exact aw_zret (pc := 23) C rfl rfl dX4_isOfKind_23 (b2i_t (by rw [show fl (σ.1 j) i 0 = nI 4 from hk]; exact (show asP (nI 4) a from Or.inl h19))).symm rfl
  · refine aw_top C 5 (hk.trans (by decide)) ?_
    refine aw_istore_n (pc := 4) C [(2, .int 5), (0, .ref (29 + 16 * j + 2 * i)), (1, .int a)] dX4_isOfKind_4 (Nat.le_of_ble_eq_true rfl) rfl ?_
    refine aw_iconst (pc := 5) (v := 0) C dX4_isOfKind_5 rfl ?_
    refine aw_istore_n (pc := 6) C [(3, .int 0), (2, .int 5), (0, .ref (29 + 16 * j + 2 * i)), (1, .int a)] dX4_isOfKind_6 (Nat.le_of_ble_eq_true rfl) rfl ?_
    refine aw_iload_n (pc := 7) C 0 dX4_isOfKind_7 rfl ?_
    refine aw_bipush (pc := 8) (v := 6) C dX4_isOfKind_8 rfl ?_
    refine aw_icmp_gt (pc := 10) C 36 dX4_isOfKind_10 (by decide) (fun h10 => absurd h10 (by decide)) (fun h10 => ?_)
    refine aw_iload_n (pc := 13) C 1 dX4_isOfKind_13 rfl ?_
    refine aw_if_lt (pc := 14) C 36 dX4_isOfKind_14 (by decide) (fun h14 => absurd h14 (by decide)) (fun h14 => ?_)
    refine aw_iload_n (pc := 17) C 1 dX4_isOfKind_17 rfl ?_
    refine aw_iload_n (pc := 18) C 3 dX4_isOfKind_18 rfl ?_
    refine aw_icmp_ne (pc := 19) C 24 dX4_isOfKind_19 (by decide) (fun h19 => ?_) (fun h19 => ?_)
    · have hn5 := h19
      refine aw_getst (pc := 24) (i := 2) C rfl rfl (by decide) dX4_isOfKind_24 ?_
      refine aw_iload_n (pc := 27) C 1 dX4_isOfKind_27 rfl ?_
      refine aw_tab (pc := 28) (i := 2) (k := 5) C rfl dX4_isOfKind_28 rfl (by first | decide | omega) ?_
      refine aw_top C (1) (by decide) ?_
      refine aw_istore_n (pc := 29) C [(2, .int 1), (3, .int 0), (0, .ref (29 + 16 * j + 2 * i)), (1, .int a)] dX4_isOfKind_29 (Nat.le_of_ble_eq_true rfl) rfl ?_
      refine aw_iinc (pc := 30) C 1 1 [(3, .int 1), (2, .int 1), (0, .ref (29 + 16 * j + 2 * i)), (1, .int a)] dX4_isOfKind_30 rfl (by decide) (Nat.le_of_ble_eq_true rfl) rfl ?_
      refine aw_goto (pc := 33) C 7 dX4_isOfKind_33 (by decide) ?_
      refine aw_iload_n (pc := 7) C 0 dX4_isOfKind_7 rfl ?_
      refine aw_bipush (pc := 8) (v := 6) C dX4_isOfKind_8 rfl ?_
      refine aw_icmp_gt (pc := 10) C 36 dX4_isOfKind_10 (by decide) (fun h10 => absurd h10 (by decide)) (fun h10 => ?_)
      refine aw_iload_n (pc := 13) C 1 dX4_isOfKind_13 rfl ?_
      refine aw_if_lt (pc := 14) C 36 dX4_isOfKind_14 (by decide) (fun h14 => absurd h14 (by decide)) (fun h14 => ?_)
      refine aw_iload_n (pc := 17) C 1 dX4_isOfKind_17 rfl ?_
      refine aw_iload_n (pc := 18) C 3 dX4_isOfKind_18 rfl ?_
      refine aw_icmp_ne (pc := 19) C 24 dX4_isOfKind_19 (by decide) (fun h19 => ?_) (fun h19 => ?_)
      · have hn1 := h19
        refine aw_getst (pc := 24) (i := 2) C rfl rfl (by decide) dX4_isOfKind_24 ?_
        refine aw_iload_n (pc := 27) C 1 dX4_isOfKind_27 rfl ?_
        refine aw_tab (pc := 28) (i := 2) (k := 1) C rfl dX4_isOfKind_28 rfl (by first | decide | omega) ?_
        refine aw_top C (0) (by decide) ?_
        refine aw_istore_n (pc := 29) C [(2, .int 0), (3, .int 1), (0, .ref (29 + 16 * j + 2 * i)), (1, .int a)] dX4_isOfKind_29 (Nat.le_of_ble_eq_true rfl) rfl ?_
        refine aw_iinc (pc := 30) C 1 2 [(3, .int 2), (2, .int 0), (0, .ref (29 + 16 * j + 2 * i)), (1, .int a)] dX4_isOfKind_30 rfl (by decide) (Nat.le_of_ble_eq_true rfl) rfl ?_
        refine aw_goto (pc := 33) C 7 dX4_isOfKind_33 (by decide) ?_
        refine aw_iload_n (pc := 7) C 0 dX4_isOfKind_7 rfl ?_
        refine aw_bipush (pc := 8) (v := 6) C dX4_isOfKind_8 rfl ?_
        refine aw_icmp_gt (pc := 10) C 36 dX4_isOfKind_10 (by decide) (fun h10 => absurd h10 (by decide)) (fun h10 => ?_)
        refine aw_iload_n (pc := 13) C 1 dX4_isOfKind_13 rfl ?_
        refine aw_if_lt (pc := 14) C 36 dX4_isOfKind_14 (by decide) (fun h14 => absurd h14 (by decide)) (fun h14 => ?_)
        refine aw_iload_n (pc := 17) C 1 dX4_isOfKind_17 rfl ?_
        refine aw_iload_n (pc := 18) C 3 dX4_isOfKind_18 rfl ?_
        refine aw_icmp_ne (pc := 19) C 24 dX4_isOfKind_19 (by decide) (fun h19 => ?_) (fun h19 => ?_)
        · have hn0 := h19
          refine aw_getst (pc := 24) (i := 2) C rfl rfl (by decide) dX4_isOfKind_24 ?_
          refine aw_iload_n (pc := 27) C 1 dX4_isOfKind_27 rfl ?_
          refine aw_tab (pc := 28) (i := 2) (k := 0) C rfl dX4_isOfKind_28 rfl (by first | decide | omega) ?_
          refine aw_top C ((-1)) (by decide) ?_
          refine aw_istore_n (pc := 29) C [(2, .int ((-1))), (3, .int 2), (0, .ref (29 + 16 * j + 2 * i)), (1, .int a)] dX4_isOfKind_29 (Nat.le_of_ble_eq_true rfl) rfl ?_
          refine aw_iinc (pc := 30) C 1 3 [(3, .int 3), (2, .int ((-1))), (0, .ref (29 + 16 * j + 2 * i)), (1, .int a)] dX4_isOfKind_30 rfl (by decide) (Nat.le_of_ble_eq_true rfl) rfl ?_
          refine aw_goto (pc := 33) C 7 dX4_isOfKind_33 (by decide) ?_
          refine aw_iload_n (pc := 7) C 0 dX4_isOfKind_7 rfl ?_
          refine aw_bipush (pc := 8) (v := 6) C dX4_isOfKind_8 rfl ?_
          refine aw_icmp_gt (pc := 10) C 36 dX4_isOfKind_10 (by decide) (fun h10 => absurd h10 (by decide)) (fun h10 => ?_)
          refine aw_iload_n (pc := 13) C 1 dX4_isOfKind_13 rfl ?_
          refine aw_if_lt (pc := 14) C 36 dX4_isOfKind_14 (by decide) (fun h14 => ?_) (fun h14 => absurd h14 (by decide))
          refine aw_iconst (pc := 36) (v := 0) C dX4_isOfKind_36 rfl ?_
          exact aw_zret (pc := 37) C rfl rfl dX4_isOfKind_37 (b2i_f (by rw [show fl (σ.1 j) i 0 = nI 5 from hk]; exact (show ¬ asP (nI 5) a from fun z => by rcases z with z | z | ⟨z, q⟩ | ⟨z, q⟩ <;> first | exact hn5 z | exact hn0 z.symm | exact hn1 z.symm | exact absurd q (by decide)))).symm rfl
        · refine aw_iconst (pc := 22) (v := 1) C dX4_isOfKind_22 rfl ?_
          exact aw_zret (pc := 23) C rfl rfl dX4_isOfKind_23 (b2i_t (by rw [show fl (σ.1 j) i 0 = nI 5 from hk]; exact (show asP (nI 5) a from Or.inr (Or.inl h19.symm)))).symm rfl
      · refine aw_iconst (pc := 22) (v := 1) C dX4_isOfKind_22 rfl ?_
        exact aw_zret (pc := 23) C rfl rfl dX4_isOfKind_23 (b2i_t (by rw [show fl (σ.1 j) i 0 = nI 5 from hk]; exact (show asP (nI 5) a from Or.inr (Or.inr (Or.inl ⟨h19.symm, by decide⟩))))).symm rfl
    · refine aw_iconst (pc := 22) (v := 1) C dX4_isOfKind_22 rfl ?_
      exact aw_zret (pc := 23) C rfl rfl dX4_isOfKind_23 (b2i_t (by rw [show fl (σ.1 j) i 0 = nI 5 from hk]; exact (show asP (nI 5) a from Or.inl h19))).symm rfl
  · refine aw_top C 6 (hk.trans (by decide)) ?_
    refine aw_istore_n (pc := 4) C [(2, .int 6), (0, .ref (29 + 16 * j + 2 * i)), (1, .int a)] dX4_isOfKind_4 (Nat.le_of_ble_eq_true rfl) rfl ?_
    refine aw_iconst (pc := 5) (v := 0) C dX4_isOfKind_5 rfl ?_
    refine aw_istore_n (pc := 6) C [(3, .int 0), (2, .int 6), (0, .ref (29 + 16 * j + 2 * i)), (1, .int a)] dX4_isOfKind_6 (Nat.le_of_ble_eq_true rfl) rfl ?_
    refine aw_iload_n (pc := 7) C 0 dX4_isOfKind_7 rfl ?_
    refine aw_bipush (pc := 8) (v := 6) C dX4_isOfKind_8 rfl ?_
    refine aw_icmp_gt (pc := 10) C 36 dX4_isOfKind_10 (by decide) (fun h10 => absurd h10 (by decide)) (fun h10 => ?_)
    refine aw_iload_n (pc := 13) C 1 dX4_isOfKind_13 rfl ?_
    refine aw_if_lt (pc := 14) C 36 dX4_isOfKind_14 (by decide) (fun h14 => absurd h14 (by decide)) (fun h14 => ?_)
    refine aw_iload_n (pc := 17) C 1 dX4_isOfKind_17 rfl ?_
    refine aw_iload_n (pc := 18) C 3 dX4_isOfKind_18 rfl ?_
    refine aw_icmp_ne (pc := 19) C 24 dX4_isOfKind_19 (by decide) (fun h19 => ?_) (fun h19 => ?_)
    · have hn6 := h19
      refine aw_getst (pc := 24) (i := 2) C rfl rfl (by decide) dX4_isOfKind_24 ?_
      refine aw_iload_n (pc := 27) C 1 dX4_isOfKind_27 rfl ?_
      refine aw_tab (pc := 28) (i := 2) (k := 6) C rfl dX4_isOfKind_28 rfl (by first | decide | omega) ?_
      refine aw_top C (2) (by decide) ?_
      refine aw_istore_n (pc := 29) C [(2, .int 2), (3, .int 0), (0, .ref (29 + 16 * j + 2 * i)), (1, .int a)] dX4_isOfKind_29 (Nat.le_of_ble_eq_true rfl) rfl ?_
      refine aw_iinc (pc := 30) C 1 1 [(3, .int 1), (2, .int 2), (0, .ref (29 + 16 * j + 2 * i)), (1, .int a)] dX4_isOfKind_30 rfl (by decide) (Nat.le_of_ble_eq_true rfl) rfl ?_
      refine aw_goto (pc := 33) C 7 dX4_isOfKind_33 (by decide) ?_
      refine aw_iload_n (pc := 7) C 0 dX4_isOfKind_7 rfl ?_
      refine aw_bipush (pc := 8) (v := 6) C dX4_isOfKind_8 rfl ?_
      refine aw_icmp_gt (pc := 10) C 36 dX4_isOfKind_10 (by decide) (fun h10 => absurd h10 (by decide)) (fun h10 => ?_)
      refine aw_iload_n (pc := 13) C 1 dX4_isOfKind_13 rfl ?_
      refine aw_if_lt (pc := 14) C 36 dX4_isOfKind_14 (by decide) (fun h14 => absurd h14 (by decide)) (fun h14 => ?_)
      refine aw_iload_n (pc := 17) C 1 dX4_isOfKind_17 rfl ?_
      refine aw_iload_n (pc := 18) C 3 dX4_isOfKind_18 rfl ?_
      refine aw_icmp_ne (pc := 19) C 24 dX4_isOfKind_19 (by decide) (fun h19 => ?_) (fun h19 => ?_)
      · have hn2 := h19
        refine aw_getst (pc := 24) (i := 2) C rfl rfl (by decide) dX4_isOfKind_24 ?_
        refine aw_iload_n (pc := 27) C 1 dX4_isOfKind_27 rfl ?_
        refine aw_tab (pc := 28) (i := 2) (k := 2) C rfl dX4_isOfKind_28 rfl (by first | decide | omega) ?_
        refine aw_top C (0) (by decide) ?_
        refine aw_istore_n (pc := 29) C [(2, .int 0), (3, .int 1), (0, .ref (29 + 16 * j + 2 * i)), (1, .int a)] dX4_isOfKind_29 (Nat.le_of_ble_eq_true rfl) rfl ?_
        refine aw_iinc (pc := 30) C 1 2 [(3, .int 2), (2, .int 0), (0, .ref (29 + 16 * j + 2 * i)), (1, .int a)] dX4_isOfKind_30 rfl (by decide) (Nat.le_of_ble_eq_true rfl) rfl ?_
        refine aw_goto (pc := 33) C 7 dX4_isOfKind_33 (by decide) ?_
        refine aw_iload_n (pc := 7) C 0 dX4_isOfKind_7 rfl ?_
        refine aw_bipush (pc := 8) (v := 6) C dX4_isOfKind_8 rfl ?_
        refine aw_icmp_gt (pc := 10) C 36 dX4_isOfKind_10 (by decide) (fun h10 => absurd h10 (by decide)) (fun h10 => ?_)
        refine aw_iload_n (pc := 13) C 1 dX4_isOfKind_13 rfl ?_
        refine aw_if_lt (pc := 14) C 36 dX4_isOfKind_14 (by decide) (fun h14 => absurd h14 (by decide)) (fun h14 => ?_)
        refine aw_iload_n (pc := 17) C 1 dX4_isOfKind_17 rfl ?_
        refine aw_iload_n (pc := 18) C 3 dX4_isOfKind_18 rfl ?_
        refine aw_icmp_ne (pc := 19) C 24 dX4_isOfKind_19 (by decide) (fun h19 => ?_) (fun h19 => ?_)
        · have hn0 := h19
          refine aw_getst (pc := 24) (i := 2) C rfl rfl (by decide) dX4_isOfKind_24 ?_
          refine aw_iload_n (pc := 27) C 1 dX4_isOfKind_27 rfl ?_
          refine aw_tab (pc := 28) (i := 2) (k := 0) C rfl dX4_isOfKind_28 rfl (by first | decide | omega) ?_
          refine aw_top C ((-1)) (by decide) ?_
          refine aw_istore_n (pc := 29) C [(2, .int ((-1))), (3, .int 2), (0, .ref (29 + 16 * j + 2 * i)), (1, .int a)] dX4_isOfKind_29 (Nat.le_of_ble_eq_true rfl) rfl ?_
          refine aw_iinc (pc := 30) C 1 3 [(3, .int 3), (2, .int ((-1))), (0, .ref (29 + 16 * j + 2 * i)), (1, .int a)] dX4_isOfKind_30 rfl (by decide) (Nat.le_of_ble_eq_true rfl) rfl ?_
          refine aw_goto (pc := 33) C 7 dX4_isOfKind_33 (by decide) ?_
          refine aw_iload_n (pc := 7) C 0 dX4_isOfKind_7 rfl ?_
          refine aw_bipush (pc := 8) (v := 6) C dX4_isOfKind_8 rfl ?_
          refine aw_icmp_gt (pc := 10) C 36 dX4_isOfKind_10 (by decide) (fun h10 => absurd h10 (by decide)) (fun h10 => ?_)
          refine aw_iload_n (pc := 13) C 1 dX4_isOfKind_13 rfl ?_
          refine aw_if_lt (pc := 14) C 36 dX4_isOfKind_14 (by decide) (fun h14 => ?_) (fun h14 => absurd h14 (by decide))
          refine aw_iconst (pc := 36) (v := 0) C dX4_isOfKind_36 rfl ?_
          exact aw_zret (pc := 37) C rfl rfl dX4_isOfKind_37 (b2i_f (by rw [show fl (σ.1 j) i 0 = nI 6 from hk]; exact (show ¬ asP (nI 6) a from fun z => by rcases z with z | z | ⟨z, q⟩ | ⟨z, q⟩ <;> first | exact hn6 z | exact hn0 z.symm | exact absurd q (by decide) | exact hn2 z.symm))).symm rfl
        · refine aw_iconst (pc := 22) (v := 1) C dX4_isOfKind_22 rfl ?_
          exact aw_zret (pc := 23) C rfl rfl dX4_isOfKind_23 (b2i_t (by rw [show fl (σ.1 j) i 0 = nI 6 from hk]; exact (show asP (nI 6) a from Or.inr (Or.inl h19.symm)))).symm rfl
      · refine aw_iconst (pc := 22) (v := 1) C dX4_isOfKind_22 rfl ?_
        exact aw_zret (pc := 23) C rfl rfl dX4_isOfKind_23 (b2i_t (by rw [show fl (σ.1 j) i 0 = nI 6 from hk]; exact (show asP (nI 6) a from Or.inr (Or.inr (Or.inr ⟨h19.symm, by decide⟩))))).symm rfl
    · refine aw_iconst (pc := 22) (v := 1) C dX4_isOfKind_22 rfl ?_
      exact aw_zret (pc := 23) C rfl rfl dX4_isOfKind_23 (b2i_t (by rw [show fl (σ.1 j) i 0 = nI 6 from hk]; exact (show asP (nI 6) a from Or.inl h19))).symm rfl
theorem c_X8_isStretch (σ : St) (n : Nat) (hn : σ.1 0 2 = nI n) (hz : n ≤ 6) (r y m : Int32) : AMet Y_X8_isStretch [.ref 0, .int r, .int y, .int m] σ (fz (some (.int (b2i (isR n r ∧ (0 ≤ y ∧ y ≤ 29) ∧ (0 ≤ m ∧ m ≤ 30 - y))))) (σ)) := by
  refine am_intro (by decide +kernel) (Nat.le_of_ble_eq_true rfl) (fun K C => ?_)
  refine aw_aload_n (pc := 0) C 0 dX8_isStretch_0 rfl ?_
  refine aw_iload_n (pc := 1) C 1 dX8_isStretch_1 rfl ?_
  refine aw_cVI (pc := 2) C (c_X8_isRunner _ n hn hz r ) lk_X8_96 sh0 rfl dX8_isStretch_2 (by decide) (Nat.le_of_ble_eq_true rfl) rfl rfl ?_
  refine aw_if_eqB (pc := 5) C 31 dX8_isStretch_5 (by decide) (fun h5 => ?_) (fun h5 => ?_)
  · refine aw_iconst (pc := 31) (v := 0) C dX8_isStretch_31 rfl ?_
    exact aw_zret (pc := 32) C rfl rfl dX8_isStretch_32 (b2i_f (fun z => h5 z.1)).symm rfl
  · refine aw_iload_n (pc := 8) C 2 dX8_isStretch_8 rfl ?_
    refine aw_cSI (pc := 9) C (c_X8_isYard _ y ) lk_X8_70 dX8_isStretch_9 (by decide) (Nat.le_of_ble_eq_true rfl) rfl rfl ?_
    refine aw_if_eqB (pc := 12) C 31 dX8_isStretch_12 (by decide) (fun h12 => ?_) (fun h12 => ?_)
    · refine aw_iconst (pc := 31) (v := 0) C dX8_isStretch_31 rfl ?_
      exact aw_zret (pc := 32) C rfl rfl dX8_isStretch_32 (b2i_f (fun z => h12 z.2.1)).symm rfl
    · refine aw_iload_n (pc := 15) C 3 dX8_isStretch_15 rfl ?_
      refine aw_iconst (pc := 16) (v := 0) C dX8_isStretch_16 rfl ?_
      refine aw_bipush (pc := 17) (v := 30) C dX8_isStretch_17 rfl ?_
      refine aw_iload_n (pc := 19) C 2 dX8_isStretch_19 rfl ?_
      refine aw_isub (pc := 20) C dX8_isStretch_20 ?_
      refine aw_cSI (pc := 21) C (c_X8_within _ m 0 (30 - y) ) lk_X8_74 dX8_isStretch_21 (by decide) (Nat.le_of_ble_eq_true rfl) rfl rfl ?_
      refine aw_if_eqB (pc := 24) C 31 dX8_isStretch_24 (by decide) (fun h24 => ?_) (fun h24 => ?_)
      · refine aw_iconst (pc := 31) (v := 0) C dX8_isStretch_31 rfl ?_
        exact aw_zret (pc := 32) C rfl rfl dX8_isStretch_32 (b2i_f (fun z => h24 z.2.2)).symm rfl
      · refine aw_iconst (pc := 27) (v := 1) C dX8_isStretch_27 rfl ?_
        refine aw_goto (pc := 28) C 32 dX8_isStretch_28 (by decide) ?_
        exact aw_zret (pc := 32) C rfl rfl dX8_isStretch_32 (b2i_t ⟨h5, h12, h24⟩).symm rfl
