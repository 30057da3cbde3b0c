/-! THE LAW'S START -/
theorem li_L_9 : LnkI RL 9 Y_X8_init := ⟨(WT_mem (t1_in (List.mem_of_getElem? (i := 23) rfl)) rfl), (WT_mem (t1_in (List.mem_of_getElem? (i := 1) rfl)) rfl), (WT_mem (t1_in (List.mem_of_getElem? (i := 21) rfl)) rfl), (WT_mem (t1_in (List.mem_of_getElem? (i := 22) rfl)) rfl), rfl, rfl, ⟨by decide +kernel, by decide +kernel, by decide +kernel⟩, by decide⟩
theorem li_L_12 : LnkI RL 12 Y_X9_init := ⟨(WT_mem (t4_in (List.mem_of_getElem? (i := 159) rfl)) rfl), (WT_mem (t1_in (List.mem_of_getElem? (i := 11) rfl)) rfl), (WT_mem (t4_in (List.mem_of_getElem? (i := 157) rfl)) rfl), (WT_mem (t4_in (List.mem_of_getElem? (i := 158) rfl)) rfl), rfl, rfl, ⟨by decide +kernel, by decide +kernel, by decide +kernel⟩, by decide⟩
section LST
variable {p : Program} {l : Launch} {e : Env} {s : State} {m : MethodId} {below : List Frame} {meth : Method} {c : Code} {b L : Nat} {xs : Nat → Int32} {H : Heap} {locs : List Loc} {cells slots : Nat} {Q : State → Prop} {pc : Nat} {ls : Array Slot} {st : List Value} {g : GC} {A : Nat → Prop}
/-- a constructor's call from the law -/
theorem ls_callI {S : Type} (h : lw_At p s m meth c b L xs) (hKA : KA g s) {Z : MI} {idx q cj mk mn : Nat} {gs : List Value} {w : WF S} {ws : va_W} (hM : CMet Z cj gs w mk mn) (hL : LnkI RL idx Z) (hlv : Z.lvl ≤ 1000) (hroom : (st.map fun v => v.category).sum ≤ 8) (hk : cells + mk ≤ room_1.cells ∧ slots + mn ≤ room_1.slots) (hP : va_P g.1 vwCl (ws ++ [(q, .inr (cj, gs))]) H) (hD : va_D A (ws ++ [(q, .inr (cj, gs))])) (hS : va_S A s.heap H locs) (hA : ∀ q, s.heap.size ≤ q → A q) (hsz : ls.size = 4) (hd : decode code pc = .ok (.invokespecial idx, 3))
    (kk : ∀ (a : S) (H1 : Heap) (locs1 : List Loc), va_P g.1 vwCl (ws ++ w g.2 q a) H1 → va_D A (ws ++ w g.2 q a) → va_S A s.heap H1 locs1 → W p l e room_1 s m #[Value.ref b] below meth c H1 locs1 (cells + mk) (slots + mn) Q (F0 m (pc + 3) ls st)) : W p l e room_1 s m #[Value.ref b] below meth c H locs cells slots Q (F0 m pc ls (.ref q :: st)) := by
  obtain ⟨w1, w2, w3, w4, i1, i2, i3, i4⟩ := hL
  have hts := h.2.2.2.2.2.1
  have hlast : (ws ++ [(q, (.inr (cj, gs) : va_E))])[ws.length]? = some (q, .inr (cj, gs)) := by
    rw [List.getElem?_append_right (Nat.le_refl _), Nat.sub_self]; rfl
  have hPc : va_P g.1 vwCl [(q, .inr (cj, gs))] H := fun j x hj => by
    cases j with
    | zero => cases hj; exact hP _ _ hlast
    | succ j => simp at hj
  have hDc : va_D (fun _ => True) [(q, (.inr (cj, gs) : va_E))] := ⟨fun i j x y hp hq _ => by
    cases i with
    | zero => cases j with
      | zero => rfl
      | succ j => simp at hq
    | succ i => simp at hp, fun _ _ _ => trivial⟩
  have hFc : ∀ x, va_A [(q, (.inr (cj, gs) : va_E))] H.size x → A x := by
    intro x h
    rcases h with ⟨j, e, h⟩ | h
    · cases j with
      | zero => cases h; exact hD.2 _ _ hlast
      | succ j => simp at h
    · exact hA x (Nat.le_trans hS.1 h)
  refine va_callv (va_runI (As := []) (rest := st) (Ts := lw_tbl) ⟨h.1, h.2.1, h.2.2.2.1, h.2.2.2.2.1, hts⟩ (hM l g q H.size) (cwI (bytes := Z.2.1) (maxL := Z.2.2.1) (ws' := WTb) 0 hts (goodIn_L (fun x hx => (List.mem_cons.mp hx).elim (fun e => by rw [e, i2]; exact w1) id)) (by rw [WTs, i2]) rfl rfl (hts _ (L_of w2)) (hts _ (L_of w3)) (hts _ (L_of w4)) i1 i3 ⟨by show Z.lvl + 1 ≤ 2048; omega, by show 8 + (Z.2.2.1 + 11) + 40 * Z.lvl ≤ 84000; omega⟩) ⟨pc_blindC, fun U hU hW => ⟨rfl, by rw [hU], by rw [hU]; exact hPc, KA.moved hW.alike hKA, hDc⟩⟩ rfl rfl hsz rfl (lv_room hroom) hd hk) hS (fun q _ h => hFc q h) hFc (fun a t H1 locs1 ht hvm _ hB hz1 hk1 hS1 => ?_)
  obtain ⟨hP1, hD1⟩ := hB
  rw [ht] at hP1
  obtain ⟨hP2, hD2⟩ := join_last (ws := ws) (x := (q, .inr (cj, gs))) hP hD hk1 hFc hP1 hD1
  exact kk a H1 locs1 hP2 hD2 hS1
end LST
set_option maxRecDepth 100000 in
set_option maxHeartbeats 4000000 in
theorem whole_start (l : Launch) {p : Program} {e : Env} {s : State} {m : MethodId} {below : List Frame} {meth : Method} {c : Code} {b L : Nat} {xs : Nat → Int32} (hbd : L ≤ 384) (h : lw_At p s m meth c b L xs) : W p l e room_1 s m #[Value.ref b] below meth c s.heap [] 0 0 (lw_Z below #[Value.ref b] s) (entryFrame m ([Value.ref b] : List Value).toArray 4) := by
  have hts := h.2.2.2.2.2.1
  have hg := h.2.2.2.2.2.2.2.2.2
  obtain ⟨g, hKA⟩ := ka_start hts
  obtain ⟨ad, hGS⟩ := gs_start (A := fun q => s.heap.size ≤ q) hts hg (fun a ha => Nat.not_le.mpr ha)
  have hA : ∀ q, s.heap.size ≤ q → (fun q => s.heap.size ≤ q) q := fun q hq => hq
  rw [lg_entry_eq]
  have hl := lv_entry [Value.ref b] (n := 4) (Nat.le_of_ble_eq_true rfl)
  generalize (((lg_sl [Value.ref b]) ++ List.replicate (4 - (lg_sl [Value.ref b]).length) Slot.unset).toArray) = ls at hl ⊢
  refine va_new (A := fun q => s.heap.size ≤ q) (D := g.1) (cl := vwCl) (tys := tysC g) (ws := []) (H0 := s.heap) (Ts := lw_tbl) (ci := 8) (N := 11) (C := RX8) (T := TX8) (own := RL) h.1 h.2.1 hts (fun w hw => L_of (ciX8 w hw)) tyX8 tyX8_ok h.2.2.2.2.1 (hts _ (L_of (WT_mem (t1_in (List.mem_of_getElem? (i := 19) rfl)) rfl))) (hts _ (L_of (WT_mem (t1_in (List.mem_of_getElem? (i := 20) rfl)) rfl))) (hts _ (L_of (WT_mem (t1_in (List.mem_of_getElem? (i := 1) rfl)) rfl))) hKA.1 (fun k q hq => by simp at hq) ⟨fun i j x y hx => by simp at hx, fun k q hq => by simp at hq⟩ va_S.rf hA rfl (fs := [.null, .null, .null, .null, .null, .null, .null, .null, .null, .null, .int 0]) (by decide) (Nat.le_of_ble_eq_true rfl) (Nat.le_of_ble_eq_true rfl) dL_law_0 (fun x H1 hP1 hD1 hS1 => ?_)
  refine lv_dup h.1 h.2.1 dL_law_3 rfl ?_
  refine ls_callI (ws := []) h hKA c_X8_init li_L_9 (by decide) (Nat.le_of_ble_eq_true rfl) ⟨Nat.le_of_ble_eq_true rfl, Nat.le_of_ble_eq_true rfl⟩ hP1 hD1 hS1 hA hl.1 dL_law_4 (fun a H2 locs2 hP2 hD2 hS2 => ?_)
  refine lv_astore_n (i := 1) h.1 h.2.1 dL_law_7 rfl hl (by decide) rfl (fun ls3 hl3 => ?_)
  refine va_new (A := fun q => s.heap.size ≤ q) (D := g.1) (cl := vwCl) (tys := tysC g) (ws := wX8 g.2 x a) (H0 := s.heap) (Ts := lw_tbl) (ci := 9) (N := 19) (C := RX9) (T := TX9) (own := RL) h.1 h.2.1 hts (fun w hw => L_of (ciX9 w hw)) tyX9 tyX9_ok h.2.2.2.2.1 (hts _ (L_of (WT_mem (t4_in (List.mem_of_getElem? (i := 155) rfl)) rfl))) (hts _ (L_of (WT_mem (t4_in (List.mem_of_getElem? (i := 156) rfl)) rfl))) (hts _ (L_of (WT_mem (t1_in (List.mem_of_getElem? (i := 11) rfl)) rfl))) hKA.1 hP2 hD2 hS2 hA rfl (fs := [.null, .null, .null, .int 0, .null, .null, .null, .null, .null, .null, .int 0, .int 0, .int 0, .int 0, .int 0, .int 0, .null, .null, .null]) (by decide) (Nat.le_of_ble_eq_true rfl) (Nat.le_of_ble_eq_true rfl) dL_law_8 (fun y H4 hP4 hD4 hS4 => ?_)
  refine lv_dup h.1 h.2.1 dL_law_11 rfl ?_
  refine ls_callI (ws := wX8 g.2 x a) h hKA c_X9_init li_L_12 (by decide) (Nat.le_of_ble_eq_true rfl) ⟨Nat.le_of_ble_eq_true rfl, Nat.le_of_ble_eq_true rfl⟩ hP4 hD4 hS4 hA hl3.1 dL_law_12 (fun a9 H5 locs5 hP5 hD5 hS5 => ?_)
  refine lv_astore_n (i := 2) h.1 h.2.1 dL_law_15 rfl hl3 (by decide) rfl (fun ls6 hl6 => ?_)
  refine lv_iconst (v := nI 0) h.1 h.2.1 dL_law_16 (by decide) ?_
  refine lv_istore_n (i := 3) h.1 h.2.1 dL_law_17 rfl hl6 (by decide) rfl (fun ls7 hl7 => ?_)
  have hn := new0 (D := g.1) (ad := ad) hD5
  have C : LCx (p, l, e, s, m, below, meth, c, b, L, xs, geo0 g.1 g.2 ad x a y a9) := ⟨h, hbd, hGS.gk hKA.1 (inj0 hD5) (fun c hc => if_neg (by omega)) (fun q hq => by obtain ⟨c, hc, e⟩ := hq; rw [e]; exact hn c hc), hn⟩
  refine va_forget (fun q hq => hS5.2.2 q hq) ?_
  refine W.widen (k := 600000) (n := 7302250) (Nat.le_of_ble_eq_true rfl) (Nat.le_of_ble_eq_true rfl) ?_
  exact lw_loop C L 0 s0 rel0 (by omega) (by show L ≤ 0 + L; omega) H5 [] ls7 (pic0 hP5) ⟨hS5.1, fun q h1 h2 => hS5.2.1 q h1 (Nat.not_le.mpr h1), fun q hq => absurd hq List.not_mem_nil⟩ (lv_sub hl7 [0, 3, 2, 1] rfl)
