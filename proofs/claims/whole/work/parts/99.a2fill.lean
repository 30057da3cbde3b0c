/-! Arrays.fill of one row that was made -/
theorem c_fillC (l : Launch) (g : GC) (a sz N : Nat) (f : Nat → Int32) (v : Int32) (hN : N < 1000) : Met l yJ7_fill_53178 (WTs Y_J7_fill_53178) (rmC 0 0 0) (va_Pc [.ref a, .int v] (fun U => U.heap.size = sz ∧ va_P g.1 vwCl [(a, .inl (g.2 0, N, .inl f))] U.heap ∧ KA g U ∧ va_D (fun _ => True) [(a, .inl (g.2 0, N, .inl f))])) (va_Qv (fun _ : Unit => True) (fun _ t => va_P g.1 vwCl [(a, .inl (g.2 0, N, .inl (filK f 0 v N)))] t.heap) (va_A [(a, .inl (g.2 0, N, .inl f))] sz)) 0 0 (va_A [(a, .inl (g.2 0, N, .inl f))] sz) := by
  refine Met.ofW (cc := cJ7_fill_53178) (maxL := 4) (ret := none) (by decide +kernel) rfl ?_
  intro p e s m args below meth c s₁ B hml hv
  obtain ⟨rfl, hsz, hP, hK, hD0⟩ := hv
  subst hsz
  have hx := B.exec
  have hb := B.bytes
  have hr := B.returns
  have hlocks := B.notSynchronized
  have hD := hD0.self (sz := s.heap.size)
  generalize va_A [(a, .inl (g.2 0, N, .inl f))] s.heap.size = A at hD ⊢
  have hS : va_S A s.heap s.heap [] := va_S.rf
  have hl := lv_entry [Value.ref a, Value.int v] (n := 4) (Nat.le_of_ble_eq_true rfl)
  rw [lg_entry_eq]
  generalize (lg_sl [Value.ref a, Value.int v] ++ List.replicate (4 - (lg_sl [Value.ref a, Value.int v]).length) Slot.unset).toArray = ls at hl ⊢
  have hl : lv_has ls 4 [(0, .ref a), (1, .int v)] := hl
  refine lv_iconst (v := 0) hx hb dJ7_fill_53178_0 rfl ?_
  refine lv_istore_n (lv' := [(2, .int 0), (0, .ref a), (1, .int v)]) hx hb dJ7_fill_53178_1 rfl hl (by decide) rfl (fun ls hl => ?_)
  refine lv_aload_n hx hb dJ7_fill_53178_2 rfl (lv_at hl 1 rfl) ?_
  refine va_alen (v := nI N) hx hb hK.1 hP 0 0 rfl rfl rfl dJ7_fill_53178_3 ?_
  refine lv_istore_n (lv' := [(3, .int (nI N)), (2, .int 0), (0, .ref a), (1, .int v)]) hx hb dJ7_fill_53178_4 rfl hl (by decide) rfl (fun ls hl => ?_)
  have key : ∀ k, k ≤ N → ∀ (H : Heap) (locs : List Loc) (ls : Array Slot), va_P g.1 vwCl [(a, .inl (g.2 0, N, .inl (filK f 0 v k)))] H → va_D A [(a, (.inl (g.2 0, N, .inl (filK f 0 v k)) : va_E))] → va_S A s.heap H locs → lv_has ls 4 [(3, .int (nI N)), (2, .int (nI k)), (0, .ref a), (1, .int v)] → W p l e (headSpec (WTs Y_J7_fill_53178) (rmC 0 0 0)).room s m [Value.ref a, Value.int v].toArray below meth c H locs 0 0 (MQ below (va_Qv (fun _ : Unit => True) (fun _ t => va_P g.1 vwCl [(a, .inl (g.2 0, N, .inl (filK f 0 v N)))] t.heap) A) [Value.ref a, Value.int v].toArray s 0 0 A) (F0 m 5 ls []) := by
    refine loop_up (P := fun k => ∀ (H : Heap) (locs : List Loc) (ls : Array Slot), va_P g.1 vwCl [(a, .inl (g.2 0, N, .inl (filK f 0 v k)))] H → va_D A [(a, (.inl (g.2 0, N, .inl (filK f 0 v k)) : va_E))] → va_S A s.heap H locs → lv_has ls 4 [(3, .int (nI N)), (2, .int (nI k)), (0, .ref a), (1, .int v)] → W p l e (headSpec (WTs Y_J7_fill_53178) (rmC 0 0 0)).room s m [Value.ref a, Value.int v].toArray below meth c H locs 0 0 (MQ below (va_Qv (fun _ : Unit => True) (fun _ t => va_P g.1 vwCl [(a, .inl (g.2 0, N, .inl (filK f 0 v N)))] t.heap) A) [Value.ref a, Value.int v].toArray s 0 0 A) (F0 m 5 ls [])) N ?_ ?_
    · intro H locs ls hP hD hS hl
      refine lv_iload_n hx hb dJ7_fill_53178_5 rfl (lv_at hl 1 rfl) ?_
      refine lv_iload_n hx hb dJ7_fill_53178_6 rfl (lv_at hl 0 rfl) ?_
      refine lv_icmp_ge (tgt := 20) hx hb dJ7_fill_53178_7 (by decide) (fun _ => ?_) (fun z => absurd (Int32.le_refl _) z)
      exact W.vret hx hb hr (fun t ht hW => ⟨⟨(), rfl, trivial, by show va_P _ _ _ t.heap; rw [ht]; exact hP⟩, hS.F ht⟩) hS.2.2 dJ7_fill_53178_20 hlocks
    · intro k hk ih H locs ls hP hD hS hl
      refine lv_iload_n hx hb dJ7_fill_53178_5 rfl (lv_at hl 1 rfl) ?_
      refine lv_iload_n hx hb dJ7_fill_53178_6 rfl (lv_at hl 0 rfl) ?_
      refine lv_icmp_ge (tgt := 20) hx hb dJ7_fill_53178_7 (by decide) (fun z => absurd ((nI_leI (by omega) (by omega)).mp z) (by omega)) (fun _ => ?_)
      refine lv_aload_n hx hb dJ7_fill_53178_10 rfl (lv_at hl 2 rfl) ?_
      refine lv_iload_n hx hb dJ7_fill_53178_11 rfl (lv_at hl 1 rfl) ?_
      refine lv_iload_n hx hb dJ7_fill_53178_12 rfl (lv_at hl 3 rfl) ?_
      refine va_iast hx hb hK.1 hP hD hS 0 0 rfl rfl (vp_in_nI hk (by omega)) dJ7_fill_53178_13 (fun H1 locs1 hP1 hD1 hS1 => ?_)
      have e : upd (filK f 0 v k) (nI k).toNatClampNeg v = filK f 0 v (k + 1) := by
        rw [nI_clamp (by omega), ← filK_s, Nat.zero_add]
      rw [e] at hP1 hD1
      refine lv_iinc (v := nI (k + 1)) (lv' := [(2, .int (nI (k + 1))), (3, .int (nI N)), (0, .ref a), (1, .int v)]) hx hb dJ7_fill_53178_14 hl (k := 1) rfl (nI_1 k) (by decide) rfl (fun ls hl => ?_)
      refine lv_goto (tgt := 5) hx hb dJ7_fill_53178_17 (by decide) ?_
      exact ih H1 locs1 ls hP1 hD1 hS1 (lv_sub hl [1, 0, 2, 3] rfl)
  exact key 0 (Nat.zero_le _) s.heap [] ls (by rw [filK_0]; exact hP) (by rw [filK_0]; exact hD) hS hl
theorem pc_blindF {g : GC} {a sz N : Nat} {v : Int32} {f : Nat → Int32} : FrameBlind (va_Pc [.ref a, .int v] (fun U => U.heap.size = sz ∧ va_P g.1 vwCl [(a, .inl (g.2 0, N, .inl f))] U.heap ∧ KA g U ∧ va_D (fun _ => True) [(a, .inl (g.2 0, N, .inl f))])) := fun b U h mk q => by
  obtain ⟨q0, q1, qP, qK, qD⟩ := q
  exact ⟨q0, q1, qP, KA.moved (u := U) (U := U.calling h mk b) (Vm.Alike.refl U.vm) qK, qD⟩
theorem cw_fill {Y : MI} {K : KC} {R : Room} {Q : State → Prop} {ci : Nat} {fs : List Value} {tl : va_W} {pc : Nat} {lv : List (Nat × Value)} {st : List Value} {k n : Nat} (C : CCx Y K) {idx a N : Nat} {f : Nat → Int32} {v : Int32} (tl' : va_W) (i : Nat) (hL : LnkS Y.1.cls idx Y_J7_fill_53178 2) (hlv : 1 ≤ R.frames ∧ 40 ≤ R.locals) (hi : tl[i]? = some (a, .inl (K.g.2 0, N, .inl f))) (hN : N < 1000) (hroom : (st.map fun v => v.category).sum ≤ 8) (htl : tl.set i (a, .inl (K.g.2 0, N, .inl (filK f 0 v N))) = tl') (hk : k ≤ R.cells ∧ n ≤ R.slots) (hd : decode Y.2.1 pc = .ok (.invokestatic idx, 3)) (kk : CW Y K R Q ci fs tl' (pc + 3) lv st k n) : CW Y K R Q ci fs tl pc lv (.int v :: .ref a :: st) k n := by
  subst htl
  obtain ⟨hC, w1, w2⟩ := hL
  intro H locs ls hP hD hS hl
  have hKA := C.2.2.2.2.2.2.2.1
  have hA := C.2.2.2.2.2.2.2.2.2
  have hi' : ((K.h, .inr (ci, fs)) :: tl)[i + 1]? = some (a, .inl (K.g.2 0, N, .inl f)) := by rw [List.getElem?_cons_succ]; exact hi
  have hPc : va_P K.g.1 vwCl [(a, .inl (K.g.2 0, N, .inl f))] H := fun j q hj => by
    cases j with
    | zero => cases hj; exact hP _ _ hi'
    | succ j => simp at hj
  have hDc : va_D (fun _ => True) [(a, (.inl (K.g.2 0, N, .inl f) : va_E))] := ⟨fun i j p q hp hq _ => by
    cases i with
    | zero => cases j with
      | zero => rfl
      | succ j => simp at hq
    | succ i => simp at hp, fun _ _ _ => trivial⟩
  have hFc : ∀ q, va_A [(a, (.inl (K.g.2 0, N, .inl f) : va_E))] H.size q → K.A q := by
    intro q h
    rcases h with ⟨j, e, h⟩ | h
    · cases j with
      | zero => cases h; exact hD.2 _ _ hi'
      | succ j => simp at h
    · exact hA q (Nat.le_trans hS.1 h)
  refine va_callv (va_runS (As := [.ref a, .int v]) (rest := st) (Ts := WTs Y) ⟨C.1, C.2.1, C.2.2.2.1, C.2.2.2.2.1, C.2.2.2.2.2.1⟩ (c_fillC K.l K.g a H.size N f v hN) (va_cwS 2 C.2.2.2.2.2.1 (goodIn_WT (fun w hw => ?_)) rfl rfl rfl hC.2.2.1 ⟨hlv.1, Nat.le_trans (Nat.le_of_ble_eq_true rfl : _ ≤ 40) hlv.2⟩) ⟨pc_blindF, fun U hU hW => ⟨rfl, by rw [hU], by rw [hU]; exact hPc, KA.moved hW.alike hKA, hDc⟩⟩ rfl rfl hl.1 rfl (lv_room hroom) hd hk) hS (fun q _ h => hFc q h) hFc (fun a' t H1 locs1 ht hvm _ hB hz1 hk1 hS1 => ?_)
  · rcases List.mem_append.mp hw with h | h
    · simp only [List.mem_cons, List.not_mem_nil, or_false] at h
      rcases h with rfl | rfl | rfl
      · exact w1
      · exact w2
      · exact hC.2.1
    · exact WTs_sub hC.1 w h
  · rw [ht] at hB
    have hset : va_P K.g.1 vwCl (((K.h, .inr (ci, fs)) :: tl).set (i + 1) (a, .inl (K.g.2 0, N, .inl (filK f 0 v N)))) H1 := by
      intro j q hj
      by_cases e : j = i + 1
      · subst e
        rw [List.getElem?_set_self (List.getElem?_eq_some_iff.mp hi').1] at hj
        cases hj
        exact hB 0 _ rfl
      · rw [List.getElem?_set_ne (fun z => e z.symm)] at hj
        have hl0 := (hP j q hj).lt
        refine (hP j q hj).kept (hk1 q.1 hl0 (fun z => ?_))
        rcases z with ⟨j2, e2, z⟩ | z
        · cases j2 with
          | zero =>
            have hq : q.1 = a := (congrArg Prod.fst (Option.some.inj z)).symm
            exact e (hD.1 j (i + 1) q _ hj hi' hq)
          | succ j2 => simp at z
        · omega
    exact kk H1 locs1 ls hset (hD.set hi') hS1 hl
