/-! THE LAW'S OWN WALK over the world -/
abbrev LK : Type := Program × Launch × Env × State × MethodId × List Frame × Method × Code × Nat × Nat × (Nat → Int32) × Geo
abbrev LK.p (K : LK) : Program := K.1
abbrev LK.l (K : LK) : Launch := K.2.1
abbrev LK.e (K : LK) : Env := K.2.2.1
abbrev LK.s (K : LK) : State := K.2.2.2.1
abbrev LK.m (K : LK) : MethodId := K.2.2.2.2.1
abbrev LK.b (K : LK) : List Frame := K.2.2.2.2.2.1
abbrev LK.me (K : LK) : Method := K.2.2.2.2.2.2.1
abbrev LK.c (K : LK) : Code := K.2.2.2.2.2.2.2.1
abbrev LK.x (K : LK) : Nat := K.2.2.2.2.2.2.2.2.1
abbrev LK.L (K : LK) : Nat := K.2.2.2.2.2.2.2.2.2.1
abbrev LK.xs (K : LK) : Nat → Int32 := K.2.2.2.2.2.2.2.2.2.2.1
abbrev LK.g (K : LK) : Geo := K.2.2.2.2.2.2.2.2.2.2.2
def LCx (K : LK) : Prop := lw_At K.p K.s K.m K.me K.c K.x K.L K.xs ∧ K.L ≤ 384 ∧ GK K.g K.s ∧ ∀ c, c < 86 → K.s.heap.size ≤ K.g.2.1 c
def LW (K : LK) (σ : St) (pc : Nat) (lv : List (Nat × Value)) (st : List Value) : Prop :=
  ∀ (H : Heap) (locs : List Loc) (ls : Array Slot), Pic K.g σ H → va_S (Aof K.g) K.s.heap H locs → lv_has ls 4 lv → W K.p K.l K.e room_1 K.s K.m #[.ref K.x] K.b K.me K.c H locs 600000 7302250 (lw_Z K.b #[.ref K.x] K.s) (F0 K.m pc ls st)
/-- the locals: the script, the class's object, the reference, the place -/
abbrev lvL (K : LK) (i : Nat) : List (Nat × Value) := [(3, .int (nI i)), (0, .ref K.x), (1, .ref (K.g.2.1 0)), (2, .ref (K.g.2.1 73))]
section LWR
variable {K : LK} {σ : St} {pc : Nat} {lv : List (Nat × Value)} {st : List Value}
theorem LCx.off (C : LCx K) : ¬ Aof K.g K.x := fun z => by
  obtain ⟨c, hc, e⟩ := z
  have h1 := C.2.2.2 c hc
  have h2 : K.x < K.s.heap.size := C.1.2.2.2.2.2.2.2.1
  omega
theorem lw_aload (C : LCx K) (j : Nat) {i : Fin 4} {x : Nat} (hd : decode code pc = .ok (.aload_n i, 1)) (hk : lv[j]? = some ((i : Nat), .ref x)) (kk : LW K σ (pc + 1) lv (.ref x :: st)) : LW K σ pc lv st := fun H locs ls hP hS hl => lv_aload_n C.1.1 C.1.2.1 hd rfl (lv_at hl j hk) (kk H locs ls hP hS hl)
theorem lw_iload (C : LCx K) (j : Nat) {i : Fin 4} {x : Int32} (hd : decode code pc = .ok (.iload_n i, 1)) (hk : lv[j]? = some ((i : Nat), .int x)) (kk : LW K σ (pc + 1) lv (.int x :: st)) : LW K σ pc lv st := fun H locs ls hP hS hl => lv_iload_n C.1.1 C.1.2.1 hd rfl (lv_at hl j hk) (kk H locs ls hP hS hl)
/-- script[i + j] -/
theorem lw_arg (C : LCx K) {i : Nat} (j : Nat) {z : Int} (hz : Int32.ofInt z = nI j) (hi : i + j < K.L) (d0 : decode code pc = .ok (.aload_n 0, 1)) (d1 : decode code (pc + 1) = .ok (.iload_n 3, 1)) (d2 : decode code (pc + 1 + 1) = .ok (.iconst z, 1)) (d3 : decode code (pc + 1 + 1 + 1) = .ok (.iadd, 1)) (d4 : decode code (pc + 1 + 1 + 1 + 1) = .ok (.iaload, 1)) (kk : LW K σ (pc + 1 + 1 + 1 + 1 + 1) (lvL K i) (.int (K.xs (i + j)) :: st)) : LW K σ pc (lvL K i) st := by
  have hL := C.2.1
  intro H locs ls hP hS hl
  refine lv_aload_n C.1.1 C.1.2.1 d0 rfl (lv_at hl 1 rfl) ?_
  refine lv_iload_n C.1.1 C.1.2.1 d1 rfl (lv_at hl 0 rfl) ?_
  refine lv_iconst (v := nI j) C.1.1 C.1.2.1 d2 hz ?_
  refine lv_iadd C.1.1 C.1.2.1 d3 ?_
  rw [nI_add]
  refine va_sld C.1.1 C.1.2.1 C.1.2.2.2.2.2.2.1 C.1.2.2.2.2.2.2.2.1 C.off hS (vp_in_nI hi (by omega)) d4 ?_
  rw [nI_clamp (by omega)]
  exact kk H locs ls hP hS hl
theorem goodIn_L {ws : List Cond} (h : ∀ w ∈ ws, w ∈ WTb) : GoodIn lw_tbl ws := fun w hw => ⟨(List.mem_filter.mp (h w hw)).1, good_of_word (List.mem_filter.mp (h w hw)).2⟩
theorem cv_ints (a : Nat → Nat) (As : List Int32) : (As.map Value.int).map (cv a) = As.map Value.int := by
  rw [List.map_map]
  rfl
theorem lw_call (C : LCx K) {Z : MI} {idx n b ci : Nat} {sl : List (Nat ⊕ (Nat × Nat))} (As : List Int32) {rest : List Value} {Qz : RZ} (hM : AMet Z (.ref b :: As.map Value.int) σ Qz) (hL : LnkV RL idx Z n) (hb : SH[b]? = some (.inl (ci, sl))) (hc : (vwCl[ci]?).map (fun q => q.1) = some Z.1.cls) (hlv : Z.lvl ≤ 1000) (hn : As.length = n) (hroom : (rest.map fun v => v.category).sum ≤ 8) (hrr : rest.map (cv K.g.2.1) = rest) (hd : decode code pc = .ok (.invokevirtual idx, 3)) {stk : List Value} (hst : stk = (As.map Value.int).reverse ++ .ref (K.g.2.1 b) :: rest) (kk : ∀ v σ', Qz v σ' → LW K σ' (pc + 3) lv ((v.map (cv K.g.2.1)).toList ++ rest)) : LW K σ pc lv stk := by
  subst hst
  obtain ⟨hC, w1, w2, w3⟩ := hL
  have hG := C.2.2.1
  obtain ⟨q, hq, hq2⟩ : ∃ q, vwCl[ci]? = some q ∧ q.1 = Z.1.cls := by
    cases h : vwCl[ci]? with
    | none => rw [h] at hc; cases hc
    | some q => rw [h] at hc; exact ⟨q, rfl, Option.some.inj hc⟩
  have hlk := hC.2.2.2
  intro H locs ls hP hS hl T hT X
  have hrun : va_Run K.p K.l K.e room_1 K.s K.m #[.ref K.x] K.b K.me K.c H locs 600000 7302250 0 0 (F0 K.m pc ls ((As.map Value.int).reverse ++ .ref (K.g.2.1 b) :: rest)) rest (QcOf K.g Qz (Value.ref (K.g.2.1 b) :: As.map Value.int).toArray) (Aof K.g) := by
    refine va_runV (Ts := lw_tbl) (C := Z.1.cls) (As := As.map Value.int) (b := K.g.2.1 b) (rest := rest) ⟨C.1.1, C.1.2.1, C.1.2.2.2.1, C.1.2.2.2.2.1, C.1.2.2.2.2.2.1⟩ (hM K.l K.g) (cwV n C.1.2.2.2.2.2.1 (goodIn_L (fun w hw => ?_)) rfl rfl rfl ⟨rfl, hC.2.2.1⟩ ⟨by show Z.lvl + 1 ≤ 2048; omega, by show 8 + (Z.2.2.1 + 11) + 40 * Z.lvl ≤ 84000; omega⟩) ⟨pre_blind, ?_, fun U hU hW => ⟨by rw [List.map_cons, cv_ints]; rfl, by rw [hU]; exact hP, hG.moved hS hU hW⟩⟩ rfl (by rw [List.length_map]; exact hn) hl.1 rfl (lv_room hroom) hd ⟨Nat.le_refl _, Nat.le_refl _⟩
    · rcases mem4 hw with rfl | rfl | rfl | rfl | h
      · exact w1
      · exact w2
      · exact w3
      · exact hC.2.1
      · exact WTs_sub hC.1 w h
    · have := va_recv hG.1 (hP.one hb) (ci := ci) (q0 := 0) hq rfl
      rw [hq2] at this
      exact this
  obtain ⟨w, st₀, t, T', Lc, h0, X', hL', e1, e2, ⟨v, σ', hqz, hv, hP', hF⟩, go⟩ := hrun T hT X
  cases Outcome.returned.inj hv
  rw [va_F, h0] at hF
  have hS' : va_S (Aof K.g) K.s.heap t.heap (locs ++ Lc) := ⟨Nat.le_trans hS.1 hF.1, fun q g1 g2 => by rw [hF.2 q (Nat.lt_of_lt_of_le g1 hS.1) g2]; exact hS.2.1 q g1 g2, fun q hq => by
    rcases List.mem_append.mp hq with h | h
    · exact hS.2.2 q h
    · exact hL' q h⟩
  obtain ⟨t2, a1, b1⟩ := kk v σ' hqz t.heap (locs ++ Lc) ls hP' hS' hl T' e1 X'
  exact ⟨t2, go t2 a1, b1⟩
/-- both answers are the same int -/
theorem lw_eqI (C : LCx K) {x : Int32} {off : Int} (tgt : Nat) (hd : decode code pc = .ok (.if_icmp .eq off, 3)) (ht : (pc : Int) + off = (tgt : Int)) (kk : LW K σ tgt lv st) : LW K σ pc lv (.int x :: .int x :: st) := fun H locs ls hP hS hl => lv_icmp_eq C.1.1 C.1.2.1 hd ht (fun _ => kk H locs ls hP hS hl) (fun z => absurd rfl z)
theorem lw_eqL (C : LCx K) {x : Int64} {off : Int} (tgt : Nat) (d0 : decode code pc = .ok (.lcmp, 1)) (hd : decode code (pc + 1) = .ok (.ifCond .eq off, 3)) (ht : ((pc + 1 : Nat) : Int) + off = (tgt : Int)) (kk : LW K σ tgt lv st) : LW K σ pc lv (.long x :: .long x :: st) := by
  intro H locs ls hP hS hl
  refine W.lcmp C.1.1 C.1.2.1 d0 ?_
  exact lv_if_eq C.1.1 C.1.2.1 hd ht (fun _ => kk H locs ls hP hS hl) (fun z => absurd ((lg_cmp_eq x x).mpr rfl) z)
end LWR
