/-! rows that touch objects, static rows, texts; calls -/
/-- a field's link: class own's pool number idx is field k of class ci -/
def FL (own : String) (idx ci k : Nat) : Prop := ∃ q : vw_C, vwCl[ci]? = some q ∧ k < q.2.2 ∧ Cond.fieldLink own idx (q.2.1 k).1 (q.2.1 k).2.1 (q.2.1 k).2.2.1 ∈ WTb
def FP (own : String) (idx ci k : Nat) (ty : FieldType) : Prop := ∃ q : vw_C, vwCl[ci]? = some q ∧ k < q.2.2 ∧ Cond.fieldLink own idx (q.2.1 k).1 (q.2.1 k).2.1 (q.2.1 k).2.2.1 ∈ WTb ∧ (q.2.1 k).2.2.2 = false ∧ parseFieldDescriptor (q.2.1 k).2.2.1 = some ty
theorem cls_ty {ci : Nat} {q : vw_C} (h : vwCl[ci]? = some q) : ∃ ty0 : Nat → FieldType, (∀ k, k < q.2.2 → parseFieldDescriptor (q.2.1 k).2.2.1 = some (ty0 k)) ∧ ∀ a, a < q.2.2 → ∀ b, b < q.2.2 → a ≠ b → (q.2.1 a).2.1 ≠ (q.2.1 b).2.1 := by
  match ci, h with
  | 0, h => cases h; exact ⟨tyX0, tyX0_ok, nmX0⟩
  | 1, h => cases h; exact ⟨tyX1, tyX1_ok, nmX1⟩
  | 2, h => cases h; exact ⟨tyX2, tyX2_ok, nmX2⟩
  | 3, h => cases h; exact ⟨tyX3, tyX3_ok, nmX3⟩
  | 4, h => cases h; exact ⟨tyX4, tyX4_ok, nmX4⟩
  | 5, h => cases h; exact ⟨tyX5, tyX5_ok, nmX5⟩
  | 6, h => cases h; exact ⟨tyX6, tyX6_ok, nmX6⟩
  | 7, h => cases h; exact ⟨tyX7, tyX7_ok, nmX7⟩
  | 8, h => cases h; exact ⟨tyX8, tyX8_ok, nmX8⟩
  | 9, h => cases h; exact ⟨tyX9, tyX9_ok, nmX9⟩
  | k + 10, h => simp [vwCl] at h
section AWO
variable {Y : MI} {K : KT} {Rz : RZ} {σ : St} {pc : Nat} {lv : List (Nat × Value)} {st : List Value}
theorem Cx.hts (C : Cx Y K) : ∀ w ∈ WTb, w.before K.a K.s = true := fun w h => C.w h
theorem aw_getV (C : Cx Y K) {c ci k idx : Nat} {sl : List (Nat ⊕ (Nat × Nat))} {z : Nat ⊕ (Nat × Nat)} (hf : FL Y.1.cls idx ci k) (hc : SH[c]? = some (.inl (ci, sl))) (hs : sl[k]? = some z) (hd : decode Y.2.1 pc = .ok (.getfield idx, 3)) {v : Value} (hv : ∀ a, slv a σ z = cv a v) (kk : AW Y K Rz σ (pc + 3) lv (v :: st)) : AW Y K Rz σ pc lv (.ref c :: st) := by
  obtain ⟨⟨Cn, T, N⟩, h1, h2, h3⟩ := hf
  intro H locs ls hP hS hl
  refine va_get (D := K.g.1) (cl := vwCl) (a := K.g.2.1 c) (C := Cn) (T := T) (N := N) (ci := ci) (ref := (T k).1) (fs := sl.map (slv K.g.2.1 σ)) (v := cv K.g.2.1 v) (Ts := WTb) C.1 C.2.1 C.hts (cls_in h1) C.2.2.2.2.1 C.2.2.2.2.2.2.2.1 (hP.one hc) 0 rfl h1 k h2 (C.w h3) (fun _ h9 => h9) ?_ hd (kk H locs ls hP hS hl)
  rw [List.getElem?_map, hs]
  exact congrArg some (hv _)
theorem aw_getI (C : Cx Y K) {c ci k idx r i : Nat} {sl : List (Nat ⊕ (Nat × Nat))} (hf : FL Y.1.cls idx ci k) (hc : SH[c]? = some (.inl (ci, sl))) (hs : sl[k]? = some (.inr (r, i))) (hd : decode Y.2.1 pc = .ok (.getfield idx, 3)) (kk : AW Y K Rz σ (pc + 3) lv (.int (σ.1 r i) :: st)) : AW Y K Rz σ pc lv (.ref c :: st) := aw_getV C hf hc hs hd (v := .int (σ.1 r i)) (fun _ => rfl) kk
theorem aw_getR (C : Cx Y K) {c ci k idx b : Nat} {sl : List (Nat ⊕ (Nat × Nat))} (hf : FL Y.1.cls idx ci k) (hc : SH[c]? = some (.inl (ci, sl))) (hs : sl[k]? = some (.inl b)) (hd : decode Y.2.1 pc = .ok (.getfield idx, 3)) (kk : AW Y K Rz σ (pc + 3) lv (.ref b :: st)) : AW Y K Rz σ pc lv (.ref c :: st) := aw_getV C hf hc hs hd (v := .ref b) (fun _ => rfl) kk
theorem aw_putV (C : Cx Y K) {c ci k idx r i : Nat} {sl : List (Nat ⊕ (Nat × Nat))} {ty : FieldType} {v : Int32} (hf : FP Y.1.cls idx ci k ty) (hc : SH[c]? = some (.inl (ci, sl))) (hs : sl[k]? = some (.inr (r, i))) (hn : narrow ty (.int v) = .int v) (hfit : fits ty (.int v) = true) (hd : decode Y.2.1 pc = .ok (.putfield idx, 3)) (kk : AW Y K Rz (setR σ r (upd (σ.1 r) i v)) (pc + 3) lv st) : AW Y K Rz σ pc lv (.int v :: .ref c :: st) := by
  obtain ⟨⟨Cn, T, N⟩, hcl, hk, hlink, hfin, hty⟩ := hf
  intro H locs ls hP hS hl
  obtain ⟨ty0, t1, t2⟩ := cls_ty hcl
  have hG := C.2.2.2.2.2.2.2
  have hap := va_apart (own := Y.1.cls) (s := K.s) (args := K.a) (C := Cn) (T := T) (N := N) (ci := ci) C.hts (cls_in hcl) ty0 t1 t2 hG.1 hcl
  obtain ⟨q, h1, cell, q1, q2, q3, q4⟩ := hP c _ hc
  have hr : q = (Cn, T, N) := Option.some.inj (h1.symm.trans hcl)
  subst hr
  obtain ⟨hSl, hfc, kC, hkC, hkind⟩ := hG.1.1 ci _ hcl
  obtain ⟨cf, kf, fi, f, hi, hsl⟩ := hSl k hk
  have hlay := C.w (cls_in hcl _ (u_in_lay hk))
  unfold u_lay at hlay
  rw [if_neg (by rw [hfin]; decide)] at hlay
  have hst := (u_facts hfc hkC (u_lays C.hts (cls_in hcl) hk) hi).1
  have h6 := u_store hfc hkC hkind hlay hi hty hn hfit
  have hlen : k < (sl.map (slv K.g.2.1 σ)).length := by rw [List.length_map]; exact (List.getElem?_eq_some_iff.mp hs).1
  refine W.putK C.1 C.2.1 (f := f) ⟨C.2.2.2.2.1, C.w hlink, ⟨_, _, _, hi⟩, hst⟩ (by rw [q2]; exact h6) q1 q3 (by rw [hsl]; exact k2_hasslot (q4 k hk)) rfl rfl hd fun H' e1 e2 e3 => ?_
  rw [hsl] at e1 ⊢
  exact kk H' _ ls (hP.slot hG.2.1 hc hs e3 ⟨_, hcl, t_OB.to (V := updV (vp_V (sl.map (slv K.g.2.1 σ))) k (.int v)) ⟨_, e1, q2, q3, t_set q4 hap hk (.int v)⟩ (fun j _ => vp_updV_set hlen (.int v) j)⟩) (hS.put e2 e3 (Aof_in hc)) hl
theorem aw_put (C : Cx Y K) {c ci k idx r i : Nat} {sl : List (Nat ⊕ (Nat × Nat))} {v : Int32} (hf : FP Y.1.cls idx ci k .int) (hc : SH[c]? = some (.inl (ci, sl))) (hs : sl[k]? = some (.inr (r, i))) (hd : decode Y.2.1 pc = .ok (.putfield idx, 3)) (kk : AW Y K Rz (setR σ r (upd (σ.1 r) i v)) (pc + 3) lv st) : AW Y K Rz σ pc lv (.int v :: .ref c :: st) := aw_putV C hf hc hs rfl rfl hd kk
/-- a static row of the nest -/
theorem aw_getst (C : Cx Y K) {i idx : Nat} {q : String × List Int32} (hy : Y.1.cls = "SpoonRace$Runner") (hq : STA[i]? = some q) (hm : (idx, q.1) ∈ NSF) (hd : decode Y.2.1 pc = .ok (.getstatic idx, 3)) (kk : AW Y K Rz σ (pc + 3) lv (.ref (100 + i) :: st)) : AW Y K Rz σ pc lv st := by
  intro H locs ls hP hS hl
  have hG := C.2.2.2.2.2.2.2
  exact va_getsN C.1 C.2.1 (hG.2.2.1 i q hq).1 hS (by have := C.2.2.2.2.1; rw [hy] at this; exact this) (va_Nw.use rfl (hG.2.2.2.2.2.1 _ hm)) (fun _ h => h) hd (kk H locs ls hP hS hl)
theorem aw_ialdT (C : Cx Y K) {i k : Nat} {q : String × List Int32} {x : Int32} (hq : STA[i]? = some q) (hd : decode Y.2.1 pc = .ok (.iaload, 1)) (hx : x = nI k) (hk : k < q.2.length) (kk : AW Y K Rz σ (pc + 1) lv (.int (q.2.getD k 0) :: st)) : AW Y K Rz σ pc lv (.int x :: .ref (100 + i) :: st) := by
  subst hx
  intro H locs ls hP hS hl
  have hG := C.2.2.2.2.2.2.2
  obtain ⟨cell, h1, h2, h3, h4, h5, h6, h7⟩ := ((hG.2.2.1 i q hq).2).kept hS.2.1
  have hL : q.2.length < 100 := by
    have e : STA.all (fun q => Nat.blt q.2.length 100) = true := by decide +kernel
    have := List.all_eq_true.mp e _ (List.mem_of_getElem? hq)
    simpa [Nat.blt_eq] using this
  refine W.iald (v := .int (q.2.getD k 0)) C.1 C.2.1 h1 h2 h3 (fun z => ?_) ?_ rfl rfl hd (kk H locs ls hP hS hl)
  · rcases z with z | z
    · exact nI_pos (by omega) z
    · rw [nI_clamp (by omega)] at z; omega
  · rw [nI_clamp (by omega)]; exact h6 k hk
/-- calls -/
def LnkC (Z : MI) (n : Nat) : Prop := Cond.code Z.1 Z.2.1 Z.2.2.1 Z.2.2.2.1 ∈ WTb ∧ Cond.initialized Z.1.cls ∈ WTb ∧ (Z.1.cls ≠ "java/lang/invoke/MethodHandle" ∧ Z.1.cls ≠ "java/lang/invoke/VarHandle" ∧ (parseMethodDescriptor Z.1.desc).map (fun d => d.parameters.length) = some n) ∧ Z.2.2.1 ≤ 21
def LnkV (own : String) (idx : Nat) (Z : MI) (n : Nat) : Prop := LnkC Z n ∧ Cond.methodLink own idx Z.1 ∈ WTb ∧ Cond.instanceMethod Z.1 ∈ WTb ∧ Cond.selects Z.1.cls Z.1 Z.1 ∈ WTb
def LnkS (own : String) (idx : Nat) (Z : MI) (n : Nat) : Prop := LnkC Z n ∧ Cond.methodLink own idx Z.1 ∈ WTb ∧ Cond.static Z.1 ∈ WTb
theorem mem4 {w a b c d : Cond} {l : List Cond} (h : w ∈ ([a, b, c, d] : List Cond) ++ l) : w = a ∨ w = b ∨ w = c ∨ w = d ∨ w ∈ l := by simpa using h
theorem WTs_sub {Z : MI} (h : Cond.code Z.1 Z.2.1 Z.2.2.1 Z.2.2.2.1 ∈ WTb) : ∀ w ∈ WTs Z, w ∈ WTb := fun w hw => (List.mem_cons.mp hw).elim (fun e => e ▸ h) id
/-- what a call needs and gives, whatever its kind -/
theorem aw_of_run {Qz : RZ} {rest : List Value} {stk : List Value} {ay : Array Value} (hr : ∀ (H : Heap) (locs : List Loc) (ls : Array Slot), Pic K.g σ H → va_S (Aof K.g) K.s.heap H locs → lv_has ls Y.2.2.1 (cvl K.g.2.1 lv) → va_Run K.p K.l K.e (rmD Y.lvl) K.s K.m K.a K.b K.me K.c H locs 0 0 0 0 (F0 K.m pc ls (stk.map (cv K.g.2.1))) (rest.map (cv K.g.2.1)) (QcOf K.g Qz ay) (Aof K.g)) (kk : ∀ v σ', Qz v σ' → AW Y K Rz σ' (pc + 3) lv (v.toList ++ rest)) : AW Y K Rz σ pc lv stk := by
  intro H locs ls hP hS hl T hT X
  obtain ⟨w, st₀, t, T', L, h0, X', hL, e1, e2, ⟨v, σ', hq, hv, hP', hF⟩, go⟩ := hr H locs ls hP hS hl T hT X
  cases Outcome.returned.inj hv
  rw [va_F, h0] at hF
  have hS' : va_S (Aof K.g) K.s.heap t.heap (locs ++ L) := ⟨Nat.le_trans hS.1 hF.1, fun q g1 g2 => by rw [hF.2 q (Nat.lt_of_lt_of_le g1 hS.1) g2]; exact hS.2.1 q g1 g2, fun q hq => by
    rcases List.mem_append.mp hq with h | h
    · exact hS.2.2 q h
    · exact hL q h⟩
  obtain ⟨t2, a1, b1⟩ := kk v σ' hq t.heap (locs ++ L) ls hP' hS' hl T' e1 X'
  refine ⟨t2, go t2 ?_, b1⟩
  have e : ((v.toList ++ rest).map (cv K.g.2.1)) = (v.map (cv K.g.2.1)).toList ++ rest.map (cv K.g.2.1) := by cases v <;> rfl
  rw [e] at a1
  exact a1
theorem room_ok {st' : List Value} {a : Nat → Nat} (h : (st'.map fun v => v.category).sum ≤ 8) : ((st'.map (cv a)).map fun v => v.category).sum ≤ 8 := by
  rw [List.map_map, show (fun v : Value => v.category) ∘ cv a = fun v => v.category from funext fun v => cv_cat a v]
  exact h
theorem pre_blind {g : Geo} {av : List Value} : FrameBlind (va_Pc av (fun U => Pic g σ U.heap ∧ GK g U)) := fun a U f mk q => ⟨q.1, q.2.1, q.2.2.calling f mk a⟩
theorem rm_ok {Z : MI} {d n : Nat} (h : LnkC Z n) (hd : Z.lvl + 1 ≤ d) : (rmD Z.lvl).frames + 1 ≤ (rmD d).frames ∧ 8 + (Z.2.2.1 + 11) + (rmD Z.lvl).locals ≤ (rmD d).locals := ⟨hd, by
  have := h.2.2.2
  show 8 + (Z.2.2.1 + 11) + 40 * Z.lvl ≤ 40 * d
  omega⟩
theorem aw_callV (C : Cx Y K) {Z : MI} {idx n b ci : Nat} {sl : List (Nat ⊕ (Nat × Nat))} {As rest : List Value} {Qz : RZ} (hM : AMet Z (.ref b :: As) σ Qz) (hL : LnkV Y.1.cls idx Z n) (hb : SH[b]? = some (.inl (ci, sl))) (hc : (vwCl[ci]?).map (fun q => q.1) = some Z.1.cls) (hlv : Z.lvl + 1 ≤ Y.lvl) (hn : As.length = n) (hroom : (rest.map fun v => v.category).sum ≤ 8) (hd : decode Y.2.1 pc = .ok (.invokevirtual idx, 3)) {stk : List Value} (hst : stk = As.reverse ++ .ref b :: rest) (kk : ∀ v σ', Qz v σ' → AW Y K Rz σ' (pc + 3) lv (v.toList ++ rest)) : AW Y K Rz σ pc lv stk := by
  subst hst
  obtain ⟨hC, w1, w2, w3⟩ := hL
  have hG := C.2.2.2.2.2.2.2
  obtain ⟨q, hq, hq2⟩ : ∃ q, vwCl[ci]? = some q ∧ q.1 = Z.1.cls := by
    cases h : vwCl[ci]? with
    | none => rw [h] at hc; cases hc
    | some q => rw [h] at hc; exact ⟨q, rfl, Option.some.inj hc⟩
  refine aw_of_run (rest := rest) (Qz := Qz) (ay := (Value.ref (K.g.2.1 b) :: As.map (cv K.g.2.1)).toArray) (fun H locs ls hP hS hl => ?_) kk
  refine va_runV (Ts := WTs Y) (C := Z.1.cls) (As := As.map (cv K.g.2.1)) (b := K.g.2.1 b) (rest := rest.map (cv K.g.2.1)) ⟨C.1, C.2.1, C.2.2.2.1, C.2.2.2.2.1, C.2.2.2.2.2.1⟩ (hM K.l K.g) (cwV n C.2.2.2.2.2.1 (goodIn_WT (fun w hw => ?_)) rfl rfl rfl ⟨rfl, hC.2.2.1⟩ (rm_ok hC hlv)) ⟨pre_blind, ?_, fun U hU hW => ⟨by simp [cv], by rw [hU]; exact hP, hG.moved hS hU hW⟩⟩ rfl (by rw [List.length_map]; exact hn) hl.1 ?_ (lv_room (room_ok hroom)) hd ⟨Nat.zero_le _, Nat.zero_le _⟩
  · rcases mem4 hw with rfl | rfl | rfl | rfl | h
    · exact w1
    · exact w2
    · exact w3
    · exact hC.2.1
    · exact WTs_sub hC.1 w h
  · have := va_recv hG.1 (hP.one hb) (ci := ci) (q0 := 0) hq rfl
    rw [hq2] at this
    exact this
  · simp [cv]
theorem aw_callS (C : Cx Y K) {Z : MI} {idx n : Nat} {As rest : List Value} {Qz : RZ} (hM : AMet Z As σ Qz) (hL : LnkS Y.1.cls idx Z n) (hlv : Z.lvl + 1 ≤ Y.lvl) (hn : As.length = n) (hroom : (rest.map fun v => v.category).sum ≤ 8) (hd : decode Y.2.1 pc = .ok (.invokestatic idx, 3)) {stk : List Value} (hst : stk = As.reverse ++ rest) (kk : ∀ v σ', Qz v σ' → AW Y K Rz σ' (pc + 3) lv (v.toList ++ rest)) : AW Y K Rz σ pc lv stk := by
  subst hst
  obtain ⟨hC, w1, w2⟩ := hL
  have hG := C.2.2.2.2.2.2.2
  refine aw_of_run (rest := rest) (Qz := Qz) (ay := (As.map (cv K.g.2.1)).toArray) (fun H locs ls hP hS hl => ?_) kk
  refine va_runS (Ts := WTs Y) (As := As.map (cv K.g.2.1)) (rest := rest.map (cv K.g.2.1)) ⟨C.1, C.2.1, C.2.2.2.1, C.2.2.2.2.1, C.2.2.2.2.2.1⟩ (hM K.l K.g) (va_cwS n C.2.2.2.2.2.1 (goodIn_WT (fun w hw => ?_)) rfl rfl rfl hC.2.2.1 (rm_ok hC hlv)) ⟨pre_blind, fun U hU hW => ⟨rfl, by rw [hU]; exact hP, hG.moved hS hU hW⟩⟩ rfl (by rw [List.length_map]; exact hn) hl.1 ?_ (lv_room (room_ok hroom)) hd ⟨Nat.zero_le _, Nat.zero_le _⟩
  · rcases List.mem_append.mp hw with h | h
    · simp only [List.mem_cons, List.not_mem_nil, or_false] at h
      rcases h with rfl | rfl | rfl
      · exact w1
      · exact w2
      · exact hC.2.1
    · exact WTs_sub hC.1 w h
  · simp
/-- a nest mate's private static method -/
theorem aw_callN (C : Cx Y K) {d : Nat} {idx : Nat} {As rest : List Value} {Qz : RZ} (hM : AMet (yX8_within, cX8_within, 3, some .boolean, d) As σ Qz) (hm : (Y.1.cls, idx) ∈ NSM) (hC : LnkC (yX8_within, cX8_within, 3, some .boolean, d) 3) (hs : Cond.static yX8_within ∈ WTb) (hlv : d + 1 ≤ Y.lvl) (hn : As.length = 3) (hroom : (rest.map fun v => v.category).sum ≤ 8) (hd : decode Y.2.1 pc = .ok (.invokestatic idx, 3)) {stk : List Value} (hst : stk = As.reverse ++ rest) (kk : ∀ v σ', Qz v σ' → AW Y K Rz σ' (pc + 3) lv (v.toList ++ rest)) : AW Y K Rz σ pc lv stk := by
  subst hst
  have hG := C.2.2.2.2.2.2.2
  refine aw_of_run (rest := rest) (Qz := Qz) (ay := (As.map (cv K.g.2.1)).toArray) (fun H locs ls hP hS hl => ?_) kk
  refine va_runSN (Ts := WTs Y) (host := "SpoonRace") (As := As.map (cv K.g.2.1)) (rest := rest.map (cv K.g.2.1)) ⟨C.1, C.2.1, C.2.2.2.1, C.2.2.2.2.1, C.2.2.2.2.2.1⟩ (hM K.l K.g) ⟨va_cnB 3 C.2.2.2.2.2.1 (goodIn_WT (WTs_sub hC.1)) rfl rfl rfl (hG.2.2.2.2.2.2.1 _ hm) (C.w hC.2.1) hC.2.2.1 (rm_ok hC hlv), C.w hs, trivial⟩ ⟨pre_blind, fun U hU hW => ⟨rfl, by rw [hU]; exact hP, hG.moved hS hU hW⟩⟩ rfl (by rw [List.length_map]; exact hn) hl.1 (by simp) (lv_room (room_ok hroom)) hd ⟨Nat.zero_le _, Nat.zero_le _⟩
end AWO
