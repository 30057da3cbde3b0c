/-! rows of texts (String constants), and calls on them; System.arraycopy of int rows -/
theorem st_ldcw {p : Program} {l : Launch} {e : Env} {R : Room} {s : State} {m : MethodId} {args : Array Value} {below : List Frame} {meth : Method} {c : Code} {T : State} {locs : List Loc} {cells slots : Nat}
    (X : Stand p l e R s m args below meth c T locs cells slots) (hexec : p.tables.exec = Jvm.exec) {own text : String} {index : Nat} {a : Addr} (hown : s.vm.findClass own = some m.cls)
    (hconst : (Cond.stringRef own index text).before args s = true) (hev : (Term.string own index).eval args s none [] s = some (.ref a)) {g : JFrame} (hg : g.method = m) (hdg : decode c.code g.pc = .ok (.ldc_w index, 3)) :
    ∀ target, Steps p.tables e below (T.setTop { g with pc := g.pc + 3, stack := .ref a :: g.stack }) target → Steps p.tables e below (T.setTop g) target := by
  obtain ⟨k, cf, i, a', hk, hcf, hcp, -, hr, hev'⟩ := Cond.stringRef_spec hown hconst
  cases hev.symm.trans hev'
  obtain ⟨k', hk', he⟩ := X.warmed.alike.2.2 _ _ hk
  have hr' : k'.resolved[index]? = some (some (.string a)) := by
    rcases X.warmed.entry hk hk' index with h | ⟨h, -⟩
    · rw [h]; exact hr
    · rw [hr] at h; cases h
  intro target hrest
  subst hg
  jvm_step X.here [hexec, hdg, ldc_w.wp_string (e := e) (s := T) (f := g) X.here.top hk' (by rw [he]; exact hcf) hcp hr']
  exact hrest
section AW6
variable {Y : MI} {K : KT} {Rz : RZ} {σ : St} {pc : Nat} {lv : List (Nat × Value)} {st : List Value}
theorem Cx.str (C : Cx Y K) {i : Nat} {q : String × Nat × Nat} (hq : STR[i]? = some q) : GKs K.g i q K.s K.s.heap := C.2.2.2.2.2.2.2.2.2.2.2.1 i q hq
theorem aw_ldcwS (C : Cx Y K) {i idx w : Nat} (hd : decode Y.2.1 pc = .ok (.ldc_w idx, 3)) (hq : STR[i]? = some (Y.1.cls, idx, w)) (kk : AW Y K Rz σ (pc + 3) lv (.ref (200 + i) :: st)) : AW Y K Rz σ pc lv st := fun H locs ls hP hS hl T hT X => by
  obtain ⟨t, a1, b1⟩ := kk H locs ls hP hS hl T hT X
  exact ⟨t, st_ldcw X C.1 C.2.2.2.2.1 (text := wordT w) (a := K.g.2.1 (200 + i)) (C.str hq).1.1 (C.str hq).1.2 (g := F0 K.m pc ls (st.map (cv K.g.2.1))) rfl (by rw [C.2.1]; exact hd) t a1, b1⟩
theorem aw_strV (C : Cx Y K) {i : Nat} {q : String × Nat × Nat} (hy : Y.1.cls = "java/lang/String") (hq : STR[i]? = some q) (hd : decode Y.2.1 pc = .ok (.getfield 9, 3)) (kk : AW Y K Rz σ (pc + 3) lv (.ref (300 + i) :: st)) : AW Y K Rz σ pc lv (.ref (200 + i) :: st) := fun H locs ls hP hS hl =>
  vk_getf (own := "java/lang/String") (ref := "java/lang/String") C.1 C.2.1 (C.str hq).2.2.2.1 hS (by rw [← hy]; exact C.2.2.2.2.1) (C.w (WT_mem (t6_in (List.mem_of_getElem? (i := 208) rfl)) rfl)) (fun _ h => h) hd (kk H locs ls hP hS hl)
theorem aw_strC (C : Cx Y K) {i : Nat} {q : String × Nat × Nat} (hy : Y.1.cls = "java/lang/String") (hq : STR[i]? = some q) (hd : decode Y.2.1 pc = .ok (.getfield 15, 3)) (kk : AW Y K Rz σ (pc + 3) lv (.int 0 :: st)) : AW Y K Rz σ pc lv (.ref (200 + i) :: st) := fun H locs ls hP hS hl =>
  vk_getf (own := "java/lang/String") (ref := "java/lang/String") C.1 C.2.1 (C.str hq).2.2.1 hS (by rw [← hy]; exact C.2.2.2.2.1) (C.w (WT_mem (t6_in (List.mem_of_getElem? (i := 209) rfl)) rfl)) (fun _ h => h) hd (kk H locs ls hP hS hl)
theorem aw_comp (C : Cx Y K) (hy : Y.1.cls = "java/lang/String") (hd : decode Y.2.1 pc = .ok (.getstatic 38, 3)) (kk : AW Y K Rz σ (pc + 3) lv (.int 1 :: st)) : AW Y K Rz σ pc lv st := fun H locs ls hP hS hl =>
  va_gets (own := "java/lang/String") (ref := "java/lang/String") C.1 C.2.1 C.2.2.2.2.2.2.2.2.2.2.1 hS (by rw [← hy]; exact C.2.2.2.2.1) (C.w (WT_mem (t3_in (List.mem_of_getElem? (i := 218) rfl)) rfl)) (fun _ h => h) hd (kk H locs ls hP hS hl)
theorem aw_fmt (C : Cx Y K) (hy : Y.1.cls = "java/lang/String") (hd : decode Y.2.1 pc = .ok (.getstatic 1053, 3)) (k1 : AW Y K Rz σ (pc + 3) lv (.null :: st)) (k2 : AW Y K Rz σ (pc + 3) lv (.ref 400 :: st)) : AW Y K Rz σ pc lv st := by
  intro H locs ls hP hS hl
  rcases C.2.2.2.2.2.2.2.2.2.2.2.2.2.2 with z | z
  · exact va_gets (own := "java/lang/String") (ref := "jdk/internal/util/Preconditions") C.1 C.2.1 z hS (by rw [← hy]; exact C.2.2.2.2.1) (C.w (WT_mem (t3_in (List.mem_of_getElem? (i := 234) rfl)) rfl)) (fun _ h => h) hd (k1 H locs ls hP hS hl)
  · exact va_gets (own := "java/lang/String") (ref := "jdk/internal/util/Preconditions") C.1 C.2.1 z hS (by rw [← hy]; exact C.2.2.2.2.1) (C.w (WT_mem (t3_in (List.mem_of_getElem? (i := 234) rfl)) rfl)) (fun _ h => h) hd (k2 H locs ls hP hS hl)
theorem aw_alenB (C : Cx Y K) {i : Nat} {q : String × Nat × Nat} (hq : STR[i]? = some q) (hd : decode Y.2.1 pc = .ok (.arraylength, 1)) (kk : AW Y K Rz σ (pc + 1) lv (.int (nI (wordB q.2.2).length) :: st)) : AW Y K Rz σ pc lv (.ref (300 + i) :: st) := by
  intro H locs ls hP hS hl
  obtain ⟨cell, h1, h2, h3, h4, h5, h6, h7⟩ := ((C.str hq).2.2.2.2).kept hS.2.1
  exact W.alen C.1 C.2.1 h1 h2 h5 rfl rfl hd (kk H locs ls hP hS hl)
theorem word_len {i : Nat} {q : String × Nat × Nat} (hq : STR[i]? = some q) : (wordB q.2.2).length < 100 := by
  have e : STR.all (fun q => Nat.blt (wordB q.2.2).length 100) = true := by decide +kernel
  have := List.all_eq_true.mp e _ (List.mem_of_getElem? hq)
  simpa [Nat.blt_eq] using this
theorem aw_baldB (C : Cx Y K) {i k : Nat} {q : String × Nat × Nat} {x : Int32} (hq : STR[i]? = some q) (hd : decode Y.2.1 pc = .ok (.baload, 1)) (hx : x = nI k) (hk : k < (wordB q.2.2).length) (kk : AW Y K Rz σ (pc + 1) lv (.int ((wordB q.2.2).getD k 0) :: st)) : AW Y K Rz σ pc lv (.int x :: .ref (300 + i) :: st) := by
  subst hx
  intro H locs ls hP hS hl
  obtain ⟨cell, h1, h2, h3, h4, h5, h6, h7⟩ := ((C.str hq).2.2.2.2).kept hS.2.1
  have hL := word_len hq
  refine W.bald (v := .int ((wordB q.2.2).getD k 0)) C.1 C.2.1 h1 h2 h3 (fun z => ?_) ?_ rfl rfl hd (kk H locs ls hP hS hl)
  · rcases z with z | z
    · exact nI_pos (by omega) z
    · rw [nI_clamp (by omega)] at z; omega
  · rw [nI_clamp (by omega)]; exact h6 k hk
theorem aw_callW (C : Cx Y K) {Z : MI} {idx n i : Nat} {q : String × Nat × Nat} {As rest : List Value} {Qz : RZ} (hM : AMet Z (.ref (200 + i) :: As) σ Qz) (hL : LnkV Y.1.cls idx Z n) (hq : STR[i]? = some q) (hc : "java/lang/String" = Z.1.cls) (hlv : Z.lvl + 1 ≤ Y.lvl) (hn : As.length = n) (hroom : (rest.map fun v => v.category).sum ≤ 8) (hd : decode Y.2.1 pc = .ok (.invokevirtual idx, 3)) {stk : List Value} (hst : stk = As.reverse ++ .ref (200 + i) :: rest) (kk : ∀ v σ', Qz v σ' → AW Y K Rz σ' (pc + 3) lv (v.toList ++ rest)) : AW Y K Rz σ pc lv stk := by
  subst hst
  obtain ⟨hC, w1, w2, w3⟩ := hL
  have hG := C.2.2.2.2.2.2.2
  refine aw_of_run (rest := rest) (Qz := Qz) (ay := (Value.ref (K.g.2.1 (200 + i)) :: As.map (cv K.g.2.1)).toArray) (fun H locs ls hP hS hl => ?_) kk
  refine va_runV (Ts := WTs Y) (C := Z.1.cls) (As := As.map (cv K.g.2.1)) (b := K.g.2.1 (200 + i)) (rest := rest.map (cv K.g.2.1)) ⟨C.1, C.2.1, C.2.2.2.1, C.2.2.2.2.1, C.2.2.2.2.2.1⟩ (hM K.l K.g) (cwV n C.2.2.2.2.2.1 (goodIn_WT (fun w hw => ?_)) rfl rfl rfl ⟨rfl, hC.2.2.1⟩ (rm_ok hC hlv)) ⟨pre_blind, ?_, fun U hU hW => ⟨by simp [cv], by rw [hU]; exact hP, hG.moved hS hU hW⟩⟩ rfl (by rw [List.length_map]; exact hn) hl.1 ?_ (lv_room (room_ok hroom)) hd ⟨Nat.zero_le _, Nat.zero_le _⟩
  · rcases mem4 hw with rfl | rfl | rfl | rfl | h
    · exact w1
    · exact w2
    · exact w3
    · exact hC.2.1
    · exact WTs_sub hC.1 w h
  · obtain ⟨cell, h1, h2, h3, -⟩ := (C.str hq).2.1.kept hS.2.1
    exact ⟨cell, h1, h2, by rw [← hc]; exact h3⟩
  · simp [cv]
theorem aw_cWI (C : Cx Y K) {Z : MI} {idx n i : Nat} {q : String × Nat × Nat} {As rest : List Value} {x : Int32} {σ' : St} (hM : AMet Z (.ref (200 + i) :: As) σ (fz (some (.int x)) σ')) (hL : LnkV Y.1.cls idx Z n) (hq : STR[i]? = some q) (hc : "java/lang/String" = Z.1.cls) (hd : decode Y.2.1 pc = .ok (.invokevirtual idx, 3)) (hlv : Z.lvl + 1 ≤ Y.lvl) (hroom : (rest.map fun v => v.category).sum ≤ 8) {stk : List Value} (hst : stk = As.reverse ++ .ref (200 + i) :: rest) (hn : As.length = n) (kk : AW Y K Rz σ' (pc + 3) lv (.int x :: rest)) : AW Y K Rz σ pc lv stk := aw_callW C hM hL hq hc hlv hn hroom hd hst (fun w s h => by obtain ⟨rfl, rfl⟩ := h; exact kk)
end AW6
