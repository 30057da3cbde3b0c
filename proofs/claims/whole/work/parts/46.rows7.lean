/-! System.arraycopy between int rows, between long rows -/
def wsO (g : Geo) (σ : St) : va_W := SH.zipIdx.map fun q => (g.2.1 q.2, entOf g σ q.1)
theorem wsO_get {g : Geo} {σ : St} (c : Nat) : (wsO g σ)[c]? = (SH[c]?).map fun a => (g.2.1 c, entOf g σ a) := by
  unfold wsO
  rw [List.getElem?_map, List.getElem?_zipIdx]
  cases SH[c]? with
  | none => rfl
  | some a => simp
theorem wsO_at {g : Geo} {σ : St} {c : Nat} {a : AE} (h : SH[c]? = some a) : (wsO g σ)[c]? = some (g.2.1 c, entOf g σ a) := by
  rw [wsO_get, h]; rfl
theorem wsO_of {g : Geo} {σ : St} {c : Nat} {e : Nat × va_E} (h : (wsO g σ)[c]? = some e) : ∃ a, SH[c]? = some a ∧ e = (g.2.1 c, entOf g σ a) := by
  rw [wsO_get] at h
  cases ha : SH[c]? with
  | none => rw [ha] at h; cases h
  | some a => rw [ha] at h; exact ⟨a, rfl, (Option.some.inj h).symm⟩
theorem Pic.all {g : Geo} {σ : St} {H : Heap} (h : Pic g σ H) : va_P g.1 vwCl (wsO g σ) H := fun c e he => by
  obtain ⟨a, ha, rfl⟩ := wsO_of he
  exact h c a ha
theorem wsO_D {g : Geo} {σ : St} (inj : ∀ i j, i < 86 → j < 86 → g.2.1 i = g.2.1 j → i = j) : va_D (Aof g) (wsO g σ) := by
  refine ⟨fun i j p q hp hq e => ?_, fun k q hq => ?_⟩
  · obtain ⟨a, ha, rfl⟩ := wsO_of hp
    obtain ⟨b, hb, rfl⟩ := wsO_of hq
    exact inj i j (SH_lt ha) (SH_lt hb) e
  · obtain ⟨a, ha, rfl⟩ := wsO_of hq
    exact Aof_in ha
/-- n of f from S on, laid into g from T on -/
def cpyR (f g : Fl) (S T n : Nat) : Fl := fun i => if T ≤ i ∧ i < T + n then f (S + (i - T)) else g i
def cpyL (f g : Nat → Int64) (S T n : Nat) : Nat → Int64 := fun i => if T ≤ i ∧ i < T + n then f (S + (i - T)) else g i
section AW7
variable {Y : MI} {K : KT} {Rz : RZ} {σ : St} {pc : Nat} {lv : List (Nat × Value)} {st : List Value}
theorem room_copy {st : List Value} {a : Nat → Nat} {d : Nat} (h : (st.map fun v => v.category).sum ≤ 8) (hd : 1 ≤ d) : ((st.map (cv a)).map fun v => v.category).sum + (nativeFrameWords "java/lang/System" "arraycopy" 5 + 11) ≤ 40 * d := by
  have := room_ok (a := a) h
  have e : nativeFrameWords "java/lang/System" "arraycopy" 5 ≤ 20 := by decide +kernel
  omega
theorem aw_copyI (C : Cx Y K) {idx c0 r0 o0 n0 c1 r1 o1 n1 sp dp n : Nat} {x y z : Int32} (h0 : SH[c0]? = some (.inr (.inl (r0, o0, n0)))) (h1 : SH[c1]? = some (.inr (.inl (r1, o1, n1)))) (hw : Cond.methodLink Y.1.cls idx arraycopyName ∈ WTb) (hlv : 1 ≤ Y.lvl) (hx : x = nI sp) (hy : y = nI dp) (hz : z = nI n) (hs : sp + n ≤ n0) (ht : dp + n ≤ n1) (hroom : (st.map fun v => v.category).sum ≤ 8) (hd : decode Y.2.1 pc = .ok (.invokestatic idx, 3)) (kk : AW Y K Rz (setR σ r1 (cpyR (σ.1 r0) (σ.1 r1) (sp + o0) (dp + o1) n)) (pc + 3) lv st) : AW Y K Rz σ pc lv (.int z :: .int y :: .ref c1 :: .int x :: .ref c0 :: st) := by
  subst hx; subst hy; subst hz
  intro H locs ls hP hS hl
  have b0 := SH_smallI h0
  have b1 := SH_smallI h1
  have inj := C.2.2.2.2.2.2.2.2.1
  refine va_copyi (D := K.g.1) (cl := vwCl) (ws := wsO K.g σ) (tys := tysOf K.g) (A := Aof K.g) C.1 C.2.1 (C.2.2.2.1.trans hl.1.symm) C.2.2.2.2.1 (C.w hw) (C.w (WT_mem (t2_in (List.mem_of_getElem? (i := 216) rfl)) rfl)) (C.w (WT_mem (t2_in (List.mem_of_getElem? (i := 215) rfl)) rfl)) (C.w (WT_mem (t1_in (List.mem_of_getElem? (i := 14) rfl)) rfl)) C.2.2.2.2.2.2.2.1 hP.all (wsO_D inj) hS c0 c1 0 0 (wsO_at h0) (wsO_at h1) rfl rfl rfl (nI_pos (by omega)) (nI_pos (by omega)) (nI_pos (by omega)) (by rw [nI_clamp (by omega), nI_clamp (by omega)]; exact hs) (by rw [nI_clamp (by omega), nI_clamp (by omega)]; exact ht) (fun _ _ => rfl) hlv (room_copy hroom hlv) hd (fun H1 locs1 hP1 _ hS1 => kk H1 locs1 ls (fun d a hda => ?_) hS1 hl)
  rw [nI_clamp (by omega), nI_clamp (by omega), nI_clamp (by omega)] at hP1
  by_cases hdc : d = c1
  · subst hdc
    cases h1.symm.trans hda
    have q := hP1 d _ (List.getElem?_set_self (List.getElem?_eq_some_iff.mp (wsO_at h1)).1)
    have e : va_cpy (rowI σ r0 o0 n0) (rowI σ r1 o1 n1) sp dp n = rowI (setR σ r1 (cpyR (σ.1 r0) (σ.1 r1) (sp + o0) (dp + o1) n)) r1 o1 n1 := by
      funext k
      unfold va_cpy rowI
      rw [setR_at]
      unfold cpyR
      by_cases hk : k < n1
      · rw [if_pos hk, if_pos hk]
        by_cases hq : dp ≤ k ∧ k < dp + n
        · rw [if_pos hq, if_pos (by omega), if_pos (by omega)]
          exact congrArg (σ.1 r0) (by omega)
        · rw [if_neg hq, if_neg (by omega)]
      · rw [if_neg hk, if_neg hk, if_neg (by omega)]
    rw [e] at q
    exact q
  · have q := hP1 d (K.g.2.1 d, entOf K.g σ a) (by rw [List.getElem?_set_ne (fun z => hdc z.symm)]; exact wsO_at hda)
    have e := ent_off (g := K.g) (σ := σ) (a := a) (r := r1) (f := cpyR (σ.1 r0) (σ.1 r1) (sp + o0) (dp + o1) n) o1 n1 (fun k hk => if_neg (by omega)) (List.all_eq_true.mpr fun x hx => by
      have h2 := List.all_eq_true.mp (apart_of h1 hda (fun z => hdc z.symm)) (r1, o1, n1) (List.mem_singleton.mpr rfl)
      exact List.all_eq_true.mp h2 x hx)
    rw [e]
    exact q
theorem aw_copyL (C : Cx Y K) {idx c0 r0 n0 c1 r1 n1 sp dp n : Nat} {x y z : Int32} (h0 : SH[c0]? = some (.inr (.inr (.inl (r0, n0))))) (h1 : SH[c1]? = some (.inr (.inr (.inl (r1, n1))))) (hw : Cond.methodLink Y.1.cls idx arraycopyName ∈ WTb) (hlv : 1 ≤ Y.lvl) (hx : x = nI sp) (hy : y = nI dp) (hz : z = nI n) (hs : sp + n ≤ n0) (ht : dp + n ≤ n1) (hroom : (st.map fun v => v.category).sum ≤ 8) (hd : decode Y.2.1 pc = .ok (.invokestatic idx, 3)) (kk : AW Y K Rz (setL σ r1 (cpyL (σ.2 r0) (σ.2 r1) sp dp n)) (pc + 3) lv st) : AW Y K Rz σ pc lv (.int z :: .int y :: .ref c1 :: .int x :: .ref c0 :: st) := by
  subst hx; subst hy; subst hz
  intro H locs ls hP hS hl
  have b0 := SH_smallL h0
  have b1 := SH_smallL h1
  have inj := C.2.2.2.2.2.2.2.2.1
  refine va_copyl (D := K.g.1) (cl := vwCl) (ws := wsO K.g σ) (tys := tysOf K.g) (A := Aof K.g) C.1 C.2.1 (C.2.2.2.1.trans hl.1.symm) C.2.2.2.2.1 (C.w hw) (C.w (WT_mem (t2_in (List.mem_of_getElem? (i := 216) rfl)) rfl)) (C.w (WT_mem (t2_in (List.mem_of_getElem? (i := 215) rfl)) rfl)) (C.w (WT_mem (t1_in (List.mem_of_getElem? (i := 14) rfl)) rfl)) C.2.2.2.2.2.2.2.1 hP.all (wsO_D inj) hS c0 c1 1 1 (wsO_at h0) (wsO_at h1) rfl rfl rfl (nI_pos (by omega)) (nI_pos (by omega)) (nI_pos (by omega)) (by rw [nI_clamp (by omega), nI_clamp (by omega)]; exact hs) (by rw [nI_clamp (by omega), nI_clamp (by omega)]; exact ht) (fun _ _ => rfl) hlv (room_copy hroom hlv) hd (fun H1 locs1 hP1 _ hS1 => kk H1 locs1 ls (fun d a hda => ?_) hS1 hl)
  rw [nI_clamp (by omega), nI_clamp (by omega), nI_clamp (by omega)] at hP1
  by_cases hdc : d = c1
  · subst hdc
    cases h1.symm.trans hda
    have q := hP1 d _ (List.getElem?_set_self (List.getElem?_eq_some_iff.mp (wsO_at h1)).1)
    have e : va_cpy (rowL σ r0 n0) (rowL σ r1 n1) sp dp n = rowL (setL σ r1 (cpyL (σ.2 r0) (σ.2 r1) sp dp n)) r1 n1 := by
      funext k
      unfold va_cpy rowL
      rw [setL_at]
      unfold cpyL
      by_cases hk : k < n1
      · rw [if_pos hk, if_pos hk]
        by_cases hq : dp ≤ k ∧ k < dp + n
        · rw [if_pos hq, if_pos hq, if_pos (by omega)]
        · rw [if_neg hq, if_neg hq]
      · rw [if_neg hk, if_neg hk, if_neg (by omega)]
    rw [e] at q
    exact q
  · have q := hP1 d (K.g.2.1 d, entOf K.g σ a) (by rw [List.getElem?_set_ne (fun z => hdc z.symm)]; exact wsO_at hda)
    rw [ent_offL (fun q hq => by subst hq; exact apartL_of hda h1 hdc)]
    exact q
end AW7
theorem ac_X2_41 : Cond.methodLink RX2 41 arraycopyName ∈ WTb := (WT_mem (t2_in (List.mem_of_getElem? (i := 214) rfl)) rfl)
theorem ac_X4_15 : Cond.methodLink RX4 15 arraycopyName ∈ WTb := (WT_mem (t2_in (List.mem_of_getElem? (i := 221) rfl)) rfl)
theorem ac_X0_30 : Cond.methodLink RX0 30 arraycopyName ∈ WTb := (WT_mem (t3_in (List.mem_of_getElem? (i := 26) rfl)) rfl)
theorem ac_X1_68 : Cond.methodLink RX1 68 arraycopyName ∈ WTb := (WT_mem (t3_in (List.mem_of_getElem? (i := 53) rfl)) rfl)
theorem ac_X8_276 : Cond.methodLink RX8 276 arraycopyName ∈ WTb := (WT_mem (t4_in (List.mem_of_getElem? (i := 116) rfl)) rfl)
