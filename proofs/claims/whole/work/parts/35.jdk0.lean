/-! what the JDK's methods answer -/
def mxI (a b : Int32) : Int32 := if a < b then b else a
def mnI (a b : Int32) : Int32 := if b < a then b else a
def abI (x : Int32) : Int32 := if 0 ≤ x then x else 0 - x
section AWM
variable {Y : MI} {K : KT} {Rz : RZ} {σ : St} {pc : Nat} {lv : List (Nat × Value)} {st : List Value}
theorem room13 {st : List Value} {a : Nat → Nat} {d : Nat} (h : (st.map fun v => v.category).sum ≤ 8) (hd : 1 ≤ d) : ((st.map (cv a)).map fun v => v.category).sum + 13 ≤ 40 * d := by
  have := room_ok (a := a) h
  omega
theorem aw_mmax (C : Cx Y K) {idx : Nat} {x y : Int32} (hL : LnkS Y.1.cls idx Y_J9_max_7cf53 2) (hlv : 1 ≤ Y.lvl) (hroom : (st.map fun v => v.category).sum ≤ 8) (hd : decode Y.2.1 pc = .ok (.invokestatic idx, 3)) (kk : AW Y K Rz σ (pc + 3) lv (.int (mxI x y) :: st)) : AW Y K Rz σ pc lv (.int y :: .int x :: st) := fun H locs ls hP hS hl =>
  va_mmax C.1 C.2.1 (C.2.2.2.1.trans hl.1.symm) C.2.2.2.2.1 (C.w hL.2.1) (C.w hL.2.2) (C.w hL.1.2.1) (C.w hL.1.1) hlv (room13 hroom hlv) (Nat.zero_le _) (Nat.zero_le _) hd (kk H locs ls hP hS hl)
theorem aw_mmin (C : Cx Y K) {idx : Nat} {x y : Int32} (hL : LnkS Y.1.cls idx Y_J9_min_7cf53 2) (hlv : 1 ≤ Y.lvl) (hroom : (st.map fun v => v.category).sum ≤ 8) (hd : decode Y.2.1 pc = .ok (.invokestatic idx, 3)) (kk : AW Y K Rz σ (pc + 3) lv (.int (mnI x y) :: st)) : AW Y K Rz σ pc lv (.int y :: .int x :: st) := fun H locs ls hP hS hl =>
  va_mmin C.1 C.2.1 (C.2.2.2.1.trans hl.1.symm) C.2.2.2.2.1 (C.w hL.2.1) (C.w hL.2.2) (C.w hL.1.2.1) (C.w hL.1.1) hlv (room13 hroom hlv) (Nat.zero_le _) (Nat.zero_le _) hd (kk H locs ls hP hS hl)
theorem aw_mabs (C : Cx Y K) {idx : Nat} {x : Int32} (hL : LnkS Y.1.cls idx Y_J9_abs_0f7a4 1) (hlv : 1 ≤ Y.lvl) (hroom : (st.map fun v => v.category).sum ≤ 8) (hd : decode Y.2.1 pc = .ok (.invokestatic idx, 3)) (kk : AW Y K Rz σ (pc + 3) lv (.int (abI x) :: st)) : AW Y K Rz σ pc lv (.int x :: st) := fun H locs ls hP hS hl =>
  va_mabs C.1 C.2.1 (C.2.2.2.1.trans hl.1.symm) C.2.2.2.2.1 (C.w hL.2.1) (C.w hL.2.2) (C.w hL.1.2.1) (C.w hL.1.1) hlv (room13 hroom hlv) (Nat.zero_le _) (Nat.zero_le _) hd (kk H locs ls hP hS hl)
end AWM
theorem shr0 (x : Int32) : x >>> ((0 : Int32) &&& 31) = x := by
  rw [show ((0 : Int32) &&& 31) = 0 from by decide]
  simp
theorem chr_ok {i k : Nat} {q : String × Nat × Nat} (hq : STR[i]? = some q) (hk : k < (wordB q.2.2).length) : (((wordB q.2.2).getD k 0 &&& 255).toUInt32 % 65536).toInt32 = (wordB q.2.2).getD k 0 ∧ narrow .char (.int ((wordB q.2.2).getD k 0)) = .int ((wordB q.2.2).getD k 0) := by
  have e : STR.all (fun q => (wordB q.2.2).all fun b => decide (((b &&& 255).toUInt32 % 65536).toInt32 = b) && decide (vp_nar .char b = b)) = true := by decide +kernel
  have h1 := List.all_eq_true.mp (List.all_eq_true.mp e _ (List.mem_of_getElem? hq)) ((wordB q.2.2).getD k 0) (by
    rw [List.getD_eq_getElem?_getD, List.getElem?_eq_getElem hk]
    exact List.getElem_mem hk)
  simp only [Bool.and_eq_true, decide_eq_true_eq] at h1
  refine ⟨h1.1, ?_⟩
  rw [vp_nar_char] at h1
  exact congrArg Value.int h1.2
/-- the first k of a row become v -/
def filK (f : Fl) (o : Nat) (v : Int32) (k : Nat) : Fl := fun i => if o ≤ i ∧ i < o + k then v else f i
theorem filK_0 {f : Fl} {o : Nat} {v : Int32} : filK f o v 0 = f := funext fun i => if_neg (by omega)
theorem filK_s {f : Fl} {o k : Nat} {v : Int32} : upd (filK f o v k) (o + k) v = filK f o v (k + 1) := by
  funext i
  simp only [upd, filK]
  repeat' split
  all_goals first | rfl | (exfalso; omega)
def filL (f : Nat → Int64) (v : Int64) (k : Nat) : Nat → Int64 := fun i => if i < k then v else f i
theorem filL_0 {f : Nat → Int64} {v : Int64} : filL f v 0 = f := funext fun i => if_neg (by omega)
theorem filL_s {f : Nat → Int64} {k : Nat} {v : Int64} : vp_updL (filL f v k) k v = filL f v (k + 1) := by
  funext i
  simp only [vp_updL, filL]
  repeat' split
  all_goals first | rfl | (exfalso; omega)
def bc1 (x : Int32) : Int32 := x - ((x.toUInt32 >>> ((1 : Int32).toUInt32 &&& Int32.toUInt32 31)).toInt32 &&& 1431655765)
def bc2 (x : Int32) : Int32 := (x &&& 858993459) + ((x.toUInt32 >>> ((2 : Int32).toUInt32 &&& Int32.toUInt32 31)).toInt32 &&& 858993459)
def bc3 (x : Int32) : Int32 := (x + (x.toUInt32 >>> ((4 : Int32).toUInt32 &&& Int32.toUInt32 31)).toInt32) &&& 252645135
def bc4 (x : Int32) : Int32 := x + (x.toUInt32 >>> ((8 : Int32).toUInt32 &&& Int32.toUInt32 31)).toInt32
def bc5 (x : Int32) : Int32 := x + (x.toUInt32 >>> ((16 : Int32).toUInt32 &&& Int32.toUInt32 31)).toInt32
def bcS (x : Int32) : Int32 := bc5 (bc4 (bc3 (bc2 (bc1 x)))) &&& 63
theorem bcS_many : ∀ s, s < 64 → bcS (nI s) = manyS (nI s) 6 := by decide +kernel
