/-! locals picked, texts, tables, nest mates' calls by their answers -/
def tabS (i k : Nat) : Int32 := ((STA.getD i ("", [])).2).getD k 0
section AW4
variable {Y : MI} {K : KT} {Rz : RZ} {σ : St} {pc : Nat} {lv : List (Nat × Value)} {st : List Value}
theorem aw_lvs (C : Cx Y K) (ks : List Nat) (lv' : List (Nat × Value)) (hp : lv_pick lv ks = lv') (kk : AW Y K Rz σ pc lv' st) : AW Y K Rz σ pc lv st := fun H locs ls hP hS hl => kk H locs ls hP hS (lv_sub hl ks (by
  rw [← hp]
  simp only [lv_pick, cvl, List.map_filterMap]
  congr 1
  funext k
  rw [List.getElem?_map]))
theorem aw_tab (C : Cx Y K) {i k : Nat} {q : String × List Int32} {x : Int32} (hq : STA[i]? = some q) (hd : decode Y.2.1 pc = .ok (.iaload, 1)) (hx : x = nI k) (hk : k < q.2.length) (kk : AW Y K Rz σ (pc + 1) lv (.int (tabS i k) :: st)) : AW Y K Rz σ pc lv (.int x :: .ref (100 + i) :: st) := by
  refine aw_ialdT C hq hd hx hk ?_
  have e : tabS i k = q.2.getD k 0 := by simp [tabS, List.getD, hq]
  rw [← e]
  exact kk
theorem aw_ldcS (C : Cx Y K) {i idx w : Nat} (hd : decode Y.2.1 pc = .ok (.ldc idx, 2)) (hq : STR[i]? = some (Y.1.cls, idx, w)) (kk : AW Y K Rz σ (pc + 2) lv (.ref (200 + i) :: st)) : AW Y K Rz σ pc lv st := fun H locs ls hP hS hl =>
  va_ldcS C.1 C.2.1 C.2.2.2.2.1 (C.2.2.2.2.2.2.2.2.2.2.2.1 i _ hq).1 hd (kk H locs ls hP hS hl)
theorem aw_cN (C : Cx Y K) {d idx : Nat} {As rest : List Value} {x : Int32} {σ' : St} (hM : AMet (yX8_within, cX8_within, 3, some .boolean, d) As σ (fz (some (.int x)) σ')) (hm : (Y.1.cls, idx) ∈ NSM) (hd : decode Y.2.1 pc = .ok (.invokestatic idx, 3)) (hlv : d + 1 ≤ Y.lvl) (hroom : (rest.map fun v => v.category).sum ≤ 8) (hn : As.length = 3) {stk : List Value} (hst : stk = As.reverse ++ rest) (kk : AW Y K Rz σ' (pc + 3) lv (.int x :: rest)) : AW Y K Rz σ pc lv stk := aw_callN C hM hm ⟨lc_X8_within.1, lc_X8_within.2⟩ lk_X8_74.2.2 hlv hn hroom hd hst (fun w s h => by obtain ⟨rfl, rfl⟩ := h; exact kk)
end AW4
theorem w64 (x a b : Int32) {X A B : Int64} (hX : X = x.toInt64) (hA : A = a.toInt64) (hB : B = b.toInt64) : (A ≤ X ∧ X ≤ B) ↔ (a ≤ x ∧ x ≤ b) := by
  subst hX; subst hA; subst hB
  simp only [Int64.le_iff_toInt_le, Int32.le_iff_toInt_le, Int32.toInt_toInt64]
