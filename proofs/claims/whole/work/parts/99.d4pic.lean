/-! the new world -/
def m0 : Fl := fun k => if k = 0 then 25 else if k = 1 then 1 else if 255 ≤ k ∧ k < 265 then -1 else 0
def s0 : St := (fun r k => if r < 3 then m0 k else if r = 20 then m0 k else 0, fun _ _ => 0)
theorem rel0 : Rel s0 := by
  have ok0 : Ok 0 m0 := ⟨by omega, rfl, ⟨25, by omega, rfl⟩, fun y hy => ⟨0, by omega, (show ∀ y, y < 30 → m0 (3 + y) = nI 0 by decide +kernel) y hy⟩, fun r hr => by omega, fun k hk => Or.inl ((show ∀ k, k < 10 → m0 (255 + k) = -1 by decide +kernel) k hk)⟩
  refine ⟨⟨0, ok0, fun _ _ => rfl⟩, rfl, rfl, ⟨0, ok0, fun z => absurd rfl z⟩, ⟨0, by omega, rfl, rfl, fun i hi => by omega⟩, rfl, fun s hs => ⟨Or.inl rfl, 0, by omega, rfl⟩, fun s hs => ?_⟩
  rcases (show s = 0 ∨ s = 1 ∨ s = 2 ∨ s = 3 by omega) with rfl | rfl | rfl | rfl
  · exact ⟨rfl, rfl, fun k hk => rfl⟩
  · exact ⟨rfl, rfl, fun k hk => rfl⟩
  · exact ⟨rfl, rfl, fun k hk => rfl⟩
  · exact ⟨rfl, rfl, fun k hk => rfl⟩
theorem arrV_congr {c : ClassId} {n : Nat} {f f' : Nat → Value} (h : ∀ j, j < n → f j = f' j) : arrV c n f = arrV c n f' := by
  unfold arrV
  have e : (fun j : Fin n => f j.val) = fun j : Fin n => f' j.val := funext fun j => h j.val j.isLt
  rw [e]
section PW
variable {D : va_G} {cA : Nat → ClassId} {ad : Nat → Nat} {H : Heap}
theorem at_I {c r p n : Nat} {f : Nat → Int32} (h : va_at D vwCl (ad c, .inl (cA 0, n, .inl f)) H) (e : ∀ k, k < n → f k = s0.1 r (k + p)) : va_at D vwCl (ad c, entOf (D, ad, cA) s0 (.inr (.inl (r, p, n)))) H := by
  show H[ad c]? = some (vp_cell (cA 0) (n, .inl (rowI s0 r p n)))
  rw [vp_cell_i, arrV_congr (f' := fun j => .int (f j)) (fun j hj => by rw [e j hj]; unfold rowI; rw [if_pos hj])]
  exact h
theorem at_L {c r n : Nat} {f : Nat → Int64} (h : va_at D vwCl (ad c, .inl (cA 1, n, .inr (.inl f))) H) (e : ∀ k, k < n → f k = s0.2 r k) : va_at D vwCl (ad c, entOf (D, ad, cA) s0 (.inr (.inr (.inl (r, n))))) H := by
  show H[ad c]? = some (vp_cell (cA 1) (n, .inr (.inl (rowL s0 r n))))
  rw [vp_cell_l, arrV_congr (f' := fun j => .long (f j)) (fun j hj => by rw [e j hj]; unfold rowL; rw [if_pos hj])]
  exact h
theorem at_A {c t n q : Nat} {f : Nat → Option Nat} (h : va_at D vwCl (ad c, .inl (cA t, n, .inr (.inr (.inr (.inr f))))) H) (e : ∀ k, k < n → f k = some (ad (q + 2 * k))) : va_at D vwCl (ad c, entOf (D, ad, cA) s0 (.inr (.inr (.inr (t, n, q))))) H := by
  show H[ad c]? = some (vp_cell (cA t) (n, .inr (.inr (.inr (.inr (fun i => if i < n then some (ad (q + 2 * i)) else none))))))
  rw [vp_cell_q, arrV_congr (f' := fun j => va_rf (f j)) (fun j hj => by rw [e j hj, if_pos hj])]
  exact h
theorem pl {A B : va_W} (h : va_P D vwCl (A ++ B) H) : va_P D vwCl A H := fun k q hq => h k q (by rw [List.getElem?_append_left (List.getElem?_eq_some_iff.mp hq).1]; exact hq)
theorem pr {A B : va_W} (h : va_P D vwCl (A ++ B) H) : va_P D vwCl B H := fun k q hq => h (A.length + k) q (by rw [List.getElem?_append_right (Nat.le_add_right _ _), Nat.add_sub_cancel_left]; exact hq)
theorem pt {x : Nat × va_E} {A : va_W} (h : va_P D vwCl (x :: A) H) : va_P D vwCl A H := fun k q hq => h (k + 1) q hq
end PW
abbrev S3 : Type := (Nat → Nat) × (Nat → (Nat → Nat))
abbrev S8 : Type := (Nat → Nat) × (Nat → (Nat → Nat)) × (Nat → S3)
/-- the cells' addresses -/
def adL (x : Nat) (a : S8) (y : Nat) (a9 : Nat → Nat) : List Nat := [x, a.1 12, a.1 8, (a.2.1 6) 2, (a.2.1 6) 1, (a.2.1 6) 0, a.1 7, (a.2.1 5) 1, (a.2.1 5) 0, a.1 6, (a.2.1 4) 1, (a.2.1 4) 0, a.1 5, (a.2.2 0).1 0, (a.2.2 0).2 0 1, (a.2.2 0).2 0 0, a.1 4, a.1 3, a.2.1 3 0, a.1 2, a.2.1 2 0, a.1 1, a.2.1 1 0, a.1 0, a.2.1 0 0, a.1 11, (a.2.2 3).1 8, (a.2.2 3).1 7, (a.2.2 3).1 6, (a.2.2 3).1 5, (a.2.2 3).2 5 0, (a.2.2 3).1 4, (a.2.2 3).2 4 0, (a.2.2 3).1 3, (a.2.2 3).2 3 0, (a.2.2 3).1 2, (a.2.2 3).2 2 0, (a.2.2 3).1 1, (a.2.2 3).2 1 0, (a.2.2 3).1 0, (a.2.2 3).2 0 0, a.1 10, (a.2.2 2).1 8, (a.2.2 2).1 7, (a.2.2 2).1 6, (a.2.2 2).1 5, (a.2.2 2).2 5 0, (a.2.2 2).1 4, (a.2.2 2).2 4 0, (a.2.2 2).1 3, (a.2.2 2).2 3 0, (a.2.2 2).1 2, (a.2.2 2).2 2 0, (a.2.2 2).1 1, (a.2.2 2).2 1 0, (a.2.2 2).1 0, (a.2.2 2).2 0 0, a.1 9, (a.2.2 1).1 8, (a.2.2 1).1 7, (a.2.2 1).1 6, (a.2.2 1).1 5, (a.2.2 1).2 5 0, (a.2.2 1).1 4, (a.2.2 1).2 4 0, (a.2.2 1).1 3, (a.2.2 1).2 3 0, (a.2.2 1).1 2, (a.2.2 1).2 2 0, (a.2.2 1).1 1, (a.2.2 1).2 1 0, (a.2.2 1).1 0, (a.2.2 1).2 0 0, y, a9 11, a9 10, a9 9, a9 8, a9 7, a9 6, a9 5, a9 4, a9 3, a9 2, a9 1, a9 0]
def permL : List Nat := [0, 72, 20, 23, 22, 21, 17, 19, 18, 14, 16, 15, 10, 11, 13, 12, 9, 7, 8, 5, 6, 3, 4, 1, 2, 56, 71, 70, 69, 67, 68, 65, 66, 63, 64, 61, 62, 59, 60, 57, 58, 40, 55, 54, 53, 51, 52, 49, 50, 47, 48, 45, 46, 43, 44, 41, 42, 24, 39, 38, 37, 35, 36, 33, 34, 31, 32, 29, 30, 27, 28, 25, 26, 73, 85, 84, 83, 82, 81, 80, 79, 78, 77, 76, 75, 74]
/-- where things are in the new world; texts and tables by ad -/
def geo0 (D : va_G) (cA : Nat → ClassId) (ad : Nat → Nat) (x : Nat) (a : S8) (y : Nat) (a9 : Nat → Nat) : Geo := (D, fun c => if c < 86 then (adL x a y a9).getD c 0 else ad c, cA)
section PN
variable {D : va_G} {cA : Nat → ClassId} {ad : Nat → Nat} {H : Heap} {x y : Nat} {a : S8} {a9 : Nat → Nat}
abbrev ad0 (ad : Nat → Nat) (x : Nat) (a : S8) (y : Nat) (a9 : Nat → Nat) : Nat → Nat := fun c => if c < 86 then (adL x a y a9).getD c 0 else ad c
set_option maxRecDepth 100000 in
set_option maxHeartbeats 4000000 in
theorem pc_O8 (hO8 : va_P D vwCl ([(x, (.inr (8, [.ref (a.1 12), .ref (a.1 11), .ref (a.1 10), .ref (a.1 9), .ref (a.1 8), .ref (a.1 7), .ref (a.1 6), .ref (a.1 5), .ref ((a.2.2 0).1 0), .ref (a.1 4), .int 0]) : va_E))]) H) : va_at D vwCl (ad0 ad x a y a9 0, entOf (D, ad0 ad x a y a9, cA) s0 (.inl (8, [.inl 1, .inl 25, .inl 41, .inl 57, .inl 2, .inl 6, .inl 9, .inl 12, .inl 13, .inl 16, .inr (4, 0)]))) H :=
  hO8 0 (ad0 ad x a y a9 0, entOf (D, ad0 ad x a y a9, cA) s0 (.inl (8, [.inl 1, .inl 25, .inl 41, .inl 57, .inl 2, .inl 6, .inl 9, .inl 12, .inl 13, .inl 16, .inr (4, 0)]))) rfl
set_option maxRecDepth 100000 in
set_option maxHeartbeats 4000000 in
theorem pc_S3 (hS3 : va_P D vwCl (wX5 cA (a.1 0) (a.2.1 0)) H) : va_at D vwCl (ad0 ad x a y a9 23, entOf (D, ad0 ad x a y a9, cA) s0 (.inl (5, [.inl 24, .inr (17, 40), .inr (17, 41)]))) H ∧ va_at D vwCl (ad0 ad x a y a9 24, entOf (D, ad0 ad x a y a9, cA) s0 (.inr (.inl (17, 0, 40)))) H :=
  ⟨hS3 0 (ad0 ad x a y a9 23, entOf (D, ad0 ad x a y a9, cA) s0 (.inl (5, [.inl 24, .inr (17, 40), .inr (17, 41)]))) rfl,
  at_I (f := fun _ => 0) (r := 17) (p := 0) (hS3 1 (ad0 ad x a y a9 24, .inl (cA 0, 40, .inl (fun _ => 0))) rfl) (by decide +kernel)⟩
set_option maxRecDepth 100000 in
set_option maxHeartbeats 4000000 in
theorem pc_S2 (hS2 : va_P D vwCl (wX5 cA (a.1 1) (a.2.1 1)) H) : va_at D vwCl (ad0 ad x a y a9 21, entOf (D, ad0 ad x a y a9, cA) s0 (.inl (5, [.inl 22, .inr (16, 40), .inr (16, 41)]))) H ∧ va_at D vwCl (ad0 ad x a y a9 22, entOf (D, ad0 ad x a y a9, cA) s0 (.inr (.inl (16, 0, 40)))) H :=
  ⟨hS2 0 (ad0 ad x a y a9 21, entOf (D, ad0 ad x a y a9, cA) s0 (.inl (5, [.inl 22, .inr (16, 40), .inr (16, 41)]))) rfl,
  at_I (f := fun _ => 0) (r := 16) (p := 0) (hS2 1 (ad0 ad x a y a9 22, .inl (cA 0, 40, .inl (fun _ => 0))) rfl) (by decide +kernel)⟩
set_option maxRecDepth 100000 in
set_option maxHeartbeats 4000000 in
theorem pc_S1 (hS1 : va_P D vwCl (wX5 cA (a.1 2) (a.2.1 2)) H) : va_at D vwCl (ad0 ad x a y a9 19, entOf (D, ad0 ad x a y a9, cA) s0 (.inl (5, [.inl 20, .inr (15, 40), .inr (15, 41)]))) H ∧ va_at D vwCl (ad0 ad x a y a9 20, entOf (D, ad0 ad x a y a9, cA) s0 (.inr (.inl (15, 0, 40)))) H :=
  ⟨hS1 0 (ad0 ad x a y a9 19, entOf (D, ad0 ad x a y a9, cA) s0 (.inl (5, [.inl 20, .inr (15, 40), .inr (15, 41)]))) rfl,
  at_I (f := fun _ => 0) (r := 15) (p := 0) (hS1 1 (ad0 ad x a y a9 20, .inl (cA 0, 40, .inl (fun _ => 0))) rfl) (by decide +kernel)⟩
set_option maxRecDepth 100000 in
set_option maxHeartbeats 4000000 in
theorem pc_S0 (hS0 : va_P D vwCl (wX5 cA (a.1 3) (a.2.1 3)) H) : va_at D vwCl (ad0 ad x a y a9 17, entOf (D, ad0 ad x a y a9, cA) s0 (.inl (5, [.inl 18, .inr (14, 40), .inr (14, 41)]))) H ∧ va_at D vwCl (ad0 ad x a y a9 18, entOf (D, ad0 ad x a y a9, cA) s0 (.inr (.inl (14, 0, 40)))) H :=
  ⟨hS0 0 (ad0 ad x a y a9 17, entOf (D, ad0 ad x a y a9, cA) s0 (.inl (5, [.inl 18, .inr (14, 40), .inr (14, 41)]))) rfl,
  at_I (f := fun _ => 0) (r := 14) (p := 0) (hS0 1 (ad0 ad x a y a9 18, .inl (cA 0, 40, .inl (fun _ => 0))) rfl) (by decide +kernel)⟩
set_option maxRecDepth 100000 in
set_option maxHeartbeats 4000000 in
theorem pc_RD (hRD : va_P D vwCl (wX3 cA (a.1 5) (a.2.2 0)) H) : va_at D vwCl (ad0 ad x a y a9 12, entOf (D, ad0 ad x a y a9, cA) s0 (.inl (3, [.inl 13]))) H ∧ va_at D vwCl (ad0 ad x a y a9 13, entOf (D, ad0 ad x a y a9, cA) s0 (.inl (6, [.inl 14, .inl 15, .inr (13, 0), .inr (13, 1), .inr (13, 2), .inr (13, 3)]))) H ∧ va_at D vwCl (ad0 ad x a y a9 14, entOf (D, ad0 ad x a y a9, cA) s0 (.inr (.inl (11, 0, 120)))) H ∧ va_at D vwCl (ad0 ad x a y a9 15, entOf (D, ad0 ad x a y a9, cA) s0 (.inr (.inl (12, 0, 120)))) H :=
  ⟨hRD 0 (ad0 ad x a y a9 12, entOf (D, ad0 ad x a y a9, cA) s0 (.inl (3, [.inl 13]))) rfl,
  hRD 1 (ad0 ad x a y a9 13, entOf (D, ad0 ad x a y a9, cA) s0 (.inl (6, [.inl 14, .inl 15, .inr (13, 0), .inr (13, 1), .inr (13, 2), .inr (13, 3)]))) rfl,
  at_I (f := fun _ => 0) (r := 11) (p := 0) (hRD 3 (ad0 ad x a y a9 14, .inl (cA 0, 120, .inl (fun _ => 0))) rfl) (by decide +kernel),
  at_I (f := fun _ => 0) (r := 12) (p := 0) (hRD 2 (ad0 ad x a y a9 15, .inl (cA 0, 120, .inl (fun _ => 0))) rfl) (by decide +kernel)⟩
set_option maxRecDepth 100000 in
set_option maxHeartbeats 4000000 in
theorem pc_TM (hTM : va_P D vwCl (wX7 cA (a.1 6) (a.2.1 4)) H) : va_at D vwCl (ad0 ad x a y a9 9, entOf (D, ad0 ad x a y a9, cA) s0 (.inl (7, [.inl 10, .inl 11, .inr (10, 0)]))) H ∧ va_at D vwCl (ad0 ad x a y a9 10, entOf (D, ad0 ad x a y a9, cA) s0 (.inr (.inl (8, 0, 3)))) H ∧ va_at D vwCl (ad0 ad x a y a9 11, entOf (D, ad0 ad x a y a9, cA) s0 (.inr (.inl (9, 0, 18)))) H :=
  ⟨hTM 0 (ad0 ad x a y a9 9, entOf (D, ad0 ad x a y a9, cA) s0 (.inl (7, [.inl 10, .inl 11, .inr (10, 0)]))) rfl,
  at_I (f := fun _ => 0) (r := 8) (p := 0) (hTM 2 (ad0 ad x a y a9 10, .inl (cA 0, 3, .inl (fun _ => 0))) rfl) (by decide +kernel),
  at_I (f := fun _ => 0) (r := 9) (p := 0) (hTM 1 (ad0 ad x a y a9 11, .inl (cA 0, 18, .inl (fun _ => 0))) rfl) (by decide +kernel)⟩
set_option maxRecDepth 100000 in
set_option maxHeartbeats 4000000 in
theorem pc_CH (hCH : va_P D vwCl (wX0 cA (a.1 7) (a.2.1 5)) H) : va_at D vwCl (ad0 ad x a y a9 6, entOf (D, ad0 ad x a y a9, cA) s0 (.inl (0, [.inl 7, .inl 8]))) H ∧ va_at D vwCl (ad0 ad x a y a9 7, entOf (D, ad0 ad x a y a9, cA) s0 (.inr (.inr (.inl (0, 44))))) H ∧ va_at D vwCl (ad0 ad x a y a9 8, entOf (D, ad0 ad x a y a9, cA) s0 (.inr (.inr (.inl (1, 44))))) H :=
  ⟨hCH 0 (ad0 ad x a y a9 6, entOf (D, ad0 ad x a y a9, cA) s0 (.inl (0, [.inl 7, .inl 8]))) rfl,
  at_L (f := fun _ => 0) (r := 0) (hCH 2 (ad0 ad x a y a9 7, .inl (cA 1, 44, .inr (.inl (fun _ => 0)))) rfl) (fun _ _ => rfl),
  at_L (f := fun _ => 0) (r := 1) (hCH 1 (ad0 ad x a y a9 8, .inl (cA 1, 44, .inr (.inl (fun _ => 0)))) rfl) (fun _ _ => rfl)⟩
set_option maxRecDepth 100000 in
set_option maxHeartbeats 4000000 in
theorem pc_MN (hMN : va_P D vwCl (wX1 cA (a.1 8) (a.2.1 6)) H) : va_at D vwCl (ad0 ad x a y a9 2, entOf (D, ad0 ad x a y a9, cA) s0 (.inl (1, [.inl 3, .inl 4, .inl 5]))) H ∧ va_at D vwCl (ad0 ad x a y a9 3, entOf (D, ad0 ad x a y a9, cA) s0 (.inr (.inl (5, 0, 4)))) H ∧ va_at D vwCl (ad0 ad x a y a9 4, entOf (D, ad0 ad x a y a9, cA) s0 (.inr (.inl (6, 0, 4)))) H ∧ va_at D vwCl (ad0 ad x a y a9 5, entOf (D, ad0 ad x a y a9, cA) s0 (.inr (.inl (7, 0, 120)))) H :=
  ⟨hMN 0 (ad0 ad x a y a9 2, entOf (D, ad0 ad x a y a9, cA) s0 (.inl (1, [.inl 3, .inl 4, .inl 5]))) rfl,
  at_I (f := fun _ => 0) (r := 5) (p := 0) (hMN 3 (ad0 ad x a y a9 3, .inl (cA 0, 4, .inl (fun _ => 0))) rfl) (by decide +kernel),
  at_I (f := fun _ => 0) (r := 6) (p := 0) (hMN 2 (ad0 ad x a y a9 4, .inl (cA 0, 4, .inl (fun _ => 0))) rfl) (by decide +kernel),
  at_I (f := fun _ => 0) (r := 7) (p := 0) (hMN 1 (ad0 ad x a y a9 5, .inl (cA 0, 120, .inl (fun _ => 0))) rfl) (by decide +kernel)⟩
set_option maxRecDepth 100000 in
set_option maxHeartbeats 4000000 in
theorem pc_M2 (hM2 : va_P D vwCl (wX2 cA (a.1 9) (a.2.2 1)) H) : va_at D vwCl (ad0 ad x a y a9 57, entOf (D, ad0 ad x a y a9, cA) s0 (.inl (2, [.inl 58, .inl 59, .inl 60, .inr (2, 2), .inr (2, 0), .inr (2, 1)]))) H ∧ va_at D vwCl (ad0 ad x a y a9 58, entOf (D, ad0 ad x a y a9, cA) s0 (.inr (.inl (2, 3, 30)))) H ∧ va_at D vwCl (ad0 ad x a y a9 59, entOf (D, ad0 ad x a y a9, cA) s0 (.inr (.inr (.inr (2, 6, 61))))) H ∧ va_at D vwCl (ad0 ad x a y a9 60, entOf (D, ad0 ad x a y a9, cA) s0 (.inr (.inl (2, 255, 10)))) H ∧ va_at D vwCl (ad0 ad x a y a9 61, entOf (D, ad0 ad x a y a9, cA) s0 (.inl (4, [.inl 62, .inr (2, 33), .inr (2, 34), .inr (2, 35), .inr (2, 36), .inr (2, 37), .inr (2, 38), .inr (2, 39)]))) H ∧ va_at D vwCl (ad0 ad x a y a9 62, entOf (D, ad0 ad x a y a9, cA) s0 (.inr (.inl (2, 40, 30)))) H ∧ va_at D vwCl (ad0 ad x a y a9 63, entOf (D, ad0 ad x a y a9, cA) s0 (.inl (4, [.inl 64, .inr (2, 70), .inr (2, 71), .inr (2, 72), .inr (2, 73), .inr (2, 74), .inr (2, 75), .inr (2, 76)]))) H ∧ va_at D vwCl (ad0 ad x a y a9 64, entOf (D, ad0 ad x a y a9, cA) s0 (.inr (.inl (2, 77, 30)))) H ∧ va_at D vwCl (ad0 ad x a y a9 65, entOf (D, ad0 ad x a y a9, cA) s0 (.inl (4, [.inl 66, .inr (2, 107), .inr (2, 108), .inr (2, 109), .inr (2, 110), .inr (2, 111), .inr (2, 112), .inr (2, 113)]))) H ∧ va_at D vwCl (ad0 ad x a y a9 66, entOf (D, ad0 ad x a y a9, cA) s0 (.inr (.inl (2, 114, 30)))) H ∧ va_at D vwCl (ad0 ad x a y a9 67, entOf (D, ad0 ad x a y a9, cA) s0 (.inl (4, [.inl 68, .inr (2, 144), .inr (2, 145), .inr (2, 146), .inr (2, 147), .inr (2, 148), .inr (2, 149), .inr (2, 150)]))) H ∧ va_at D vwCl (ad0 ad x a y a9 68, entOf (D, ad0 ad x a y a9, cA) s0 (.inr (.inl (2, 151, 30)))) H ∧ va_at D vwCl (ad0 ad x a y a9 69, entOf (D, ad0 ad x a y a9, cA) s0 (.inl (4, [.inl 70, .inr (2, 181), .inr (2, 182), .inr (2, 183), .inr (2, 184), .inr (2, 185), .inr (2, 186), .inr (2, 187)]))) H ∧ va_at D vwCl (ad0 ad x a y a9 70, entOf (D, ad0 ad x a y a9, cA) s0 (.inr (.inl (2, 188, 30)))) H ∧ va_at D vwCl (ad0 ad x a y a9 71, entOf (D, ad0 ad x a y a9, cA) s0 (.inl (4, [.inl 72, .inr (2, 218), .inr (2, 219), .inr (2, 220), .inr (2, 221), .inr (2, 222), .inr (2, 223), .inr (2, 224)]))) H ∧ va_at D vwCl (ad0 ad x a y a9 72, entOf (D, ad0 ad x a y a9, cA) s0 (.inr (.inl (2, 225, 30)))) H :=
  ⟨hM2 0 (ad0 ad x a y a9 57, entOf (D, ad0 ad x a y a9, cA) s0 (.inl (2, [.inl 58, .inl 59, .inl 60, .inr (2, 2), .inr (2, 0), .inr (2, 1)]))) rfl,
  at_I (f := fun _ => 0) (r := 2) (p := 3) (hM2 15 (ad0 ad x a y a9 58, .inl (cA 0, 30, .inl (fun _ => 0))) rfl) (by decide +kernel),
  at_A (f := va_up (va_up (va_up (va_up (va_up (va_up (fun _ => none) 0 (some ((a.2.2 1).1 5))) 1 (some ((a.2.2 1).1 4))) 2 (some ((a.2.2 1).1 3))) 3 (some ((a.2.2 1).1 2))) 4 (some ((a.2.2 1).1 1))) 5 (some ((a.2.2 1).1 0))) (t := 2) (q := 61) (hM2 14 (ad0 ad x a y a9 59, .inl (cA 2, 6, .inr (.inr (.inr (.inr (va_up (va_up (va_up (va_up (va_up (va_up (fun _ => none) 0 (some ((a.2.2 1).1 5))) 1 (some ((a.2.2 1).1 4))) 2 (some ((a.2.2 1).1 3))) 3 (some ((a.2.2 1).1 2))) 4 (some ((a.2.2 1).1 1))) 5 (some ((a.2.2 1).1 0)))))))) rfl) (fun k hk => match k, hk with | 0, _ => rfl | 1, _ => rfl | 2, _ => rfl | 3, _ => rfl | 4, _ => rfl | 5, _ => rfl | k + 6, h => absurd h (by omega)),
  at_I (f := filK (fun _ => 0) 0 (-1) 10) (r := 2) (p := 255) (hM2 13 (ad0 ad x a y a9 60, .inl (cA 0, 10, .inl (filK (fun _ => 0) 0 (-1) 10))) rfl) (by decide +kernel),
  hM2 11 (ad0 ad x a y a9 61, entOf (D, ad0 ad x a y a9, cA) s0 (.inl (4, [.inl 62, .inr (2, 33), .inr (2, 34), .inr (2, 35), .inr (2, 36), .inr (2, 37), .inr (2, 38), .inr (2, 39)]))) rfl,
  at_I (f := fun _ => 0) (r := 2) (p := 40) (hM2 12 (ad0 ad x a y a9 62, .inl (cA 0, 30, .inl (fun _ => 0))) rfl) (by decide +kernel),
  hM2 9 (ad0 ad x a y a9 63, entOf (D, ad0 ad x a y a9, cA) s0 (.inl (4, [.inl 64, .inr (2, 70), .inr (2, 71), .inr (2, 72), .inr (2, 73), .inr (2, 74), .inr (2, 75), .inr (2, 76)]))) rfl,
  at_I (f := fun _ => 0) (r := 2) (p := 77) (hM2 10 (ad0 ad x a y a9 64, .inl (cA 0, 30, .inl (fun _ => 0))) rfl) (by decide +kernel),
  hM2 7 (ad0 ad x a y a9 65, entOf (D, ad0 ad x a y a9, cA) s0 (.inl (4, [.inl 66, .inr (2, 107), .inr (2, 108), .inr (2, 109), .inr (2, 110), .inr (2, 111), .inr (2, 112), .inr (2, 113)]))) rfl,
  at_I (f := fun _ => 0) (r := 2) (p := 114) (hM2 8 (ad0 ad x a y a9 66, .inl (cA 0, 30, .inl (fun _ => 0))) rfl) (by decide +kernel),
  hM2 5 (ad0 ad x a y a9 67, entOf (D, ad0 ad x a y a9, cA) s0 (.inl (4, [.inl 68, .inr (2, 144), .inr (2, 145), .inr (2, 146), .inr (2, 147), .inr (2, 148), .inr (2, 149), .inr (2, 150)]))) rfl,
  at_I (f := fun _ => 0) (r := 2) (p := 151) (hM2 6 (ad0 ad x a y a9 68, .inl (cA 0, 30, .inl (fun _ => 0))) rfl) (by decide +kernel),
  hM2 3 (ad0 ad x a y a9 69, entOf (D, ad0 ad x a y a9, cA) s0 (.inl (4, [.inl 70, .inr (2, 181), .inr (2, 182), .inr (2, 183), .inr (2, 184), .inr (2, 185), .inr (2, 186), .inr (2, 187)]))) rfl,
  at_I (f := fun _ => 0) (r := 2) (p := 188) (hM2 4 (ad0 ad x a y a9 70, .inl (cA 0, 30, .inl (fun _ => 0))) rfl) (by decide +kernel),
  hM2 1 (ad0 ad x a y a9 71, entOf (D, ad0 ad x a y a9, cA) s0 (.inl (4, [.inl 72, .inr (2, 218), .inr (2, 219), .inr (2, 220), .inr (2, 221), .inr (2, 222), .inr (2, 223), .inr (2, 224)]))) rfl,
  at_I (f := fun _ => 0) (r := 2) (p := 225) (hM2 2 (ad0 ad x a y a9 72, .inl (cA 0, 30, .inl (fun _ => 0))) rfl) (by decide +kernel)⟩
set_option maxRecDepth 100000 in
set_option maxHeartbeats 4000000 in
theorem pc_M1 (hM1 : va_P D vwCl (wX2 cA (a.1 10) (a.2.2 2)) H) : va_at D vwCl (ad0 ad x a y a9 41, entOf (D, ad0 ad x a y a9, cA) s0 (.inl (2, [.inl 42, .inl 43, .inl 44, .inr (1, 2), .inr (1, 0), .inr (1, 1)]))) H ∧ va_at D vwCl (ad0 ad x a y a9 42, entOf (D, ad0 ad x a y a9, cA) s0 (.inr (.inl (1, 3, 30)))) H ∧ va_at D vwCl (ad0 ad x a y a9 43, entOf (D, ad0 ad x a y a9, cA) s0 (.inr (.inr (.inr (2, 6, 45))))) H ∧ va_at D vwCl (ad0 ad x a y a9 44, entOf (D, ad0 ad x a y a9, cA) s0 (.inr (.inl (1, 255, 10)))) H ∧ va_at D vwCl (ad0 ad x a y a9 45, entOf (D, ad0 ad x a y a9, cA) s0 (.inl (4, [.inl 46, .inr (1, 33), .inr (1, 34), .inr (1, 35), .inr (1, 36), .inr (1, 37), .inr (1, 38), .inr (1, 39)]))) H ∧ va_at D vwCl (ad0 ad x a y a9 46, entOf (D, ad0 ad x a y a9, cA) s0 (.inr (.inl (1, 40, 30)))) H ∧ va_at D vwCl (ad0 ad x a y a9 47, entOf (D, ad0 ad x a y a9, cA) s0 (.inl (4, [.inl 48, .inr (1, 70), .inr (1, 71), .inr (1, 72), .inr (1, 73), .inr (1, 74), .inr (1, 75), .inr (1, 76)]))) H ∧ va_at D vwCl (ad0 ad x a y a9 48, entOf (D, ad0 ad x a y a9, cA) s0 (.inr (.inl (1, 77, 30)))) H ∧ va_at D vwCl (ad0 ad x a y a9 49, entOf (D, ad0 ad x a y a9, cA) s0 (.inl (4, [.inl 50, .inr (1, 107), .inr (1, 108), .inr (1, 109), .inr (1, 110), .inr (1, 111), .inr (1, 112), .inr (1, 113)]))) H ∧ va_at D vwCl (ad0 ad x a y a9 50, entOf (D, ad0 ad x a y a9, cA) s0 (.inr (.inl (1, 114, 30)))) H ∧ va_at D vwCl (ad0 ad x a y a9 51, entOf (D, ad0 ad x a y a9, cA) s0 (.inl (4, [.inl 52, .inr (1, 144), .inr (1, 145), .inr (1, 146), .inr (1, 147), .inr (1, 148), .inr (1, 149), .inr (1, 150)]))) H ∧ va_at D vwCl (ad0 ad x a y a9 52, entOf (D, ad0 ad x a y a9, cA) s0 (.inr (.inl (1, 151, 30)))) H ∧ va_at D vwCl (ad0 ad x a y a9 53, entOf (D, ad0 ad x a y a9, cA) s0 (.inl (4, [.inl 54, .inr (1, 181), .inr (1, 182), .inr (1, 183), .inr (1, 184), .inr (1, 185), .inr (1, 186), .inr (1, 187)]))) H ∧ va_at D vwCl (ad0 ad x a y a9 54, entOf (D, ad0 ad x a y a9, cA) s0 (.inr (.inl (1, 188, 30)))) H ∧ va_at D vwCl (ad0 ad x a y a9 55, entOf (D, ad0 ad x a y a9, cA) s0 (.inl (4, [.inl 56, .inr (1, 218), .inr (1, 219), .inr (1, 220), .inr (1, 221), .inr (1, 222), .inr (1, 223), .inr (1, 224)]))) H ∧ va_at D vwCl (ad0 ad x a y a9 56, entOf (D, ad0 ad x a y a9, cA) s0 (.inr (.inl (1, 225, 30)))) H :=
  ⟨hM1 0 (ad0 ad x a y a9 41, entOf (D, ad0 ad x a y a9, cA) s0 (.inl (2, [.inl 42, .inl 43, .inl 44, .inr (1, 2), .inr (1, 0), .inr (1, 1)]))) rfl,
  at_I (f := fun _ => 0) (r := 1) (p := 3) (hM1 15 (ad0 ad x a y a9 42, .inl (cA 0, 30, .inl (fun _ => 0))) rfl) (by decide +kernel),
  at_A (f := va_up (va_up (va_up (va_up (va_up (va_up (fun _ => none) 0 (some ((a.2.2 2).1 5))) 1 (some ((a.2.2 2).1 4))) 2 (some ((a.2.2 2).1 3))) 3 (some ((a.2.2 2).1 2))) 4 (some ((a.2.2 2).1 1))) 5 (some ((a.2.2 2).1 0))) (t := 2) (q := 45) (hM1 14 (ad0 ad x a y a9 43, .inl (cA 2, 6, .inr (.inr (.inr (.inr (va_up (va_up (va_up (va_up (va_up (va_up (fun _ => none) 0 (some ((a.2.2 2).1 5))) 1 (some ((a.2.2 2).1 4))) 2 (some ((a.2.2 2).1 3))) 3 (some ((a.2.2 2).1 2))) 4 (some ((a.2.2 2).1 1))) 5 (some ((a.2.2 2).1 0)))))))) rfl) (fun k hk => match k, hk with | 0, _ => rfl | 1, _ => rfl | 2, _ => rfl | 3, _ => rfl | 4, _ => rfl | 5, _ => rfl | k + 6, h => absurd h (by omega)),
  at_I (f := filK (fun _ => 0) 0 (-1) 10) (r := 1) (p := 255) (hM1 13 (ad0 ad x a y a9 44, .inl (cA 0, 10, .inl (filK (fun _ => 0) 0 (-1) 10))) rfl) (by decide +kernel),
  hM1 11 (ad0 ad x a y a9 45, entOf (D, ad0 ad x a y a9, cA) s0 (.inl (4, [.inl 46, .inr (1, 33), .inr (1, 34), .inr (1, 35), .inr (1, 36), .inr (1, 37), .inr (1, 38), .inr (1, 39)]))) rfl,
  at_I (f := fun _ => 0) (r := 1) (p := 40) (hM1 12 (ad0 ad x a y a9 46, .inl (cA 0, 30, .inl (fun _ => 0))) rfl) (by decide +kernel),
  hM1 9 (ad0 ad x a y a9 47, entOf (D, ad0 ad x a y a9, cA) s0 (.inl (4, [.inl 48, .inr (1, 70), .inr (1, 71), .inr (1, 72), .inr (1, 73), .inr (1, 74), .inr (1, 75), .inr (1, 76)]))) rfl,
  at_I (f := fun _ => 0) (r := 1) (p := 77) (hM1 10 (ad0 ad x a y a9 48, .inl (cA 0, 30, .inl (fun _ => 0))) rfl) (by decide +kernel),
  hM1 7 (ad0 ad x a y a9 49, entOf (D, ad0 ad x a y a9, cA) s0 (.inl (4, [.inl 50, .inr (1, 107), .inr (1, 108), .inr (1, 109), .inr (1, 110), .inr (1, 111), .inr (1, 112), .inr (1, 113)]))) rfl,
  at_I (f := fun _ => 0) (r := 1) (p := 114) (hM1 8 (ad0 ad x a y a9 50, .inl (cA 0, 30, .inl (fun _ => 0))) rfl) (by decide +kernel),
  hM1 5 (ad0 ad x a y a9 51, entOf (D, ad0 ad x a y a9, cA) s0 (.inl (4, [.inl 52, .inr (1, 144), .inr (1, 145), .inr (1, 146), .inr (1, 147), .inr (1, 148), .inr (1, 149), .inr (1, 150)]))) rfl,
  at_I (f := fun _ => 0) (r := 1) (p := 151) (hM1 6 (ad0 ad x a y a9 52, .inl (cA 0, 30, .inl (fun _ => 0))) rfl) (by decide +kernel),
  hM1 3 (ad0 ad x a y a9 53, entOf (D, ad0 ad x a y a9, cA) s0 (.inl (4, [.inl 54, .inr (1, 181), .inr (1, 182), .inr (1, 183), .inr (1, 184), .inr (1, 185), .inr (1, 186), .inr (1, 187)]))) rfl,
  at_I (f := fun _ => 0) (r := 1) (p := 188) (hM1 4 (ad0 ad x a y a9 54, .inl (cA 0, 30, .inl (fun _ => 0))) rfl) (by decide +kernel),
  hM1 1 (ad0 ad x a y a9 55, entOf (D, ad0 ad x a y a9, cA) s0 (.inl (4, [.inl 56, .inr (1, 218), .inr (1, 219), .inr (1, 220), .inr (1, 221), .inr (1, 222), .inr (1, 223), .inr (1, 224)]))) rfl,
  at_I (f := fun _ => 0) (r := 1) (p := 225) (hM1 2 (ad0 ad x a y a9 56, .inl (cA 0, 30, .inl (fun _ => 0))) rfl) (by decide +kernel)⟩
set_option maxRecDepth 100000 in
set_option maxHeartbeats 4000000 in
theorem pc_M0 (hM0 : va_P D vwCl (wX2 cA (a.1 11) (a.2.2 3)) H) : va_at D vwCl (ad0 ad x a y a9 25, entOf (D, ad0 ad x a y a9, cA) s0 (.inl (2, [.inl 26, .inl 27, .inl 28, .inr (0, 2), .inr (0, 0), .inr (0, 1)]))) H ∧ va_at D vwCl (ad0 ad x a y a9 26, entOf (D, ad0 ad x a y a9, cA) s0 (.inr (.inl (0, 3, 30)))) H ∧ va_at D vwCl (ad0 ad x a y a9 27, entOf (D, ad0 ad x a y a9, cA) s0 (.inr (.inr (.inr (2, 6, 29))))) H ∧ va_at D vwCl (ad0 ad x a y a9 28, entOf (D, ad0 ad x a y a9, cA) s0 (.inr (.inl (0, 255, 10)))) H ∧ va_at D vwCl (ad0 ad x a y a9 29, entOf (D, ad0 ad x a y a9, cA) s0 (.inl (4, [.inl 30, .inr (0, 33), .inr (0, 34), .inr (0, 35), .inr (0, 36), .inr (0, 37), .inr (0, 38), .inr (0, 39)]))) H ∧ va_at D vwCl (ad0 ad x a y a9 30, entOf (D, ad0 ad x a y a9, cA) s0 (.inr (.inl (0, 40, 30)))) H ∧ va_at D vwCl (ad0 ad x a y a9 31, entOf (D, ad0 ad x a y a9, cA) s0 (.inl (4, [.inl 32, .inr (0, 70), .inr (0, 71), .inr (0, 72), .inr (0, 73), .inr (0, 74), .inr (0, 75), .inr (0, 76)]))) H ∧ va_at D vwCl (ad0 ad x a y a9 32, entOf (D, ad0 ad x a y a9, cA) s0 (.inr (.inl (0, 77, 30)))) H ∧ va_at D vwCl (ad0 ad x a y a9 33, entOf (D, ad0 ad x a y a9, cA) s0 (.inl (4, [.inl 34, .inr (0, 107), .inr (0, 108), .inr (0, 109), .inr (0, 110), .inr (0, 111), .inr (0, 112), .inr (0, 113)]))) H ∧ va_at D vwCl (ad0 ad x a y a9 34, entOf (D, ad0 ad x a y a9, cA) s0 (.inr (.inl (0, 114, 30)))) H ∧ va_at D vwCl (ad0 ad x a y a9 35, entOf (D, ad0 ad x a y a9, cA) s0 (.inl (4, [.inl 36, .inr (0, 144), .inr (0, 145), .inr (0, 146), .inr (0, 147), .inr (0, 148), .inr (0, 149), .inr (0, 150)]))) H ∧ va_at D vwCl (ad0 ad x a y a9 36, entOf (D, ad0 ad x a y a9, cA) s0 (.inr (.inl (0, 151, 30)))) H ∧ va_at D vwCl (ad0 ad x a y a9 37, entOf (D, ad0 ad x a y a9, cA) s0 (.inl (4, [.inl 38, .inr (0, 181), .inr (0, 182), .inr (0, 183), .inr (0, 184), .inr (0, 185), .inr (0, 186), .inr (0, 187)]))) H ∧ va_at D vwCl (ad0 ad x a y a9 38, entOf (D, ad0 ad x a y a9, cA) s0 (.inr (.inl (0, 188, 30)))) H ∧ va_at D vwCl (ad0 ad x a y a9 39, entOf (D, ad0 ad x a y a9, cA) s0 (.inl (4, [.inl 40, .inr (0, 218), .inr (0, 219), .inr (0, 220), .inr (0, 221), .inr (0, 222), .inr (0, 223), .inr (0, 224)]))) H ∧ va_at D vwCl (ad0 ad x a y a9 40, entOf (D, ad0 ad x a y a9, cA) s0 (.inr (.inl (0, 225, 30)))) H :=
  ⟨hM0 0 (ad0 ad x a y a9 25, entOf (D, ad0 ad x a y a9, cA) s0 (.inl (2, [.inl 26, .inl 27, .inl 28, .inr (0, 2), .inr (0, 0), .inr (0, 1)]))) rfl,
  at_I (f := fun _ => 0) (r := 0) (p := 3) (hM0 15 (ad0 ad x a y a9 26, .inl (cA 0, 30, .inl (fun _ => 0))) rfl) (by decide +kernel),
  at_A (f := va_up (va_up (va_up (va_up (va_up (va_up (fun _ => none) 0 (some ((a.2.2 3).1 5))) 1 (some ((a.2.2 3).1 4))) 2 (some ((a.2.2 3).1 3))) 3 (some ((a.2.2 3).1 2))) 4 (some ((a.2.2 3).1 1))) 5 (some ((a.2.2 3).1 0))) (t := 2) (q := 29) (hM0 14 (ad0 ad x a y a9 27, .inl (cA 2, 6, .inr (.inr (.inr (.inr (va_up (va_up (va_up (va_up (va_up (va_up (fun _ => none) 0 (some ((a.2.2 3).1 5))) 1 (some ((a.2.2 3).1 4))) 2 (some ((a.2.2 3).1 3))) 3 (some ((a.2.2 3).1 2))) 4 (some ((a.2.2 3).1 1))) 5 (some ((a.2.2 3).1 0)))))))) rfl) (fun k hk => match k, hk with | 0, _ => rfl | 1, _ => rfl | 2, _ => rfl | 3, _ => rfl | 4, _ => rfl | 5, _ => rfl | k + 6, h => absurd h (by omega)),
  at_I (f := filK (fun _ => 0) 0 (-1) 10) (r := 0) (p := 255) (hM0 13 (ad0 ad x a y a9 28, .inl (cA 0, 10, .inl (filK (fun _ => 0) 0 (-1) 10))) rfl) (by decide +kernel),
  hM0 11 (ad0 ad x a y a9 29, entOf (D, ad0 ad x a y a9, cA) s0 (.inl (4, [.inl 30, .inr (0, 33), .inr (0, 34), .inr (0, 35), .inr (0, 36), .inr (0, 37), .inr (0, 38), .inr (0, 39)]))) rfl,
  at_I (f := fun _ => 0) (r := 0) (p := 40) (hM0 12 (ad0 ad x a y a9 30, .inl (cA 0, 30, .inl (fun _ => 0))) rfl) (by decide +kernel),
  hM0 9 (ad0 ad x a y a9 31, entOf (D, ad0 ad x a y a9, cA) s0 (.inl (4, [.inl 32, .inr (0, 70), .inr (0, 71), .inr (0, 72), .inr (0, 73), .inr (0, 74), .inr (0, 75), .inr (0, 76)]))) rfl,
  at_I (f := fun _ => 0) (r := 0) (p := 77) (hM0 10 (ad0 ad x a y a9 32, .inl (cA 0, 30, .inl (fun _ => 0))) rfl) (by decide +kernel),
  hM0 7 (ad0 ad x a y a9 33, entOf (D, ad0 ad x a y a9, cA) s0 (.inl (4, [.inl 34, .inr (0, 107), .inr (0, 108), .inr (0, 109), .inr (0, 110), .inr (0, 111), .inr (0, 112), .inr (0, 113)]))) rfl,
  at_I (f := fun _ => 0) (r := 0) (p := 114) (hM0 8 (ad0 ad x a y a9 34, .inl (cA 0, 30, .inl (fun _ => 0))) rfl) (by decide +kernel),
  hM0 5 (ad0 ad x a y a9 35, entOf (D, ad0 ad x a y a9, cA) s0 (.inl (4, [.inl 36, .inr (0, 144), .inr (0, 145), .inr (0, 146), .inr (0, 147), .inr (0, 148), .inr (0, 149), .inr (0, 150)]))) rfl,
  at_I (f := fun _ => 0) (r := 0) (p := 151) (hM0 6 (ad0 ad x a y a9 36, .inl (cA 0, 30, .inl (fun _ => 0))) rfl) (by decide +kernel),
  hM0 3 (ad0 ad x a y a9 37, entOf (D, ad0 ad x a y a9, cA) s0 (.inl (4, [.inl 38, .inr (0, 181), .inr (0, 182), .inr (0, 183), .inr (0, 184), .inr (0, 185), .inr (0, 186), .inr (0, 187)]))) rfl,
  at_I (f := fun _ => 0) (r := 0) (p := 188) (hM0 4 (ad0 ad x a y a9 38, .inl (cA 0, 30, .inl (fun _ => 0))) rfl) (by decide +kernel),
  hM0 1 (ad0 ad x a y a9 39, entOf (D, ad0 ad x a y a9, cA) s0 (.inl (4, [.inl 40, .inr (0, 218), .inr (0, 219), .inr (0, 220), .inr (0, 221), .inr (0, 222), .inr (0, 223), .inr (0, 224)]))) rfl,
  at_I (f := fun _ => 0) (r := 0) (p := 225) (hM0 2 (ad0 ad x a y a9 40, .inl (cA 0, 30, .inl (fun _ => 0))) rfl) (by decide +kernel)⟩
set_option maxRecDepth 100000 in
set_option maxHeartbeats 4000000 in
theorem pc_X9 (hX9 : va_P D vwCl (wX9 cA y a9) H) : va_at D vwCl (ad0 ad x a y a9 73, entOf (D, ad0 ad x a y a9, cA) s0 (.inl (9, [.inl 74, .inl 75, .inl 76, .inr (23, 0), .inl 77, .inl 78, .inl 79, .inl 80, .inl 81, .inl 82, .inr (23, 1), .inr (23, 2), .inr (23, 3), .inr (23, 4), .inr (23, 5), .inr (23, 6), .inl 83, .inl 84, .inl 85]))) H ∧ va_at D vwCl (ad0 ad x a y a9 74, entOf (D, ad0 ad x a y a9, cA) s0 (.inr (.inl (20, 0, 265)))) H ∧ va_at D vwCl (ad0 ad x a y a9 75, entOf (D, ad0 ad x a y a9, cA) s0 (.inr (.inl (21, 0, 265)))) H ∧ va_at D vwCl (ad0 ad x a y a9 76, entOf (D, ad0 ad x a y a9, cA) s0 (.inr (.inl (22, 0, 265)))) H ∧ va_at D vwCl (ad0 ad x a y a9 77, entOf (D, ad0 ad x a y a9, cA) s0 (.inr (.inl (24, 0, 7)))) H ∧ va_at D vwCl (ad0 ad x a y a9 78, entOf (D, ad0 ad x a y a9, cA) s0 (.inr (.inl (25, 0, 124)))) H ∧ va_at D vwCl (ad0 ad x a y a9 79, entOf (D, ad0 ad x a y a9, cA) s0 (.inr (.inl (26, 0, 120)))) H ∧ va_at D vwCl (ad0 ad x a y a9 80, entOf (D, ad0 ad x a y a9, cA) s0 (.inr (.inl (27, 0, 18)))) H ∧ va_at D vwCl (ad0 ad x a y a9 81, entOf (D, ad0 ad x a y a9, cA) s0 (.inr (.inl (28, 0, 3)))) H ∧ va_at D vwCl (ad0 ad x a y a9 82, entOf (D, ad0 ad x a y a9, cA) s0 (.inr (.inl (29, 0, 120)))) H ∧ va_at D vwCl (ad0 ad x a y a9 83, entOf (D, ad0 ad x a y a9, cA) s0 (.inr (.inl (30, 0, 4)))) H ∧ va_at D vwCl (ad0 ad x a y a9 84, entOf (D, ad0 ad x a y a9, cA) s0 (.inr (.inl (31, 0, 4)))) H ∧ va_at D vwCl (ad0 ad x a y a9 85, entOf (D, ad0 ad x a y a9, cA) s0 (.inr (.inl (32, 0, 160)))) H :=
  ⟨hX9 0 (ad0 ad x a y a9 73, entOf (D, ad0 ad x a y a9, cA) s0 (.inl (9, [.inl 74, .inl 75, .inl 76, .inr (23, 0), .inl 77, .inl 78, .inl 79, .inl 80, .inl 81, .inl 82, .inr (23, 1), .inr (23, 2), .inr (23, 3), .inr (23, 4), .inr (23, 5), .inr (23, 6), .inl 83, .inl 84, .inl 85]))) rfl,
  at_I (f := upd (upd (upd (upd (upd (upd (upd (upd (upd (upd (upd (upd (fun _ => 0) 0 25) 1 1) 255 (-1)) 256 (-1)) 257 (-1)) 258 (-1)) 259 (-1)) 260 (-1)) 261 (-1)) 262 (-1)) 263 (-1)) 264 (-1)) (r := 20) (p := 0) (hX9 12 (ad0 ad x a y a9 74, .inl (cA 0, 265, .inl (upd (upd (upd (upd (upd (upd (upd (upd (upd (upd (upd (upd (fun _ => 0) 0 25) 1 1) 255 (-1)) 256 (-1)) 257 (-1)) 258 (-1)) 259 (-1)) 260 (-1)) 261 (-1)) 262 (-1)) 263 (-1)) 264 (-1)))) rfl) (by decide +kernel),
  at_I (f := fun _ => 0) (r := 21) (p := 0) (hX9 11 (ad0 ad x a y a9 75, .inl (cA 0, 265, .inl (fun _ => 0))) rfl) (by decide +kernel),
  at_I (f := fun _ => 0) (r := 22) (p := 0) (hX9 10 (ad0 ad x a y a9 76, .inl (cA 0, 265, .inl (fun _ => 0))) rfl) (by decide +kernel),
  at_I (f := fun _ => 0) (r := 24) (p := 0) (hX9 9 (ad0 ad x a y a9 77, .inl (cA 0, 7, .inl (fun _ => 0))) rfl) (by decide +kernel),
  at_I (f := fun _ => 0) (r := 25) (p := 0) (hX9 8 (ad0 ad x a y a9 78, .inl (cA 0, 124, .inl (fun _ => 0))) rfl) (by decide +kernel),
  at_I (f := fun _ => 0) (r := 26) (p := 0) (hX9 7 (ad0 ad x a y a9 79, .inl (cA 0, 120, .inl (fun _ => 0))) rfl) (by decide +kernel),
  at_I (f := fun _ => 0) (r := 27) (p := 0) (hX9 6 (ad0 ad x a y a9 80, .inl (cA 0, 18, .inl (fun _ => 0))) rfl) (by decide +kernel),
  at_I (f := fun _ => 0) (r := 28) (p := 0) (hX9 5 (ad0 ad x a y a9 81, .inl (cA 0, 3, .inl (fun _ => 0))) rfl) (by decide +kernel),
  at_I (f := fun _ => 0) (r := 29) (p := 0) (hX9 4 (ad0 ad x a y a9 82, .inl (cA 0, 120, .inl (fun _ => 0))) rfl) (by decide +kernel),
  at_I (f := fun _ => 0) (r := 30) (p := 0) (hX9 3 (ad0 ad x a y a9 83, .inl (cA 0, 4, .inl (fun _ => 0))) rfl) (by decide +kernel),
  at_I (f := fun _ => 0) (r := 31) (p := 0) (hX9 2 (ad0 ad x a y a9 84, .inl (cA 0, 4, .inl (fun _ => 0))) rfl) (by decide +kernel),
  at_I (f := fun _ => 0) (r := 32) (p := 0) (hX9 1 (ad0 ad x a y a9 85, .inl (cA 0, 160, .inl (fun _ => 0))) rfl) (by decide +kernel)⟩
set_option maxRecDepth 100000 in
theorem pc_AR (hAR : va_P D vwCl [(a.1 4, (.inl (cA 3, 4, .inr (.inr (.inr (.inr (va_up (va_up (va_up (va_up (fun _ => none) 0 (some (a.1 3))) 1 (some (a.1 2))) 2 (some (a.1 1))) 3 (some (a.1 0))))))) : va_E))] H) : va_at D vwCl (ad0 ad x a y a9 16, entOf (D, ad0 ad x a y a9, cA) s0 (.inr (.inr (.inr (3, 4, 17))))) H := at_A (f := va_up (va_up (va_up (va_up (fun _ => none) 0 (some (a.1 3))) 1 (some (a.1 2))) 2 (some (a.1 1))) 3 (some (a.1 0))) (t := 3) (q := 17) (hAR 0 (ad0 ad x a y a9 16, .inl (cA 3, 4, .inr (.inr (.inr (.inr (va_up (va_up (va_up (va_up (fun _ => none) 0 (some (a.1 3))) 1 (some (a.1 2))) 2 (some (a.1 1))) 3 (some (a.1 0)))))))) rfl) (fun k hk => match k, hk with | 0, _ => rfl | 1, _ => rfl | 2, _ => rfl | 3, _ => rfl | k + 4, h => absurd h (by omega))
set_option maxRecDepth 100000 in
theorem pc_FI (hFI : va_P D vwCl [(a.1 12, (.inl (cA 0, 7, .inl (fun _ => 0)) : va_E))] H) : va_at D vwCl (ad0 ad x a y a9 1, entOf (D, ad0 ad x a y a9, cA) s0 (.inr (.inl (3, 0, 7)))) H := at_I (f := fun _ => 0) (r := 3) (p := 0) (hFI 0 (ad0 ad x a y a9 1, .inl (cA 0, 7, .inl (fun _ => 0))) rfl) (by decide +kernel)
end PN
