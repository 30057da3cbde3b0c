/-! THE WORLD: one static shape of 86 cells; what changes are ints (region, place) and longs; a method's contract is a function on that state -/
abbrev St : Type := (Nat → Nat → Int32) × (Nat → Nat → Int64)
def setR (σ : St) (r : Nat) (f : Nat → Int32) : St := (fun q => if q = r then f else σ.1 q, σ.2)
def setL (σ : St) (r : Nat) (f : Nat → Int64) : St := (σ.1, fun q => if q = r then f else σ.2 q)
/-- a cell's shape: an object (its class's number; its slots: a cell, or an int's place), an int row (region, offset, length), a long row, a row of cells (class, length, first cell; every second one) -/
abbrev AE : Type := (Nat × List (Nat ⊕ (Nat × Nat))) ⊕ ((Nat × Nat × Nat) ⊕ ((Nat × Nat) ⊕ (Nat × Nat × Nat)))
def shMeet (j : Nat) : List AE :=
  [.inl (2, [.inl (26 + 16 * j), .inl (27 + 16 * j), .inl (28 + 16 * j), .inr (j, 2), .inr (j, 0), .inr (j, 1)]), .inr (.inl (j, 3, 30)), .inr (.inr (.inr (2, 6, 29 + 16 * j))), .inr (.inl (j, 255, 10))] ++
  (List.range 6).flatMap fun i => [.inl (4, [.inl (30 + 16 * j + 2 * i), .inr (j, 33 + 37 * i), .inr (j, 34 + 37 * i), .inr (j, 35 + 37 * i), .inr (j, 36 + 37 * i), .inr (j, 37 + 37 * i), .inr (j, 38 + 37 * i), .inr (j, 39 + 37 * i)]), .inr (.inl (j, 40 + 37 * i, 30))]
def SH : List AE :=
  [.inl (8, [.inl 1, .inl 25, .inl 41, .inl 57, .inl 2, .inl 6, .inl 9, .inl 12, .inl 13, .inl 16, .inr (4, 0)]),
   .inr (.inl (3, 0, 7)),
   .inl (1, [.inl 3, .inl 4, .inl 5]), .inr (.inl (5, 0, 4)), .inr (.inl (6, 0, 4)), .inr (.inl (7, 0, 120)),
   .inl (0, [.inl 7, .inl 8]), .inr (.inr (.inl (0, 44))), .inr (.inr (.inl (1, 44))),
   .inl (7, [.inl 10, .inl 11, .inr (10, 0)]), .inr (.inl (8, 0, 3)), .inr (.inl (9, 0, 18)),
   .inl (3, [.inl 13]),
   .inl (6, [.inl 14, .inl 15, .inr (13, 0), .inr (13, 1), .inr (13, 2), .inr (13, 3)]), .inr (.inl (11, 0, 120)), .inr (.inl (12, 0, 120)),
   .inr (.inr (.inr (3, 4, 17))),
   .inl (5, [.inl 18, .inr (14, 40), .inr (14, 41)]), .inr (.inl (14, 0, 40)),
   .inl (5, [.inl 20, .inr (15, 40), .inr (15, 41)]), .inr (.inl (15, 0, 40)),
   .inl (5, [.inl 22, .inr (16, 40), .inr (16, 41)]), .inr (.inl (16, 0, 40)),
   .inl (5, [.inl 24, .inr (17, 40), .inr (17, 41)]), .inr (.inl (17, 0, 40))] ++
  (shMeet 0 ++ (shMeet 1 ++ (shMeet 2 ++
  [.inl (9, [.inl 74, .inl 75, .inl 76, .inr (23, 0), .inl 77, .inl 78, .inl 79, .inl 80, .inl 81, .inl 82, .inr (23, 1), .inr (23, 2), .inr (23, 3), .inr (23, 4), .inr (23, 5), .inr (23, 6), .inl 83, .inl 84, .inl 85]),
   .inr (.inl (20, 0, 265)), .inr (.inl (21, 0, 265)), .inr (.inl (22, 0, 265)), .inr (.inl (24, 0, 7)), .inr (.inl (25, 0, 124)), .inr (.inl (26, 0, 120)), .inr (.inl (27, 0, 18)), .inr (.inl (28, 0, 3)), .inr (.inl (29, 0, 120)), .inr (.inl (30, 0, 4)), .inr (.inl (31, 0, 4)), .inr (.inl (32, 0, 160))])))
/-- where things are: the classes' numbers and slots; the address of each cell (0 .. 85), static row (100 ..), text (200 ..), text's bytes (300 ..); the rows' classes -/
abbrev Geo : Type := va_G × (Nat → Nat) × (Nat → ClassId)
def cv (a : Nat → Nat) : Value → Value
  | .ref c => .ref (a c)
  | v => v
def slv (a : Nat → Nat) (σ : St) : Nat ⊕ (Nat × Nat) → Value
  | .inl c => .ref (a c)
  | .inr q => .int (σ.1 q.1 q.2)
def rowI (σ : St) (r o n : Nat) : Nat → Int32 := fun i => if i < n then σ.1 r (i + o) else 0
def rowL (σ : St) (r n : Nat) : Nat → Int64 := fun i => if i < n then σ.2 r i else 0
def entOf (g : Geo) (σ : St) : AE → va_E
  | .inl q => .inr (q.1, q.2.map (slv g.2.1 σ))
  | .inr (.inl q) => .inl (g.2.2 0, q.2.2, .inl (rowI σ q.1 q.2.1 q.2.2))
  | .inr (.inr (.inl q)) => .inl (g.2.2 1, q.2, .inr (.inl (rowL σ q.1 q.2)))
  | .inr (.inr (.inr q)) => .inl (g.2.2 q.1, q.2.1, .inr (.inr (.inr (.inr (fun i => if i < q.2.1 then some (g.2.1 (q.2.2 + 2 * i)) else none)))))
def Pic (g : Geo) (σ : St) (H : Heap) : Prop := ∀ (c : Nat) (a : AE), SH[c]? = some a → va_at g.1 vwCl (g.2.1 c, entOf g σ a) H
def Aof (g : Geo) : Nat → Prop := fun q => ∃ c, c < 86 ∧ q = g.2.1 c
theorem SH_len : SH.length = 86 := by decide +kernel
theorem SH_lt {c : Nat} {a : AE} (h : SH[c]? = some a) : c < 86 := by
  have := (List.getElem?_eq_some_iff.mp h).1
  rw [SH_len] at this
  exact this
/-- the int places of a shape: those of an object, or a range -/
def hasI (r k : Nat) : AE → Bool
  | .inl q => q.2.any fun s => match s with
    | .inl _ => false
    | .inr p => p.1 == r && p.2 == k
  | .inr (.inl q) => q.1 == r && (Nat.ble q.2.1 k && Nat.blt k (q.2.1 + q.2.2))
  | _ => false
def hasL (r : Nat) : AE → Bool
  | .inr (.inr (.inl q)) => q.1 == r
  | _ => false
/-- do two shapes share an int place? (ranges and places as numbers alone) -/
def rngs : AE → List (Nat × Nat × Nat)
  | .inl q => q.2.filterMap fun s => match s with
    | .inl _ => none
    | .inr p => some (p.1, p.2, 1)
  | .inr (.inl q) => [q]
  | _ => []
def apartR (a b : Nat × Nat × Nat) : Bool := !(a.1 == b.1) || (Nat.ble (a.2.1 + a.2.2) b.2.1 || Nat.ble (b.2.1 + b.2.2) a.2.1)
def apartA (a b : AE) : Bool := (rngs a).all fun x => (rngs b).all fun y => apartR x y
def nodupR : List (Nat × Nat × Nat) → Bool
  | [] => true
  | a :: l => l.all (apartR a) && nodupR l
theorem SH_apart : (List.range 86).all (fun c => (List.range 86).all fun d => c == d || match SH[c]?, SH[d]? with
  | some a, some b => apartA a b
  | _, _ => true) = true := by decide +kernel
theorem SH_nodup : SH.all (fun a => nodupR (rngs a)) = true := by decide +kernel
theorem SH_L : (List.range 86).all (fun c => (List.range 86).all fun d => c == d || match SH[c]?, SH[d]? with
  | some (.inr (.inr (.inl q))), some (.inr (.inr (.inl p))) => !(q.1 == p.1)
  | _, _ => true) = true := by decide +kernel
theorem apart_of {c d : Nat} {a b : AE} (hc : SH[c]? = some a) (hd : SH[d]? = some b) (h : c ≠ d) : apartA a b = true := by
  have h1 := List.all_eq_true.mp SH_apart c (List.mem_range.mpr (SH_lt hc))
  have h2 := List.all_eq_true.mp h1 d (List.mem_range.mpr (SH_lt hd))
  rw [hc, hd] at h2
  simpa [h] using h2
theorem apartL_of {c d : Nat} {q p : Nat × Nat} (hc : SH[c]? = some (.inr (.inr (.inl q)))) (hd : SH[d]? = some (.inr (.inr (.inl p)))) (h : c ≠ d) : q.1 ≠ p.1 := by
  have h1 := List.all_eq_true.mp SH_L c (List.mem_range.mpr (SH_lt hc))
  have h2 := List.all_eq_true.mp h1 d (List.mem_range.mpr (SH_lt hd))
  rw [hc, hd] at h2
  simpa [h] using h2
theorem setR_at (σ : St) (r : Nat) (f : Nat → Int32) : (setR σ r f).1 r = f := if_pos rfl
theorem setR_ne (σ : St) {r q : Nat} (f : Nat → Int32) (h : q ≠ r) : (setR σ r f).1 q = σ.1 q := if_neg h
theorem setR_2 (σ : St) (r : Nat) (f : Nat → Int32) : (setR σ r f).2 = σ.2 := rfl
theorem setL_at (σ : St) (r : Nat) (f : Nat → Int64) : (setL σ r f).2 r = f := if_pos rfl
theorem setL_ne (σ : St) {r q : Nat} (f : Nat → Int64) (h : q ≠ r) : (setL σ r f).2 q = σ.2 q := if_neg h
theorem setL_1 (σ : St) (r : Nat) (f : Nat → Int64) : (setL σ r f).1 = σ.1 := rfl
theorem setR_same (σ : St) (r : Nat) : setR σ r (σ.1 r) = σ := by
  refine Prod.ext (funext fun q => ?_) rfl
  by_cases h : q = r
  · subst h; exact if_pos rfl
  · exact if_neg h
theorem setR_twice (σ : St) (r : Nat) (f f' : Nat → Int32) : setR (setR σ r f) r f' = setR σ r f' := by
  refine Prod.ext (funext fun q => ?_) rfl
  by_cases h : q = r
  · simp [setR, h]
  · simp [setR, h]
theorem setL_same (σ : St) (r : Nat) : setL σ r (σ.2 r) = σ := by
  refine Prod.ext rfl (funext fun q => ?_)
  by_cases h : q = r
  · subst h; exact if_pos rfl
  · exact if_neg h
theorem setL_twice (σ : St) (r : Nat) (f f' : Nat → Int64) : setL (setL σ r f) r f' = setL σ r f' := by
  refine Prod.ext rfl (funext fun q => ?_)
  by_cases h : q = r
  · simp [setL, h]
  · simp [setL, h]
theorem setR_comm (σ : St) {r q : Nat} (h : r ≠ q) (f f' : Nat → Int32) : setR (setR σ r f) q f' = setR (setR σ q f') r f := by
  refine Prod.ext (funext fun p => ?_) rfl
  by_cases h1 : p = r
  · subst h1; simp [setR, h]
  · simp [setR, h1]
theorem setRL (σ : St) (r q : Nat) (f : Nat → Int32) (f' : Nat → Int64) : setR (setL σ q f') r f = setL (setR σ r f) q f' := rfl
/-- a write of region r within [lo, hi) leaves a shape that is apart from that range as it was -/
theorem ent_off {g : Geo} {σ : St} {a : AE} {r : Nat} {f : Nat → Int32} (lo n : Nat) (hf : ∀ k, (k < lo ∨ lo + n ≤ k) → f k = σ.1 r k) (h : (rngs a).all (apartR (r, lo, n)) = true) : entOf g (setR σ r f) a = entOf g σ a := by
  have key : ∀ (q k : Nat), (q ≠ r ∨ (k < lo ∨ lo + n ≤ k)) → (setR σ r f).1 q k = σ.1 q k := by
    intro q k hk
    by_cases hq : q = r
    · subst hq
      rw [setR_at]
      exact hf k (hk.resolve_left (fun z => z rfl))
    · rw [setR_ne σ f hq]
  match a with
  | .inl q =>
    show Sum.inr (q.1, q.2.map _) = Sum.inr (q.1, q.2.map _)
    congr 2
    refine List.map_congr_left fun s hs => ?_
    match s with
    | .inl _ => rfl
    | .inr p =>
      show Value.int _ = Value.int _
      have h1 := List.all_eq_true.mp h (p.1, p.2, 1) (List.mem_filterMap.mpr ⟨_, hs, rfl⟩)
      simp only [apartR, Bool.or_eq_true, Bool.not_eq_true', beq_eq_false_iff_ne, Nat.ble_eq] at h1
      rw [key p.1 p.2 (by omega)]
  | .inr (.inl q) =>
    show Sum.inl (g.2.2 0, q.2.2, Sum.inl (rowI _ _ _ _)) = Sum.inl (g.2.2 0, q.2.2, Sum.inl (rowI _ _ _ _))
    have h1 := List.all_eq_true.mp h q (List.mem_singleton.mpr rfl)
    simp only [apartR, Bool.or_eq_true, Bool.not_eq_true', beq_eq_false_iff_ne, Nat.ble_eq] at h1
    have e : rowI (setR σ r f) q.1 q.2.1 q.2.2 = rowI σ q.1 q.2.1 q.2.2 := by
      funext i
      unfold rowI
      by_cases hi : i < q.2.2
      · rw [if_pos hi, if_pos hi]
        exact key _ _ (by omega)
      · rw [if_neg hi, if_neg hi]
    rw [e]
  | .inr (.inr (.inl q)) => rfl
  | .inr (.inr (.inr q)) => rfl
theorem ent_offL {g : Geo} {σ : St} {a : AE} {r : Nat} {f : Nat → Int64} (h : ∀ q, a = .inr (.inr (.inl q)) → q.1 ≠ r) : entOf g (setL σ r f) a = entOf g σ a := by
  match a with
  | .inl q => rfl
  | .inr (.inl q) => rfl
  | .inr (.inr (.inl q)) =>
    show Sum.inl (g.2.2 1, q.2, Sum.inr (Sum.inl (rowL _ _ _))) = Sum.inl (g.2.2 1, q.2, Sum.inr (Sum.inl (rowL _ _ _)))
    have e : rowL (setL σ r f) q.1 q.2 = rowL σ q.1 q.2 := by
      funext i
      unfold rowL
      rw [setL_ne σ f (h q rfl)]
    rw [e]
  | .inr (.inr (.inr q)) => rfl
theorem Pic.other {g : Geo} {σ σ' : St} {H H1 : Heap} {c : Nat} (h : Pic g σ H) (inj : ∀ i j, i < 86 → j < 86 → g.2.1 i = g.2.1 j → i = j) (hc : c < 86) (oq : ∀ q : Nat, q ≠ g.2.1 c → H1[q]? = H[q]?) (he : ∀ d a, SH[d]? = some a → d ≠ c → entOf g σ' a = entOf g σ a) (hs : ∀ a, SH[c]? = some a → va_at g.1 vwCl (g.2.1 c, entOf g σ' a) H1) : Pic g σ' H1 := by
  intro d a hd
  by_cases hdc : d = c
  · subst hdc; exact hs a hd
  · rw [he d a hd hdc]
    exact (h d a hd).kept (oq _ (fun z => hdc (inj d c (SH_lt hd) hc z)))
/-- writes into an int row -/
theorem Pic.rowI {g : Geo} {σ : St} {H H1 : Heap} {c r o n : Nat} {f : Nat → Int32} (h : Pic g σ H) (inj : ∀ i j, i < 86 → j < 86 → g.2.1 i = g.2.1 j → i = j) (hc : SH[c]? = some (.inr (.inl (r, o, n)))) (oq : ∀ q : Nat, q ≠ g.2.1 c → H1[q]? = H[q]?) (hf : ∀ k, (k < o ∨ o + n ≤ k) → f k = σ.1 r k) (hs : H1[g.2.1 c]? = some (vp_cell (g.2.2 0) (n, .inl (rowI (setR σ r f) r o n)))) : Pic g (setR σ r f) H1 := by
  refine h.other inj (SH_lt hc) oq (fun d a hd hne => ?_) (fun a ha => ?_)
  · exact ent_off o n hf (List.all_eq_true.mpr fun x hx => by
      have h1 := List.all_eq_true.mp (apart_of hc hd (Ne.symm hne)) (r, o, n) (List.mem_singleton.mpr rfl)
      exact List.all_eq_true.mp h1 x hx)
  · cases hc.symm.trans ha
    exact hs
theorem Pic.rowL {g : Geo} {σ : St} {H H1 : Heap} {c r n : Nat} {f : Nat → Int64} (h : Pic g σ H) (inj : ∀ i j, i < 86 → j < 86 → g.2.1 i = g.2.1 j → i = j) (hc : SH[c]? = some (.inr (.inr (.inl (r, n))))) (oq : ∀ q : Nat, q ≠ g.2.1 c → H1[q]? = H[q]?) (hs : H1[g.2.1 c]? = some (vp_cell (g.2.2 1) (n, .inr (.inl (rowL (setL σ r f) r n))))) : Pic g (setL σ r f) H1 := by
  refine h.other inj (SH_lt hc) oq (fun d a hd hne => ?_) (fun a ha => ?_)
  · exact ent_offL (fun q hq => by subst hq; exact apartL_of hd hc hne)
  · cases hc.symm.trans ha
    exact hs
theorem nodup_set {l : List (Nat ⊕ (Nat × Nat))} {a : Nat → Nat} {σ : St} {r k : Nat} {v : Int32} : ∀ {i : Nat}, nodupR (l.filterMap fun s => match s with
    | .inl _ => none
    | .inr p => some (p.1, p.2, 1)) = true → l[i]? = some (.inr (r, k)) → l.map (slv a (setR σ r (upd (σ.1 r) k v))) = (l.map (slv a σ)).set i (.int v) := by
  induction l with
  | nil => intro i _ h; simp at h
  | cons s l ih =>
    intro i hn hi
    have off : ∀ p : Nat × Nat, ¬ (p.1 = r ∧ p.2 = k) → slv a (setR σ r (upd (σ.1 r) k v)) (.inr p) = slv a σ (.inr p) := by
      intro p hp
      show Value.int _ = Value.int _
      congr 1
      by_cases hq : p.1 = r
      · rw [hq, setR_at]
        exact pk_un (fun z => hp ⟨hq, z⟩)
      · rw [setR_ne _ _ hq]
    cases i with
    | zero =>
      simp only [List.getElem?_cons_zero, Option.some.injEq] at hi
      subst hi
      simp only [List.filterMap_cons, nodupR, Bool.and_eq_true] at hn
      simp only [List.map_cons, List.set_cons_zero]
      congr 1
      · show Value.int _ = Value.int _
        congr 1
        rw [setR_at]
        exact pk_us
      · refine List.map_congr_left fun s hs => ?_
        match s with
        | .inl _ => rfl
        | .inr p =>
          refine off p (fun z => ?_)
          have h1 := List.all_eq_true.mp hn.1 (p.1, p.2, 1) (List.mem_filterMap.mpr ⟨_, hs, rfl⟩)
          simp only [apartR, Bool.or_eq_true, Bool.not_eq_true', beq_eq_false_iff_ne, Nat.ble_eq] at h1
          omega
    | succ i =>
      simp only [List.getElem?_cons_succ] at hi
      simp only [List.map_cons, List.set_cons_succ]
      match s with
      | .inl _ =>
        congr 1
        exact ih (by simpa [List.filterMap_cons] using hn) hi
      | .inr p =>
        simp only [List.filterMap_cons, nodupR, Bool.and_eq_true] at hn
        congr 1
        · refine off p (fun z => ?_)
          have h1 := List.all_eq_true.mp hn.1 (r, k, 1) (List.mem_filterMap.mpr ⟨_, List.mem_of_getElem? hi, rfl⟩)
          simp only [apartR, Bool.or_eq_true, Bool.not_eq_true', beq_eq_false_iff_ne, Nat.ble_eq] at h1
          omega
        · exact ih hn.2 hi
theorem Pic.slot {g : Geo} {σ : St} {H H1 : Heap} {c ci i r k : Nat} {sl : List (Nat ⊕ (Nat × Nat))} {v : Int32} (h : Pic g σ H) (inj : ∀ i j, i < 86 → j < 86 → g.2.1 i = g.2.1 j → i = j) (hc : SH[c]? = some (.inl (ci, sl))) (hi : sl[i]? = some (.inr (r, k))) (oq : ∀ q : Nat, q ≠ g.2.1 c → H1[q]? = H[q]?) (hs : va_at g.1 vwCl (g.2.1 c, .inr (ci, (sl.map (slv g.2.1 σ)).set i (.int v))) H1) : Pic g (setR σ r (upd (σ.1 r) k v)) H1 := by
  have hnd := List.all_eq_true.mp SH_nodup _ (List.mem_of_getElem? hc)
  refine h.other inj (SH_lt hc) oq (fun d a hd hne => ?_) (fun a ha => ?_)
  · refine ent_off k 1 (fun q hq => pk_un (by omega)) (List.all_eq_true.mpr fun x hx => ?_)
    have h1 := List.all_eq_true.mp (apart_of hc hd (Ne.symm hne)) (r, k, 1) (List.mem_filterMap.mpr ⟨_, List.mem_of_getElem? hi, rfl⟩)
    exact List.all_eq_true.mp h1 x hx
  · cases hc.symm.trans ha
    show va_at g.1 vwCl (g.2.1 c, .inr (ci, sl.map (slv g.2.1 (setR σ r (upd (σ.1 r) k v))))) H1
    rw [nodup_set hnd hi]
    exact hs
