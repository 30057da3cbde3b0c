/-! what lies outside the rows' lengths doesn't matter -/
def rlen (r : Nat) : Nat := [265, 265, 265, 7, 1, 4, 4, 120, 3, 18, 1, 120, 120, 4, 42, 42, 42, 42, 0, 0, 265, 265, 265, 7, 7, 124, 120, 18, 3, 120, 4, 4, 160].getD r 0
theorem SH_rlen : SH.all (fun a => (rngs a).all fun q => Nat.ble (q.2.1 + q.2.2) (rlen q.1)) = true := by decide +kernel
theorem ent_eqv {g : Geo} {σ σ' : St} {a : AE} (h : ∀ r k, k < rlen r → σ.1 r k = σ'.1 r k) (hL : σ.2 = σ'.2) (ha : (rngs a).all (fun q => Nat.ble (q.2.1 + q.2.2) (rlen q.1)) = true) : entOf g σ a = entOf g σ' a := by
  match a with
  | .inl q =>
    show Sum.inr (q.1, q.2.map _) = Sum.inr (q.1, q.2.map _)
    congr 2
    refine List.map_congr_left fun s hs => ?_
    match s with
    | .inl _ => rfl
    | .inr p =>
      show Value.int _ = Value.int _
      have h1 := List.all_eq_true.mp ha (p.1, p.2, 1) (List.mem_filterMap.mpr ⟨_, hs, rfl⟩)
      simp only [Nat.ble_eq] at h1
      rw [h p.1 p.2 (by omega)]
  | .inr (.inl q) =>
    show Sum.inl (g.2.2 0, q.2.2, Sum.inl (rowI _ _ _ _)) = Sum.inl (g.2.2 0, q.2.2, Sum.inl (rowI _ _ _ _))
    have h1 := List.all_eq_true.mp ha q (List.mem_singleton.mpr rfl)
    simp only [Nat.ble_eq] at h1
    have e : rowI σ q.1 q.2.1 q.2.2 = rowI σ' q.1 q.2.1 q.2.2 := by
      funext i
      unfold rowI
      by_cases hi : i < q.2.2
      · rw [if_pos hi, if_pos hi]
        exact h _ _ (by omega)
      · rw [if_neg hi, if_neg hi]
    rw [e]
  | .inr (.inr (.inl q)) =>
    show Sum.inl (g.2.2 1, q.2, Sum.inr (Sum.inl (rowL _ _ _))) = Sum.inl (g.2.2 1, q.2, Sum.inr (Sum.inl (rowL _ _ _)))
    unfold rowL
    rw [hL]
  | .inr (.inr (.inr q)) => rfl
theorem Pic.eqv {g : Geo} {σ σ' : St} {H : Heap} (h : ∀ r k, k < rlen r → σ.1 r k = σ'.1 r k) (hL : σ.2 = σ'.2) (hP : Pic g σ H) : Pic g σ' H := by
  intro c a hc
  rw [← ent_eqv h hL (List.all_eq_true.mp SH_rlen a (List.mem_of_getElem? hc))]
  exact hP c a hc
theorem aw_eqv {Y : MI} {K : KT} {Rz : RZ} {σ σ' : St} {pc : Nat} {lv : List (Nat × Value)} {st : List Value} (h : ∀ r k, k < rlen r → σ.1 r k = σ'.1 r k) (hL : σ.2 = σ'.2) (kk : AW Y K Rz σ' pc lv st) : AW Y K Rz σ pc lv st := fun H locs ls hP hS hl => kk H locs ls (hP.eqv h hL) hS hl
theorem aw_fx {Y : MI} {K : KT} {Rz : RZ} {σ : St} {pc : Nat} {lv : List (Nat × Value)} {st : List Value} (r : Nat) (f f' : Nat → Int32) (h : ∀ k, k < rlen r → f k = f' k) (kk : AW Y K Rz (setR σ r f') pc lv st) : AW Y K Rz (setR σ r f) pc lv st := aw_eqv (σ' := setR σ r f') (fun q k hk => by
  by_cases e : q = r
  · subst e; rw [setR_at, setR_at]; exact h k hk
  · rw [setR_ne _ _ e, setR_ne _ _ e]) rfl kk
/-- the first k places of f, the rest of g -/
def fillF (f g : Nat → Int32) (k : Nat) : Nat → Int32 := fun i => if i < k then f i else g i
theorem fillF_0 (f g : Nat → Int32) : fillF f g 0 = g := funext fun i => if_neg (Nat.not_lt_zero i)
theorem fillF_s (f g : Nat → Int32) (k : Nat) : upd (fillF f g k) k (f k) = fillF f g (k + 1) := by
  funext i
  simp only [upd, fillF]
  by_cases h : i = k
  · subst h; simp
  · by_cases h2 : i < k
    · rw [if_neg h, if_pos h2, if_pos (by omega)]
    · rw [if_neg h, if_neg h2, if_neg (by omega)]
theorem fillF_in {f g : Nat → Int32} {k i : Nat} (h : i < k) : fillF f g k i = f i := if_pos h
theorem fillF_out {f g : Nat → Int32} {k i : Nat} (h : k ≤ i) : fillF f g k i = g i := if_neg (Nat.not_lt.mpr h)
