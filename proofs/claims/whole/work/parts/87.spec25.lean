/-! the class's stretches are the specs' -/
theorem strC {n : Nat} {r y k : Int32} {B : Nat} (hB : B ≤ 12) : ((isR n r ∧ (0 ≤ y ∧ y ≤ 29) ∧ (0 ≤ k ∧ k ≤ 30 - y)) ∧ (0 ≤ k ∧ k ≤ nI B)) ↔ strP n r y k (nI B) := by
  refine ⟨fun h => ?_, fun h => ?_⟩
  · obtain ⟨⟨h1, h2, h3⟩, h4⟩ := h
    refine ⟨h1, h2, h4, ?_⟩
    obtain ⟨y', rfl, -, hy⟩ := rg 0 29 h2 (by omega) (by omega)
    obtain ⟨k', rfl, -, hk⟩ := rg 0 B h4 (by omega) (by omega)
    have e : (30 : Int32) - nI y' = nI (30 - y') := pk_sub (a := 30) (b := y') (by omega)
    have h5 := h3.2
    rw [e, nI_leI (by omega) (by omega)] at h5
    rw [nI_add]
    exact nI_nlt (a := 30) (b := y' + k') (by omega) (by omega)
  · obtain ⟨h1, h2, h4, h5⟩ := h
    refine ⟨⟨h1, h2, h4.1, ?_⟩, h4⟩
    obtain ⟨y', rfl, -, hy⟩ := rg 0 29 h2 (by omega) (by omega)
    obtain ⟨k', rfl, -, hk⟩ := rg 0 B h4 (by omega) (by omega)
    have e : (30 : Int32) - nI y' = nI (30 - y') := pk_sub (a := 30) (b := y') (by omega)
    rw [e, nI_leI (by omega) (by omega)]
    rw [nI_add] at h5
    rcases Nat.lt_or_ge 30 (y' + k') with q | q
    · exact absurd (nI_lt (a := 30) q (by omega)) h5
    · omega
def PCL (σ : St) (an : LAn) : RZ := fun w s => w = some (.long (laA an)) ∧ ∀ r, r ∉ cScr → s.1 r = (match an with
  | .inl i => setR σ 3 (upd (σ.1 3) i (σ.1 3 i + 1))
  | .inr _ => σ).1 r
theorem pcl_of {σ : St} {an : LAn} {x v : Int64} (h : an = .inr v) (hv : x = v) : PCL σ an (some (.long x)) σ := by
  subst h; subst hv
  exact ⟨rfl, fun _ _ => rfl⟩
theorem pcl_low {σ : St} {an : LAn} {i : Nat} (h : an = .inl i) : PCL σ an (some (.long (lowI i).toInt64)) (setR σ 3 (upd (σ.1 3) i (σ.1 3 i + 1))) := by
  subst h
  exact ⟨rfl, fun _ _ => rfl⟩
