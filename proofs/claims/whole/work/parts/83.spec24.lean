/-! rows tried: one RUNNER or one YARD otherwise -/
theorem Ok.oneR {n r : Nat} {μ ν : Fl} (h : Ok n μ) (hr : r < n) (ho : ∀ z, (z < 33 + 37 * r ∨ 70 + 37 * r ≤ z) → ν z = μ z) (hR : RunOk ν r) : Ok n ν := by
  obtain ⟨h1, h2, h3, h4, h5, h6⟩ := h
  refine ⟨h1, by rw [ho 2 (by omega)]; exact h2, by rw [ho 0 (by omega)]; exact h3, fun y hy => by rw [ho (3 + y) (by omega)]; exact h4 y hy, fun q hq => ?_, fun k hk => by rw [ho (255 + k) (by omega)]; exact h6 k hk⟩
  by_cases e : q = r
  · subst e; exact hR
  · obtain ⟨b1, b2, b3, b4, b5, b6⟩ := h5 q hq
    unfold RunOk fl
    rw [ho _ (by omega), ho _ (by omega), ho _ (by omega), ho _ (by omega), ho _ (by omega)]
    exact ⟨b1, b2, b3, b4, b5, fun y hy => by rw [ho _ (by omega)]; exact b6 y hy⟩
theorem Ok.spoon {n r s : Nat} {μ : Fl} (h : Ok n μ) (hr : r < n) (hs : s < 6) : Ok n (upd μ (33 + 37 * r + 2) (nI s)) := by
  obtain ⟨b1, b2, b3, b4, b5, b6⟩ := h.2.2.2.2.1 r hr
  refine h.oneR hr (fun z hz => pk_un (by omega)) ?_
  unfold RunOk fl
  rw [pk_un (by omega), pk_un (by omega), pk_us, pk_un (by omega), pk_un (by omega)]
  exact ⟨b1, b2, ⟨s, hs, rfl⟩, b4, b5, fun y hy => by rw [pk_un (by omega)]; exact b6 y hy⟩
theorem Ok.arm {n r a : Nat} {μ : Fl} (h : Ok n μ) (hr : r < n) (ha : a < 10) : Ok n (upd μ (33 + 37 * r + 1) (nI a)) := by
  obtain ⟨b1, b2, b3, b4, b5, b6⟩ := h.2.2.2.2.1 r hr
  refine h.oneR hr (fun z hz => pk_un (by omega)) ?_
  unfold RunOk fl
  rw [pk_un (by omega), pk_us, pk_un (by omega), pk_un (by omega), pk_un (by omega)]
  exact ⟨b1, ⟨a, ha, rfl⟩, b3, b4, b5, fun y hy => by rw [pk_un (by omega)]; exact b6 y hy⟩
theorem Ok.kind {n r k : Nat} {μ : Fl} (h : Ok n μ) (hr : r < n) (hk : k < 7) : Ok n (upd μ (33 + 37 * r + 0) (nI k)) := by
  obtain ⟨b1, b2, b3, b4, b5, b6⟩ := h.2.2.2.2.1 r hr
  refine h.oneR hr (fun z hz => pk_un (by omega)) ?_
  unfold RunOk fl
  rw [pk_us, pk_un (by omega), pk_un (by omega), pk_un (by omega), pk_un (by omega)]
  exact ⟨⟨k, hk, rfl⟩, b2, b3, b4, b5, fun y hy => by rw [pk_un (by omega)]; exact b6 y hy⟩
theorem Ok.grass {n y g : Nat} {μ : Fl} (h : Ok n μ) (hy : y < 30) (hg : g < 5) : Ok n (upd μ (3 + y) (nI g)) := by
  refine h.field (by rw [pk_un (by omega)]; exact h.2.2.1) (pk_un (by omega)) (fun z hz => ?_) (fun i hi => pk_un (by omega))
  by_cases e : z = y
  · subst e; exact ⟨g, hg, pk_us⟩
  · rw [pk_un (by omega)]; exact h.2.2.2.1 z hz
theorem Ok.even {n r p : Nat} {μ : Fl} (h : Ok n μ) (hr : r < n) (h1 : 1 ≤ p) (h9 : p ≤ 9) : Ok n (evK μ r (nI p) 30) := by
  obtain ⟨b1, b2, b3, b4, b5, b6⟩ := h.2.2.2.2.1 r hr
  have off : ∀ z, (z < 33 + 37 * r + 7 ∨ 33 + 37 * r + 7 + 30 ≤ z) → evK μ r (nI p) 30 z = μ z := fun z hz => if_neg (by omega)
  refine h.oneR hr (fun z hz => off z (by omega)) ?_
  unfold RunOk fl
  rw [off _ (by omega), off _ (by omega), off _ (by omega), off _ (by omega), off _ (by omega)]
  exact ⟨b1, b2, b3, b4, b5, fun y hy => ⟨p, h1, h9, if_pos (by omega)⟩⟩
/-- the least so far, where nothing was is the greatest int -/
def lsM (v : Nat → Int32) : Option Nat → Int32
  | none => 2147483647
  | some b => v b
def oZ : Option Nat → Int32
  | none => 0
  | some b => nI b
def oU : Option Nat → Int32
  | none => 1
  | some b => nI (b + 1)
theorem spV_bd {n r k : Nat} {μ : Fl} (h : Ok n μ) (hr : r < n) (hk : k < 6) : spV μ r k < 2147483647 := by
  obtain ⟨v, hv, e⟩ := meanS_bd ((h.spoon hr hk).mok hr)
  unfold spV
  rw [e, nI_add]
  exact max_gt (by omega)
theorem wrV_bd {n r k : Nat} {μ : Fl} (h : Ok n μ) (hr : r < n) (hk : k < 30) : wrV μ r k < 2147483647 := by
  obtain ⟨v, hv, e⟩ := meanS_bd ((h.grass (g := 0) hk (by omega)).mok hr)
  unfold wrV
  rw [show (0 : Int32) = nI 0 from rfl, e]
  exact max_gt (by omega)
theorem evV_bd {n r k : Nat} {μ : Fl} (h : Ok n μ) (hr : r < n) (hk : k < 9) : evV μ r k < 2147483647 := by
  obtain ⟨v, hv, e⟩ := meanS_bd ((h.even (p := k + 1) hr (by omega) (by omega)).mok hr)
  unfold evV
  rw [e]
  exact max_gt (by omega)
theorem ev_agr {n r : Nat} {μ ν : Fl} {p : Int32} {k : Nat} (g : Agr n μ ν) : Agr n (evK μ r p k) (evK ν r p k) := fun z hz => by
  unfold evK
  by_cases h : 33 + 37 * r + 7 ≤ z ∧ z < 33 + 37 * r + 7 + k
  · rw [if_pos h, if_pos h]
  · rw [if_neg h, if_neg h]; exact g z hz
