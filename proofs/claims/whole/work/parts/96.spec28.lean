/-! rows that agree answer alike: the calls of the field -/
def AnR (an an' : An) : Prop := (∃ i, an = .inl i ∧ an' = .inl i) ∨ ∃ x μ ν n, an = .inr (x, μ) ∧ an' = .inr (x, ν) ∧ Ok n ν ∧ Agr n μ ν
theorem AnR.low {i : Nat} : AnR (.inl i) (.inl i) := Or.inl ⟨i, rfl, rfl⟩
theorem AnR.row {x y : Int32} {μ ν : Fl} {n : Nat} (e : x = y) (h : Ok n ν) (g : Agr n μ ν) : AnR (.inr (x, μ)) (.inr (y, ν)) := by
  subst e
  exact Or.inr ⟨x, μ, ν, n, rfl, rfl, h, g⟩
theorem AnR.ite {P : Prop} [Decidable P] {a b c d : An} (h1 : P → AnR a c) (h2 : ¬ P → AnR b d) : AnR (if P then a else b) (if P then c else d) := by
  by_cases h : P
  · rw [if_pos h, if_pos h]; exact h1 h
  · rw [if_neg h, if_neg h]; exact h2 h
theorem Ok.z {n : Nat} {μ : Fl} {x : Int32} (h : Ok n μ) : Ok n (upd μ 1 x) := by
  refine h.field ?_ (pk_un (by omega)) (fun y hy => ?_) (fun i hi => pk_un (by omega))
  · rw [pk_un (by omega)]; exact h.2.2.1
  · rw [pk_un (by omega)]; exact h.2.2.2.1 y hy
theorem Ok.yardTo {n r y : Nat} {μ : Fl} (h : Ok n μ) (hr : r < n) (hy : y ≤ 30) : Ok n (upd μ (33 + 37 * r + 3) (nI y)) := by
  obtain ⟨b1, b2, b3, b4, b5, b6⟩ := h.2.2.2.2.1 r hr
  refine h.oneR hr (fun z hz => pk_un (by omega)) ?_
  unfold RunOk fl
  rw [pk_un (by omega), pk_un (by omega), pk_un (by omega), pk_us, pk_un (by omega)]
  exact ⟨b1, b2, b3, ⟨y, hy, rfl⟩, b5, fun y hy => by rw [pk_un (by omega)]; exact b6 y hy⟩
theorem Ok.shak {n r s : Nat} {μ : Fl} (h : Ok n μ) (hr : r < n) (hs : s ≤ 3) : Ok n (upd μ (33 + 37 * r + 5) (nI s)) := by
  obtain ⟨b1, b2, b3, b4, b5, b6⟩ := h.2.2.2.2.1 r hr
  refine h.oneR hr (fun z hz => pk_un (by omega)) ?_
  unfold RunOk fl
  rw [pk_un (by omega), pk_un (by omega), pk_un (by omega), pk_un (by omega), pk_us]
  exact ⟨b1, b2, b3, b4, ⟨s, hs, rfl⟩, fun y hy => by rw [pk_un (by omega)]; exact b6 y hy⟩
theorem Ok.pacesTo {n r : Nat} {μ ν : Fl} (h : Ok n μ) (hr : r < n) (ho : ∀ z, (z < 33 + 37 * r + 7 ∨ 33 + 37 * r + 37 ≤ z) → ν z = μ z) (hp : ∀ y, y < 30 → ∃ p, 1 ≤ p ∧ p ≤ 9 ∧ ν (33 + 37 * r + (7 + y)) = nI p) : Ok n ν := by
  obtain ⟨b1, b2, b3, b4, b5, b6⟩ := h.2.2.2.2.1 r hr
  refine h.oneR hr (fun z hz => ho z (by omega)) ?_
  unfold RunOk fl
  rw [ho _ (by omega), ho _ (by omega), ho _ (by omega), ho _ (by omega), ho _ (by omega)]
  exact ⟨b1, b2, b3, b4, b5, hp⟩
section RF
variable {n : Nat} {μ ν : Fl}
theorem r_ground {a v : Int32} (h : Ok n ν) (g : Agr n μ ν) : AnR (sGround μ a v) (sGround ν a v) := by
  unfold sGround
  refine AnR.ite (fun c => ?_) (fun _ => AnR.low)
  obtain ⟨y, rfl, -, hy⟩ := rg 0 29 c.1 (by omega) (by omega)
  obtain ⟨w, rfl, -, hw⟩ := rg 0 4 c.2 (by omega) (by omega)
  rw [cl_nI (by omega)]
  exact AnR.row (g _ (by omega)) (h.grass (by omega) (by omega)) (g.put rfl)
theorem r_pick {v : Int32} (h : Ok n ν) (g : Agr n μ ν) : AnR (sPick μ v) (sPick ν v) := by
  unfold sPick
  refine AnR.ite (fun c => ?_) (fun _ => AnR.low)
  obtain ⟨w, rfl, -, hw⟩ := rg 0 99 c (by omega) (by omega)
  exact AnR.row (g _ (by omega)) (h.withP (by omega)) (g.put rfl)
theorem r_runner {k a s : Int32} (h : Ok n ν) (g : Agr n μ ν) : AnR (sRunner μ n k a s) (sRunner ν n k a s) := by
  unfold sRunner
  refine AnR.ite (fun c => AnR.ite (fun _ => AnR.low) (fun c6 => ?_)) (fun _ => AnR.low)
  have hn := h.1
  obtain ⟨k, rfl, -, hk⟩ := rg 0 6 c.1 (by omega) (by omega)
  obtain ⟨a, rfl, -, ha⟩ := rg 0 9 c.2.1 (by omega) (by omega)
  obtain ⟨s, rfl, -, hs⟩ := rg 0 5 c.2.2 (by omega) (by omega)
  exact AnR.row rfl (h.withR (p := 4) (by omega) (by omega) (by omega) (by omega) (by omega) (by omega)) (new_agr g (by omega))
theorem r_of {r w : Int32} (h : Ok n ν) (g : Agr n μ ν) : AnR (sOf μ n r w) (sOf ν n r w) := by
  unfold sOf
  refine AnR.ite (fun c => ?_) (fun _ => AnR.low)
  obtain ⟨r, rfl, hr⟩ := rgR c.1 h.1
  have hn := h.1
  rw [cl_nI (show r < 2147483648 by omega)]
  refine AnR.row ?_ h g
  by_cases q : cl w < 7
  · rw [if_pos q, if_pos q]; exact g.fl hr (by omega)
  · rw [if_neg q, if_neg q]; exact holds_agr g hr
theorem r_change {r w v : Int32} (h : Ok n ν) (g : Agr n μ ν) : AnR (sChange μ n r w v) (sChange ν n r w v) := by
  unfold sChange
  refine AnR.ite (fun c => ?_) (fun _ => AnR.low)
  obtain ⟨c1, c2⟩ := c
  obtain ⟨r, rfl, hr⟩ := rgR c1 h.1
  have hn := h.1
  obtain ⟨k, rfl, hk⟩ := part_w c2
  rw [cl_nI (show r < 2147483648 by omega), cl_nI (show k < 2147483648 by omega)]
  have go : ∀ (B : Nat), (0 ≤ v ∧ v ≤ nI B) → B ≤ 30 → ∃ x, x ≤ B ∧ v = nI x := fun B q hB => by
    obtain ⟨x, e, -, hx⟩ := rg 0 B q (by omega) (by omega)
    exact ⟨x, hx, e⟩
  refine (fun (z : Ok n (upd ν (33 + 37 * r + k) v)) => AnR.row (g.fl hr (by omega)) z (g.put rfl)) ?_
  match k, hk with
  | 0, _ =>
    obtain ⟨x, hx, rfl⟩ := go 6 (of_decide_eq_true c2) (by omega)
    exact h.kind hr (by omega)
  | 1, _ =>
    obtain ⟨x, hx, rfl⟩ := go 9 (of_decide_eq_true c2) (by omega)
    exact h.arm hr (by omega)
  | 2, _ =>
    obtain ⟨x, hx, rfl⟩ := go 5 (of_decide_eq_true c2) (by omega)
    exact h.spoon hr (by omega)
  | 3, _ =>
    obtain ⟨x, hx, rfl⟩ := go 30 (of_decide_eq_true c2) (by omega)
    exact h.yardTo hr (by omega)
  | 4, _ => exact absurd c2 Bool.false_ne_true
  | 5, _ =>
    obtain ⟨x, hx, rfl⟩ := go 3 (of_decide_eq_true c2) (by omega)
    exact h.shak hr (by omega)
theorem paceC_agr {r a : Nat} {v : Int32} (g : Agr n μ ν) (hr : r < n) : ∀ {k : Nat}, a + k ≤ 30 → paceC μ r a v k = paceC ν r a v k
  | 0, _ => rfl
  | k + 1, hk => by
    unfold paceC
    rw [paceC_agr g hr (k := k) (by omega), g (33 + 37 * r + 7 + (a + k)) (by omega)]
theorem paceM_agr {r a : Nat} {v : Int32} (g : Agr n μ ν) : ∀ {k : Nat}, Agr n (paceM μ r a v k) (paceM ν r a v k)
  | 0 => g
  | k + 1 => by
    unfold paceM
    exact (paceM_agr g).put rfl
theorem r_pace {r a b v : Int32} (h : Ok n ν) (g : Agr n μ ν) : AnR (sPace μ n r a b v) (sPace ν n r a b v) := by
  unfold sPace
  refine AnR.ite (fun c => ?_) (fun _ => AnR.low)
  obtain ⟨c1, c2, c3, c4, c5⟩ := c
  have hn := h.1
  obtain ⟨r, rfl, hr⟩ := rgR c1 h.1
  obtain ⟨a, rfl, -, ha⟩ := rg 0 29 c2 (by omega) (by omega)
  obtain ⟨b, rfl, -, hb⟩ := rg 0 29 c3 (by omega) (by omega)
  obtain ⟨v, rfl, hv1, hv⟩ := rg 1 9 c5 (by omega) (by omega)
  rw [cl_nI (show r < 2147483648 by omega), cl_nI (show a < 2147483648 by omega), cl_nI (show b < 2147483648 by omega)]
  refine AnR.row (paceC_agr g hr (by omega)) (h.pacesTo hr (fun z hz => paceM_off (by omega)) (fun y hy => ?_)) (paceM_agr g)
  by_cases q : a ≤ y ∧ y < b + 1
  · exact ⟨v, hv1, hv, paceM_at (by omega) (by omega)⟩
  · rw [paceM_off (by omega)]
    exact (h.2.2.2.2.1 r hr).2.2.2.2.2 y hy
theorem r_paceOf {r y : Int32} (h : Ok n ν) (g : Agr n μ ν) : AnR (sPaceOf μ n r y) (sPaceOf ν n r y) := by
  unfold sPaceOf
  refine AnR.ite (fun c => ?_) (fun _ => AnR.low)
  have hn := h.1
  obtain ⟨r, rfl, hr⟩ := rgR c.1 h.1
  obtain ⟨y, rfl, -, hy⟩ := rg 0 29 c.2 (by omega) (by omega)
  rw [cl_nI (show r < 2147483648 by omega), cl_nI (show y < 2147483648 by omega)]
  exact AnR.row (g.fl hr (by omega)) h g
theorem r_told {r w p : Int32} (h : Ok n ν) (g : Agr n μ ν) : AnR (sTold μ n r w p) (sTold ν n r w p) := by
  unfold sTold
  refine AnR.ite (fun c => ?_) (fun _ => AnR.low)
  have hn := h.1
  obtain ⟨r, rfl, hr⟩ := rgR c.1 h.1
  rw [cl_nI (show r < 2147483648 by omega)]
  exact AnR.row (by rw [show fl μ r 0 = fl ν r 0 from g.fl hr (by omega)]) h g
theorem r_odds {r y p s : Int32} (h : Ok n ν) (g : Agr n μ ν) : AnR (sOdds μ n r y p s) (sOdds ν n r y p s) := by
  unfold sOdds
  refine AnR.ite (fun c => ?_) (fun _ => AnR.low)
  have hn := h.1
  obtain ⟨r, rfl, hr⟩ := rgR c.1 h.1
  obtain ⟨y, rfl, -, hy⟩ := rg 0 29 c.2.1 (by omega) (by omega)
  rw [cl_nI (show r < 2147483648 by omega), cl_nI (show y < 2147483648 by omega)]
  exact AnR.row (odds_agr g hr (by omega)) h g
theorem r_now {r : Int32} (h : Ok n ν) (g : Agr n μ ν) : AnR (sNow μ n r) (sNow ν n r) := by
  unfold sNow
  refine AnR.ite (fun c => ?_) (fun _ => AnR.low)
  have hn := h.1
  obtain ⟨r, rfl, hr⟩ := rgR c h.1
  rw [cl_nI (show r < 2147483648 by omega), show fl μ r 3 = fl ν r 3 from g.fl hr (by omega)]
  refine AnR.ite (fun _ => AnR.low) (fun q => ?_)
  obtain ⟨y, hy, e⟩ := h.yard hr q
  exact AnR.row (oddsN_agr g hr e hy) h g
theorem r_nerves {r : Int32} (h : Ok n ν) (g : Agr n μ ν) : AnR (sNerves μ n r) (sNerves ν n r) := by
  unfold sNerves
  refine AnR.ite (fun c => ?_) (fun _ => AnR.low)
  have hn := h.1
  obtain ⟨r, rfl, hr⟩ := rgR c h.1
  rw [cl_nI (show r < 2147483648 by omega)]
  exact AnR.row (nrv_agr g hr (Nat.le_refl n)) h g
theorem r_next (h : Ok n ν) (g : Agr n μ ν) : AnR (sNext μ n) (sNext ν n) := by
  unfold sNext
  rw [nxt_agr g (Nat.le_refl n)]
  cases nxt ν n with
  | none => exact AnR.low
  | some r => exact AnR.row rfl h g
theorem r_steps {k : Int32} (h : Ok n ν) (g : Agr n μ ν) : AnR (sSteps μ n k) (sSteps ν n k) := by
  unfold sSteps
  refine AnR.ite (fun c => ?_) (fun _ => AnR.low)
  exact AnR.row (go_agr g h _).2 (h.go _) (go_agr g h _).1
theorem r_start (h : Ok n ν) (g : Agr n μ ν) : AnR (sStart μ n) (sStart ν n) := by
  unfold sStart
  rw [home_agr g (Nat.le_refl n)]
  exact AnR.row rfl h.start (start_agr g n)
theorem r_ahead {k w : Int32} (h : Ok n ν) (g : Agr n μ ν) : AnR (sAhead μ n k w) (sAhead ν n k w) := by
  unfold sAhead
  refine AnR.ite (fun c => ?_) (fun _ => AnR.low)
  have hn := h.1
  obtain ⟨w, rfl, -, hw⟩ := rg 0 (2 + n) c.2 (by omega) (by omega)
  rw [cl_nI (show w < 2147483648 by omega)]
  obtain ⟨g1, g2⟩ := go_agr g h (cl k)
  refine AnR.row ?_ h g
  unfold aheadV
  rw [home_agr g1 (Nat.le_refl n), g2, nxt_agr g1 (Nat.le_refl n)]
  by_cases q : w < 3
  · rcases (show w = 0 ∨ w = 1 ∨ w = 2 by omega) with rfl | rfl | rfl <;> rfl
  · rw [if_neg (by omega), if_neg (by omega), if_neg (by omega), if_neg (by omega), if_neg (by omega), if_neg (by omega)]
    exact g1.fl (by omega) (by omega)
theorem r_winner (h : Ok n ν) (g : Agr n μ ν) : AnR (sWinner μ n) (sWinner ν n) := by
  unfold sWinner
  rw [fst_agr (go_agr g h 180).1 (Nat.le_refl n)]
  cases fst (goM n ν 180) n with
  | none => exact AnR.low
  | some r => exact AnR.row rfl h g
theorem r_place {r : Int32} (h : Ok n ν) (g : Agr n μ ν) : AnR (sPlace μ n r) (sPlace ν n r) := by
  unfold sPlace
  refine AnR.ite (fun c => ?_) (fun _ => AnR.low)
  have hn := h.1
  obtain ⟨r, rfl, hr⟩ := rgR c h.1
  rw [cl_nI (show r < 2147483648 by omega)]
  exact AnR.row (place_agr (go_agr g h 180).1 hr (Nat.le_refl n)) h g
theorem r_wins {r k : Int32} (h : Ok n ν) (g : Agr n μ ν) : AnR (sWins μ n r k) (sWins ν n r k) := by
  unfold sWins
  refine AnR.ite (fun c => ?_) (fun _ => AnR.low)
  exact AnR.row (wins_agr g h _) h.z (g.put ((race_agr g h _) 1 (by omega)))
theorem r_mean {r y s : Int32} (h : Ok n ν) (g : Agr n μ ν) : AnR (sMean μ n r y s) (sMean ν n r y s) := by
  unfold sMean
  refine AnR.ite (fun c => ?_) (fun _ => AnR.low)
  have hn := h.1
  obtain ⟨r, rfl, hr⟩ := rgR c.1 h.1
  rw [cl_nI (show r < 2147483648 by omega)]
  exact AnR.row (mRow_agr g hr (by omega)) h g
theorem r_least {r y s : Int32} (h : Ok n ν) (g : Agr n μ ν) : AnR (sLeast μ n r y s) (sLeast ν n r y s) := by
  unfold sLeast
  refine AnR.ite (fun c => ?_) (fun _ => AnR.low)
  have hn := h.1
  obtain ⟨r, rfl, hr⟩ := rgR c.1 h.1
  rw [cl_nI (show r < 2147483648 by omega)]
  exact AnR.row (mRow_agr g hr (by omega)) h g
theorem r_best {r y s : Int32} (h : Ok n ν) (g : Agr n μ ν) : AnR (sBest μ n r y s) (sBest ν n r y s) := by
  unfold sBest
  refine AnR.ite (fun c => ?_) (fun _ => AnR.low)
  have hn := h.1
  obtain ⟨r, rfl, hr⟩ := rgR c.1 h.1
  obtain ⟨y, rfl, -, hy⟩ := rg 0 29 c.2.1 (by omega) (by omega)
  rw [cl_nI (show r < 2147483648 by omega), cl_nI (show y < 2147483648 by omega)]
  exact AnR.row (mPc_agr g hr (by omega)) h g
theorem mPc_rg {r y s : Nat} : ∃ p, 1 ≤ p ∧ p ≤ 9 ∧ mPc true μ r 30 y s = nI p := by
  unfold mPc mpc
  rw [if_pos rfl]
  exact ⟨_, bpS_rg.1, bpS_le (by omega), rfl⟩
theorem trainC_agr {r : Nat} (g : Agr n μ ν) (hr : r < n) : ∀ {k : Nat}, k ≤ 30 → trainC μ r k = trainC ν r k
  | 0, _ => rfl
  | k + 1, hk => by
    unfold trainC
    rw [trainC_agr g hr (k := k) (by omega), g (33 + 37 * r + 7 + k) (by omega), mPc_agr g hr (by omega)]
theorem trainM_agr {r : Nat} (g : Agr n μ ν) (hr : r < n) : ∀ {k : Nat}, k ≤ 30 → Agr n (trainM μ r k) (trainM ν r k)
  | 0, _ => g
  | k + 1, hk => by
    unfold trainM
    exact (trainM_agr g hr (by omega)).put (mPc_agr g hr (by omega))
theorem r_train {r : Int32} (h : Ok n ν) (g : Agr n μ ν) : AnR (sTrain μ n r) (sTrain ν n r) := by
  unfold sTrain
  refine AnR.ite (fun c => ?_) (fun _ => AnR.low)
  have hn := h.1
  obtain ⟨r, rfl, hr⟩ := rgR c h.1
  rw [cl_nI (show r < 2147483648 by omega)]
  refine AnR.row (trainC_agr g hr (by omega)) (h.pacesTo hr (fun z hz => trainM_off (by omega)) (fun y hy => ?_)) (trainM_agr g hr (by omega))
  rw [show 33 + 37 * r + (7 + y) = 33 + 37 * r + 7 + y by omega, trainM_at hy]
  exact mPc_rg
theorem r_even {r : Int32} (h : Ok n ν) (g : Agr n μ ν) : AnR (sEven μ n r) (sEven ν n r) := by
  unfold sEven
  refine AnR.ite (fun c => ?_) (fun _ => AnR.low)
  have hn := h.1
  obtain ⟨r, rfl, hr⟩ := rgR c h.1
  rw [cl_nI (show r < 2147483648 by omega)]
  refine AnR.row (congrArg eP (amin_congr fun i hi => ?_)) h g
  exact mean_agr (ev_agr g) hr
theorem r_costs {r y : Int32} (h : Ok n ν) (g : Agr n μ ν) : AnR (sCosts μ n r y) (sCosts ν n r y) := by
  unfold sCosts
  refine AnR.ite (fun c => ?_) (fun _ => AnR.low)
  have hn := h.1
  obtain ⟨r, rfl, hr⟩ := rgR c.1 h.1
  rw [cl_nI (show r < 2147483648 by omega)]
  exact AnR.row (by rw [g 0 (by omega), mRow_agr g hr (by omega), mRow_agr (s := 0) g hr (by omega)]) h g
theorem r_worst {r : Int32} (h : Ok n ν) (g : Agr n μ ν) : AnR (sWorst μ n r) (sWorst ν n r) := by
  unfold sWorst
  refine AnR.ite (fun c => ?_) (fun _ => AnR.low)
  have hn := h.1
  obtain ⟨r, rfl, hr⟩ := rgR c h.1
  rw [cl_nI (show r < 2147483648 by omega)]
  refine AnR.row (congrArg oI (amin_congr fun i hi => ?_)) h g
  exact mean_agr (g.put rfl) hr
theorem r_spoon {r : Int32} (h : Ok n ν) (g : Agr n μ ν) : AnR (sSpoon μ n r) (sSpoon ν n r) := by
  unfold sSpoon
  refine AnR.ite (fun c => ?_) (fun _ => AnR.low)
  have hn := h.1
  obtain ⟨r, rfl, hr⟩ := rgR c h.1
  rw [cl_nI (show r < 2147483648 by omega)]
  refine AnR.row (congrArg oI (amin_congr fun i hi => ?_)) h g
  unfold spV
  rw [mean_agr (g.put rfl) hr]
theorem arD_agr {r : Nat} {v : Int32} (g : Agr n μ ν) (hr : r < n) : ∀ d, arD μ r v d = arD ν r v d
  | 0 => rfl
  | d + 1 => by
    unfold arD
    rw [arD_agr g hr d, mean_agr (g.put rfl) hr]
theorem r_armFor {r v : Int32} (h : Ok n ν) (g : Agr n μ ν) : AnR (sArmFor μ n r v) (sArmFor ν n r v) := by
  unfold sArmFor
  refine AnR.ite (fun c => ?_) (fun _ => AnR.low)
  have hn := h.1
  obtain ⟨r, rfl, hr⟩ := rgR c.1 h.1
  rw [cl_nI (show r < 2147483648 by omega), arD_agr g hr]
  cases arD ν r v 10 with
  | none => exact AnR.low
  | some a => exact AnR.row rfl h g
theorem lat_agr (g : Agr n μ ν) : ∀ {k : Nat}, k ≤ n → latS μ k = latS ν k
  | 0, _ => rfl
  | k + 1, hk => by
    unfold latS
    rw [lat_agr g (k := k) (by omega), mean_agr g (by omega)]
theorem r_later {r : Int32} (h : Ok n ν) (g : Agr n μ ν) : AnR (sLater μ n r) (sLater ν n r) := by
  unfold sLater
  refine AnR.ite (fun c => ?_) (fun _ => AnR.low)
  have hn := h.1
  obtain ⟨r, rfl, hr⟩ := rgR c h.1
  rw [cl_nI (show r < 2147483648 by omega)]
  exact AnR.row (by rw [lat_agr g (Nat.le_refl n), mean_agr g hr]) h g
theorem leg_agr {r l : Nat} (g : Agr n μ ν) (hr : r < n) (hl : l < 3) : legS μ r l = legS ν r l := by
  unfold legS
  exact mRow_agr g hr (by omega)
theorem tv_agr {x : Int32} {k : Nat} (g : Agr n μ ν) (hn : n ≤ 6) (hx : 0 ≤ x ∧ x ≤ 1 <<< (nI n &&& 31) - 1) (hk : k < 216) (hP : teamP x k) : tv μ k = tv ν k := by
  obtain ⟨h1, h2, h3⟩ := team_lt hn hx hk hP
  unfold tv
  rw [leg_agr g h1 (by omega), leg_agr g h2 (by omega), leg_agr g h3 (by omega)]
theorem tmS_agr {x : Int32} (g : Agr n μ ν) (hn : n ≤ 6) (hx : 0 ≤ x ∧ x ≤ 1 <<< (nI n &&& 31) - 1) : ∀ {k : Nat}, k ≤ 216 → tmS μ x k = tmS ν x k
  | 0, _ => rfl
  | k + 1, hk => by
    have ih := tmS_agr g hn hx (k := k) (by omega)
    unfold tmS
    rw [ih]
    by_cases hP : teamP x k
    · rw [if_pos hP, if_pos hP]
      cases hb : tmS ν x k with
      | none => rfl
      | some b =>
        have q := tmS_P hb
        dsimp only
        rw [tv_agr g hn hx (by omega) hP, tv_agr g hn hx (by omega) q.2]
    · rw [if_neg hP, if_neg hP]
theorem r_team {x : Int32} (h : Ok n ν) (g : Agr n μ ν) : AnR (sTeam μ n x) (sTeam ν n x) := by
  unfold sTeam
  refine AnR.ite (fun c => ?_) (fun _ => AnR.low)
  rw [tmS_agr g h.1 c.1 (by omega)]
  refine AnR.row ?_ h g
  cases hb : tmS ν x 216 with
  | none => rfl
  | some b =>
    have q := tmS_P hb
    exact tv_agr g h.1 c.1 (by omega) q.2
theorem r_leg {x i : Int32} (h : Ok n ν) (g : Agr n μ ν) : AnR (sLeg μ n x i) (sLeg ν n x i) := by
  unfold sLeg
  refine AnR.ite (fun c => ?_) (fun _ => AnR.low)
  rw [tmS_agr g h.1 c.1.1 (by omega)]
  cases tmS ν x 216 with
  | none => exact AnR.low
  | some b => exact AnR.row rfl h g
theorem sus_agr {r y k : Nat} (g : Agr n μ ν) (hr : r < n) (hy : y + k ≤ 30) : ∀ m, susS μ r y k m = susS ν r y k m
  | 0 => rfl
  | m + 1 => by
    have e1 : dS (asK μ r 5) r k y m 0 = dS (asK ν r 5) r k y m 0 := dS_agr (g.put rfl) hr hy
    have e2 : dS μ r k y m 0 = dS ν r k y m 0 := dS_agr g hr hy
    unfold susS susP
    rw [e1, e2, sus_agr g hr hy m]
theorem r_suspect {r y k : Int32} (h : Ok n ν) (g : Agr n μ ν) : AnR (sSuspect μ n r y k) (sSuspect ν n r y k) := by
  unfold sSuspect
  refine AnR.ite (fun c => ?_) (fun _ => AnR.low)
  have hn := h.1
  obtain ⟨r, y, k, rfl, rfl, rfl, hr, hy, hk, hyk⟩ := str_nat c.1 h.1 (B := 8) rfl (by omega)
  rw [cl_nI (show r < 2147483648 by omega), cl_nI (show y < 2147483648 by omega), cl_nI (show k < 2147483648 by omega), sus_agr g hr hyk]
  cases susS ν r y k (k + 1) with
  | none => exact AnR.low
  | some j => exact AnR.row rfl h g
theorem rn_agr (h : Ok n ν) (g : Agr n μ ν) : ∀ k, Ok n (rnM ν k) ∧ Agr n (rnM μ k) (rnM ν k)
  | 0 => ⟨h, g⟩
  | k + 1 => by
    obtain ⟨ih, ig⟩ := rn_agr h g k
    obtain ⟨z1, v1⟩ := draw_agr ig
    have g1 : Agr n (rn1 (rnM μ k)) (rn1 (rnM ν k)) := ig.put z1
    obtain ⟨z2, v2⟩ := draw_agr g1
    have g2 : Agr n (rn1 (rn1 (rnM μ k))) (rn1 (rn1 (rnM ν k))) := g1.put z2
    obtain ⟨j, hj, ej⟩ := draw_rem (rnM ν k) 30 (by omega) (by omega)
    obtain ⟨i, hi, ei⟩ := draw_rem (rn1 (rnM ν k)) 5 (by omega) (by omega)
    have ej' : rem (drawV (rnM ν k)) 30 = nI j := ej
    have ei' : rem (drawV (rn1 (rnM ν k))) 5 = nI i := ei
    unfold rnM
    rw [v1, v2, ej', ei', cl_nI (by omega)]
    exact ⟨(ih.z.z).grass hj hi, g2.put rfl⟩
theorem r_rain {k : Int32} (h : Ok n ν) (g : Agr n μ ν) : AnR (sRain μ k) (sRain ν k) := by
  unfold sRain
  refine AnR.ite (fun c => ?_) (fun _ => AnR.low)
  obtain ⟨h1, g1⟩ := rn_agr h g (cl k)
  exact AnR.row (gr_agr g1 (by omega)) h1 g1
theorem r_seed {v : Int32} (h : Ok n ν) (g : Agr n μ ν) : AnR (sSeed μ v) (sSeed ν v) := AnR.row (g 1 (by omega)) h.z (g.put rfl)
theorem r_hold {s r : Int32} (h : Ok n ν) (g : Agr n μ ν) : AnR (sHold μ n s r) (sHold ν n s r) := by
  unfold sHold
  refine AnR.ite (fun c => ?_) (fun _ => AnR.low)
  have hn := h.1
  obtain ⟨s, rfl, -, hs⟩ := rg 0 9 c.1 (by omega) (by omega)
  rw [cl_nI (show s < 2147483648 by omega)]
  refine AnR.row rfl ?_ (g.put rfl)
  obtain ⟨h1, h2, h3, h4, h5, h6⟩ := h
  refine ⟨h1, by rw [pk_un (by omega)]; exact h2, by rw [pk_un (by omega)]; exact h3, fun y hy => by rw [pk_un (by omega)]; exact h4 y hy, fun q hq => ?_, fun k hk => ?_⟩
  · obtain ⟨b1, b2, b3, b4, b5, b6⟩ := h5 q hq
    unfold RunOk fl
    rw [pk_un (by omega), pk_un (by omega), pk_un (by omega), pk_un (by omega), pk_un (by omega)]
    exact ⟨b1, b2, b3, b4, b5, fun y hy => by rw [pk_un (by omega)]; exact b6 y hy⟩
  · by_cases e : k = s
    · subst e
      rw [pk_us]
      rcases c.2 with z | z
      · exact Or.inl z
      · obtain ⟨q, rfl, hq⟩ := rgR z hn
        exact Or.inr ⟨q, hq, rfl⟩
    · rw [pk_un (by omega)]; exact h6 k hk
theorem r_as {s k : Int32} (h : Ok n ν) (g : Agr n μ ν) : AnR (sAs μ s k) (sAs ν s k) := by
  unfold sAs
  refine AnR.ite (fun c => ?_) (fun _ => AnR.low)
  have hn := h.1
  obtain ⟨s, rfl, -, hs⟩ := rg 0 9 c.1 (by omega) (by omega)
  rw [cl_nI (show s < 2147483648 by omega), g (255 + s) (by omega)]
  refine AnR.ite (fun _ => AnR.low) (fun q => ?_)
  rcases h.2.2.2.2.2 s (by omega) with e | ⟨r, hr, e⟩
  · rw [e] at q; exact absurd (by decide) q
  · rw [e, cl_nI (show r < 2147483648 by omega), show fl μ r 0 = fl ν r 0 from g.fl hr (by omega)]
    exact AnR.ite (fun _ => AnR.row rfl h g) (fun _ => AnR.low)
theorem r_count {t : Nat} {w : Int32} (h : Ok n ν) (g : Agr n μ ν) : AnR (sCount μ n t w) (sCount ν n t w) := by
  unfold sCount
  rw [home_agr g (Nat.le_refl n), ad_agr g (Nat.le_refl n), gr_agr g (Nat.le_refl 30), hg_agr g (Nat.le_refl 10), g 0 (by omega), g 1 (by omega)]
  exact AnR.ite (fun _ => AnR.row rfl h g) (fun _ => AnR.ite (fun _ => AnR.row rfl h g) (fun _ => AnR.ite (fun _ => AnR.row rfl h g) (fun _ => AnR.ite (fun _ => AnR.row rfl h g) (fun _ => AnR.ite (fun _ => AnR.row rfl h g) (fun _ => AnR.ite (fun _ => AnR.row rfl h g) (fun _ => AnR.ite (fun _ => AnR.row rfl h g) (fun _ => AnR.ite (fun _ => AnR.row rfl h g) (fun _ => AnR.low))))))))
theorem r_status {φ : Fl} {w : Int32} (h : Ok n ν) (g : Agr n μ ν) : AnR (sStatus μ φ w) (sStatus ν φ w) := by
  unfold sStatus
  exact AnR.ite (fun _ => AnR.row rfl h g) (fun _ => AnR.low)
theorem r_clean {r y k : Int32} (h : Ok n ν) (g : Agr n μ ν) : sClean μ n r y k = sClean ν n r y k := by
  unfold sClean
  by_cases c : strP n r y k 12
  · rw [if_pos c, if_pos c]
    have hn := h.1
    obtain ⟨r, y, k, rfl, rfl, rfl, hr, hy, hk, hyk⟩ := str_nat c h.1 (B := 12) rfl (by omega)
    rw [cl_nI (show r < 2147483648 by omega), cl_nI (show y < 2147483648 by omega), cl_nI (show k < 2147483648 by omega), clean_agr g hr hyk]
  · rw [if_neg c, if_neg c]
theorem r_drops {r y k j : Int32} (h : Ok n ν) (g : Agr n μ ν) : sDrops μ n r y k j = sDrops ν n r y k j := by
  unfold sDrops
  by_cases c : strP n r y k 10 ∧ (0 ≤ j ∧ j ≤ k)
  · rw [if_pos c, if_pos c]
    have hn := h.1
    obtain ⟨c, -⟩ := c
    obtain ⟨r, y, k, rfl, rfl, rfl, hr, hy, hk, hyk⟩ := str_nat c h.1 (B := 10) rfl (by omega)
    rw [cl_nI (show r < 2147483648 by omega), cl_nI (show y < 2147483648 by omega), cl_nI (show k < 2147483648 by omega), dS_agr g hr hyk]
  · rw [if_neg c, if_neg c]
theorem r_gum {r y k j w : Int32} (h : Ok n ν) (g : Agr n μ ν) : sGum μ n r y k j w = sGum ν n r y k j w := by
  unfold sGum
  by_cases c : strP n r y k 8 ∧ (¬ k = 0) ∧ (0 ≤ j ∧ j ≤ k) ∧ (0 ≤ w ∧ w ≤ 1)
  · rw [if_pos c, if_pos c]
    have hn := h.1
    obtain ⟨c, -⟩ := c
    obtain ⟨r, y, k, rfl, rfl, rfl, hr, hy, hk, hyk⟩ := str_nat c h.1 (B := 8) rfl (by omega)
    rw [cl_nI (show r < 2147483648 by omega), cl_nI (show y < 2147483648 by omega), cl_nI (show k < 2147483648 by omega), show fl μ r 0 = fl ν r 0 from g.fl hr (by omega)]
    rw [dS_agr (μ := asK μ r (if w = 0 then 5 else fl ν r 0)) (ν := asK ν r (if w = 0 then 5 else fl ν r 0)) (g.put rfl) hr hyk]
  · rw [if_neg c, if_neg c]
end RF
