/-! the calls: both answer alike, and the relation stands -/
def Pair (Y8 Y9 : MI) (av : List Value) (σ : St) : Prop := ∃ Rz1 : RZ, AMet Y8 (.ref 0 :: av) σ Rz1 ∧ ∀ v σ1, Rz1 v σ1 → (∃ x, v = some (.int x)) ∧ ∃ Rz2 : RZ, AMet Y9 (.ref 73 :: av) σ1 Rz2 ∧ ∀ w σ2, Rz2 w σ2 → v = w ∧ Rel σ2
def PairL (Y8 Y9 : MI) (av : List Value) (σ : St) : Prop := ∃ Rz1 : RZ, AMet Y8 (.ref 0 :: av) σ Rz1 ∧ ∀ v σ1, Rz1 v σ1 → (∃ x, v = some (.long x)) ∧ ∃ Rz2 : RZ, AMet Y9 (.ref 73 :: av) σ1 Rz2 ∧ ∀ w σ2, Rz2 w σ2 → v = w ∧ Rel σ2
theorem p_ground {σ : St} (h : Rel σ) (a0 a1 : Int32) : Pair Y_X8_ground Y_X9_ground [.int a0, .int a1] σ := by
  obtain ⟨⟨n, ok, g⟩, h3, h4, ⟨m, h5, h6⟩, ⟨t, h7, h8, h9, h10⟩, h11, h12, h13⟩ := id h
  have ok0 := ok.agr g.sym
  refine ⟨_, c_X8_ground σ n ok0 a0 a1, fun v σ1 h1 => ⟨⟨_, h1.1⟩, ?_⟩⟩
  have e20 : σ1.1 20 = σ.1 20 := pc_off (r := 20) h1 (by decide) (by decide) (by decide)
  refine ⟨_, c_X9_ground σ1 a0 a1, fun w σ2 h2 => ?_⟩
  rw [e20] at h2
  exact rel_an h (r_ground ok g) h1 h2
theorem p_pick {σ : St} (h : Rel σ) (a0 : Int32) : Pair Y_X8_pick Y_X9_pick [.int a0] σ := by
  obtain ⟨⟨n, ok, g⟩, h3, h4, ⟨m, h5, h6⟩, ⟨t, h7, h8, h9, h10⟩, h11, h12, h13⟩ := id h
  have ok0 := ok.agr g.sym
  refine ⟨_, c_X8_pick σ n ok0 a0, fun v σ1 h1 => ⟨⟨_, h1.1⟩, ?_⟩⟩
  have e20 : σ1.1 20 = σ.1 20 := pc_off (r := 20) h1 (by decide) (by decide) (by decide)
  refine ⟨_, c_X9_pick σ1 a0, fun w σ2 h2 => ?_⟩
  rw [e20] at h2
  exact rel_an h (r_pick ok g) h1 h2
theorem p_runner {σ : St} (h : Rel σ) (a0 a1 a2 : Int32) : Pair Y_X8_runner Y_X9_runner [.int a0, .int a1, .int a2] σ := by
  obtain ⟨⟨n, ok, g⟩, h3, h4, ⟨m, h5, h6⟩, ⟨t, h7, h8, h9, h10⟩, h11, h12, h13⟩ := id h
  have ok0 := ok.agr g.sym
  refine ⟨_, c_X8_runner σ n ok0 a0 a1 a2, fun v σ1 h1 => ⟨⟨_, h1.1⟩, ?_⟩⟩
  have e20 : σ1.1 20 = σ.1 20 := pc_off (r := 20) h1 (by decide) (by decide) (by decide)
  refine ⟨_, c_X9_runner σ1 n (by rw [e20]; exact ok.2.1) ok.1 a0 a1 a2, fun w σ2 h2 => ?_⟩
  rw [e20] at h2
  exact rel_an h (r_runner ok g) h1 h2
theorem p_of {σ : St} (h : Rel σ) (a0 a1 : Int32) : Pair Y_X8_of Y_X9_of [.int a0, .int a1] σ := by
  obtain ⟨⟨n, ok, g⟩, h3, h4, ⟨m, h5, h6⟩, ⟨t, h7, h8, h9, h10⟩, h11, h12, h13⟩ := id h
  have ok0 := ok.agr g.sym
  refine ⟨_, c_X8_of σ n ok0 a0 a1, fun v σ1 h1 => ⟨⟨_, h1.1⟩, ?_⟩⟩
  have e20 : σ1.1 20 = σ.1 20 := pc_off (r := 20) h1 (by decide) (by decide) (by decide)
  refine ⟨_, c_X9_of σ1 n (by rw [e20]; exact ok.2.1) ok.1 a0 a1, fun w σ2 h2 => ?_⟩
  rw [e20] at h2
  exact rel_an h (r_of ok g) h1 h2
theorem p_change {σ : St} (h : Rel σ) (a0 a1 a2 : Int32) : Pair Y_X8_change Y_X9_change [.int a0, .int a1, .int a2] σ := by
  obtain ⟨⟨n, ok, g⟩, h3, h4, ⟨m, h5, h6⟩, ⟨t, h7, h8, h9, h10⟩, h11, h12, h13⟩ := id h
  have ok0 := ok.agr g.sym
  refine ⟨_, c_X8_change σ n ok0 a0 a1 a2, fun v σ1 h1 => ⟨⟨_, h1.1⟩, ?_⟩⟩
  have e20 : σ1.1 20 = σ.1 20 := pc_off (r := 20) h1 (by decide) (by decide) (by decide)
  refine ⟨_, c_X9_change σ1 n (by rw [e20]; exact ok.2.1) ok.1 a0 a1 a2, fun w σ2 h2 => ?_⟩
  rw [e20] at h2
  exact rel_an h (r_change ok g) h1 h2
theorem p_pace {σ : St} (h : Rel σ) (a0 a1 a2 a3 : Int32) : Pair Y_X8_pace Y_X9_pace [.int a0, .int a1, .int a2, .int a3] σ := by
  obtain ⟨⟨n, ok, g⟩, h3, h4, ⟨m, h5, h6⟩, ⟨t, h7, h8, h9, h10⟩, h11, h12, h13⟩ := id h
  have ok0 := ok.agr g.sym
  refine ⟨_, c_X8_pace σ n ok0 a0 a1 a2 a3, fun v σ1 h1 => ⟨⟨_, h1.1⟩, ?_⟩⟩
  have e20 : σ1.1 20 = σ.1 20 := pc_off (r := 20) h1 (by decide) (by decide) (by decide)
  refine ⟨_, c_X9_pace σ1 n (by rw [e20]; exact ok.2.1) ok.1 a0 a1 a2 a3, fun w σ2 h2 => ?_⟩
  rw [e20] at h2
  exact rel_an h (r_pace ok g) h1 h2
theorem p_paceOf {σ : St} (h : Rel σ) (a0 a1 : Int32) : Pair Y_X8_paceOf Y_X9_paceOf [.int a0, .int a1] σ := by
  obtain ⟨⟨n, ok, g⟩, h3, h4, ⟨m, h5, h6⟩, ⟨t, h7, h8, h9, h10⟩, h11, h12, h13⟩ := id h
  have ok0 := ok.agr g.sym
  refine ⟨_, c_X8_paceOf σ n ok0 a0 a1, fun v σ1 h1 => ⟨⟨_, h1.1⟩, ?_⟩⟩
  have e20 : σ1.1 20 = σ.1 20 := pc_off (r := 20) h1 (by decide) (by decide) (by decide)
  refine ⟨_, c_X9_paceOf σ1 n (by rw [e20]; exact ok.2.1) ok.1 a0 a1, fun w σ2 h2 => ?_⟩
  rw [e20] at h2
  exact rel_an h (r_paceOf ok g) h1 h2
theorem p_told {σ : St} (h : Rel σ) (a0 a1 a2 : Int32) : Pair Y_X8_told Y_X9_told [.int a0, .int a1, .int a2] σ := by
  obtain ⟨⟨n, ok, g⟩, h3, h4, ⟨m, h5, h6⟩, ⟨t, h7, h8, h9, h10⟩, h11, h12, h13⟩ := id h
  have ok0 := ok.agr g.sym
  refine ⟨_, c_X8_told σ n ok0 a0 a1 a2, fun v σ1 h1 => ⟨⟨_, h1.1⟩, ?_⟩⟩
  have e20 : σ1.1 20 = σ.1 20 := pc_off (r := 20) h1 (by decide) (by decide) (by decide)
  refine ⟨_, c_X9_told σ1 n (by rw [e20]; exact ok.2.1) ok.1 a0 a1 a2, fun w σ2 h2 => ?_⟩
  rw [e20] at h2
  exact rel_an h (r_told ok g) h1 h2
theorem p_odds {σ : St} (h : Rel σ) (a0 a1 a2 a3 : Int32) : Pair Y_X8_odds Y_X9_odds [.int a0, .int a1, .int a2, .int a3] σ := by
  obtain ⟨⟨n, ok, g⟩, h3, h4, ⟨m, h5, h6⟩, ⟨t, h7, h8, h9, h10⟩, h11, h12, h13⟩ := id h
  have ok0 := ok.agr g.sym
  refine ⟨_, c_X8_odds σ n ok0 a0 a1 a2 a3, fun v σ1 h1 => ⟨⟨_, h1.1⟩, ?_⟩⟩
  have e20 : σ1.1 20 = σ.1 20 := pc_off (r := 20) h1 (by decide) (by decide) (by decide)
  refine ⟨_, c_X9_odds σ1 n (by rw [e20]; exact ok.2.1) ok.1 a0 a1 a2 a3, fun w σ2 h2 => ?_⟩
  rw [e20] at h2
  exact rel_an h (r_odds ok g) h1 h2
theorem p_now {σ : St} (h : Rel σ) (a0 : Int32) : Pair Y_X8_now Y_X9_now [.int a0] σ := by
  obtain ⟨⟨n, ok, g⟩, h3, h4, ⟨m, h5, h6⟩, ⟨t, h7, h8, h9, h10⟩, h11, h12, h13⟩ := id h
  have ok0 := ok.agr g.sym
  refine ⟨_, c_X8_now σ n ok0 a0, fun v σ1 h1 => ⟨⟨_, h1.1⟩, ?_⟩⟩
  have e20 : σ1.1 20 = σ.1 20 := pc_off (r := 20) h1 (by decide) (by decide) (by decide)
  refine ⟨_, c_X9_now σ1 n (by rw [e20]; exact ok) a0, fun w σ2 h2 => ?_⟩
  rw [e20] at h2
  exact rel_an h (r_now ok g) h1 h2
theorem p_nerves {σ : St} (h : Rel σ) (a0 : Int32) : Pair Y_X8_nerves Y_X9_nerves [.int a0] σ := by
  obtain ⟨⟨n, ok, g⟩, h3, h4, ⟨m, h5, h6⟩, ⟨t, h7, h8, h9, h10⟩, h11, h12, h13⟩ := id h
  have ok0 := ok.agr g.sym
  refine ⟨_, c_X8_nerves σ n ok0 a0, fun v σ1 h1 => ⟨⟨_, h1.1⟩, ?_⟩⟩
  have e20 : σ1.1 20 = σ.1 20 := pc_off (r := 20) h1 (by decide) (by decide) (by decide)
  refine ⟨_, c_X9_nerves σ1 n (by rw [e20]; exact ok.2.1) ok.1 a0, fun w σ2 h2 => ?_⟩
  rw [e20] at h2
  exact rel_an h (r_nerves ok g) h1 h2
theorem p_next {σ : St} (h : Rel σ) : Pair Y_X8_next Y_X9_next [] σ := by
  obtain ⟨⟨n, ok, g⟩, h3, h4, ⟨m, h5, h6⟩, ⟨t, h7, h8, h9, h10⟩, h11, h12, h13⟩ := id h
  have ok0 := ok.agr g.sym
  refine ⟨_, c_X8_next σ n ok0, fun v σ1 h1 => ⟨⟨_, h1.1⟩, ?_⟩⟩
  have e20 : σ1.1 20 = σ.1 20 := pc_off (r := 20) h1 (by decide) (by decide) (by decide)
  refine ⟨_, c_X9_next σ1 n (by rw [e20]; exact ok.2.1) ok.1, fun w σ2 h2 => ?_⟩
  rw [e20] at h2
  exact rel_an h (r_next ok g) h1 h2
theorem p_steps {σ : St} (h : Rel σ) (a0 : Int32) : Pair Y_X8_steps Y_X9_steps [.int a0] σ := by
  obtain ⟨⟨n, ok, g⟩, h3, h4, ⟨m, h5, h6⟩, ⟨t, h7, h8, h9, h10⟩, h11, h12, h13⟩ := id h
  have ok0 := ok.agr g.sym
  refine ⟨_, c_X8_steps σ n ok0 a0, fun v σ1 h1 => ⟨⟨_, h1.1⟩, ?_⟩⟩
  have e20 : σ1.1 20 = σ.1 20 := pc_off (r := 20) h1 (by decide) (by decide) (by decide)
  refine ⟨_, c_X9_steps σ1 n (by rw [e20]; exact ok) a0, fun w σ2 h2 => ?_⟩
  rw [e20] at h2
  exact rel_an h (r_steps ok g) h1 h2
theorem p_start {σ : St} (h : Rel σ) : Pair Y_X8_start Y_X9_start [] σ := by
  obtain ⟨⟨n, ok, g⟩, h3, h4, ⟨m, h5, h6⟩, ⟨t, h7, h8, h9, h10⟩, h11, h12, h13⟩ := id h
  have ok0 := ok.agr g.sym
  refine ⟨_, c_X8_start σ n ok0, fun v σ1 h1 => ⟨⟨_, h1.1⟩, ?_⟩⟩
  have e20 : σ1.1 20 = σ.1 20 := pc_off (r := 20) h1 (by decide) (by decide) (by decide)
  refine ⟨_, c_X9_start σ1 n (by rw [e20]; exact ok.2.1) ok.1, fun w σ2 h2 => ?_⟩
  rw [e20] at h2
  exact rel_an h (r_start ok g) h1 h2
theorem p_ahead {σ : St} (h : Rel σ) (a0 a1 : Int32) : Pair Y_X8_ahead Y_X9_ahead [.int a0, .int a1] σ := by
  obtain ⟨⟨n, ok, g⟩, h3, h4, ⟨m, h5, h6⟩, ⟨t, h7, h8, h9, h10⟩, h11, h12, h13⟩ := id h
  have ok0 := ok.agr g.sym
  refine ⟨_, c_X8_ahead σ n ok0 a0 a1, fun v σ1 h1 => ⟨⟨_, h1.1⟩, ?_⟩⟩
  have e20 : σ1.1 20 = σ.1 20 := pc_off (r := 20) h1 (by decide) (by decide) (by decide)
  refine ⟨_, c_X9_ahead σ1 n (by rw [e20]; exact ok) a0 a1, fun w σ2 h2 => ?_⟩
  rw [e20] at h2
  exact rel_an h (r_ahead ok g) h1 h2
theorem p_winner {σ : St} (h : Rel σ) : Pair Y_X8_winner Y_X9_winner [] σ := by
  obtain ⟨⟨n, ok, g⟩, h3, h4, ⟨m, h5, h6⟩, ⟨t, h7, h8, h9, h10⟩, h11, h12, h13⟩ := id h
  have ok0 := ok.agr g.sym
  refine ⟨_, c_X8_winner σ n ok0, fun v σ1 h1 => ⟨⟨_, h1.1⟩, ?_⟩⟩
  have e20 : σ1.1 20 = σ.1 20 := pc_off (r := 20) h1 (by decide) (by decide) (by decide)
  refine ⟨_, c_X9_winner σ1 n (by rw [e20]; exact ok), fun w σ2 h2 => ?_⟩
  rw [e20] at h2
  exact rel_an h (r_winner ok g) h1 h2
theorem p_place {σ : St} (h : Rel σ) (a0 : Int32) : Pair Y_X8_place Y_X9_place [.int a0] σ := by
  obtain ⟨⟨n, ok, g⟩, h3, h4, ⟨m, h5, h6⟩, ⟨t, h7, h8, h9, h10⟩, h11, h12, h13⟩ := id h
  have ok0 := ok.agr g.sym
  refine ⟨_, c_X8_place σ n ok0 a0, fun v σ1 h1 => ⟨⟨_, h1.1⟩, ?_⟩⟩
  have e20 : σ1.1 20 = σ.1 20 := pc_off (r := 20) h1 (by decide) (by decide) (by decide)
  refine ⟨_, c_X9_place σ1 n (by rw [e20]; exact ok) a0, fun w σ2 h2 => ?_⟩
  rw [e20] at h2
  exact rel_an h (r_place ok g) h1 h2
theorem p_wins {σ : St} (h : Rel σ) (a0 a1 : Int32) : Pair Y_X8_wins Y_X9_wins [.int a0, .int a1] σ := by
  obtain ⟨⟨n, ok, g⟩, h3, h4, ⟨m, h5, h6⟩, ⟨t, h7, h8, h9, h10⟩, h11, h12, h13⟩ := id h
  have ok0 := ok.agr g.sym
  refine ⟨_, c_X8_wins σ n ok0 a0 a1, fun v σ1 h1 => ⟨⟨_, h1.1⟩, ?_⟩⟩
  have e20 : σ1.1 20 = σ.1 20 := pc_off (r := 20) h1 (by decide) (by decide) (by decide)
  refine ⟨_, c_X9_wins σ1 n (by rw [e20]; exact ok) a0 a1, fun w σ2 h2 => ?_⟩
  rw [e20] at h2
  exact rel_an h (r_wins ok g) h1 h2
theorem p_clean {σ : St} (h : Rel σ) (a0 a1 a2 : Int32) : PairL Y_X8_clean Y_X9_clean [.int a0, .int a1, .int a2] σ := by
  obtain ⟨⟨n, ok, g⟩, h3, h4, ⟨m, h5, h6⟩, ⟨t, h7, h8, h9, h10⟩, h11, h12, h13⟩ := id h
  have ok0 := ok.agr g.sym
  refine ⟨_, c_X8_clean σ n ok0 a0 a1 a2, fun v σ1 h1 => ⟨⟨_, h1.1⟩, ?_⟩⟩
  have e20 : σ1.1 20 = σ.1 20 := pcl_off (r := 20) h1 (by decide) (by decide)
  refine ⟨_, c_X9_clean σ1 n (by rw [e20]; exact ok.2.1) ok.1 a0 a1 a2, fun w σ2 h2 => ?_⟩
  rw [e20] at h2
  rw [← r_clean ok g] at h2
  exact rel_lan h h1 h2
theorem p_drops {σ : St} (h : Rel σ) (a0 a1 a2 a3 : Int32) : PairL Y_X8_drops Y_X9_drops [.int a0, .int a1, .int a2, .int a3] σ := by
  obtain ⟨⟨n, ok, g⟩, h3, h4, ⟨m, h5, h6⟩, ⟨t, h7, h8, h9, h10⟩, h11, h12, h13⟩ := id h
  have ok0 := ok.agr g.sym
  refine ⟨_, c_X8_drops σ n ok0 a0 a1 a2 a3, fun v σ1 h1 => ⟨⟨_, h1.1⟩, ?_⟩⟩
  have e20 : σ1.1 20 = σ.1 20 := pcl_off (r := 20) h1 (by decide) (by decide)
  refine ⟨_, c_X9_drops σ1 n (by rw [e20]; exact ok.2.1) ok.1 a0 a1 a2 a3, fun w σ2 h2 => ?_⟩
  rw [e20] at h2
  rw [← r_drops ok g] at h2
  exact rel_lan h h1 h2
theorem p_mean {σ : St} (h : Rel σ) (a0 a1 a2 : Int32) : Pair Y_X8_mean Y_X9_mean [.int a0, .int a1, .int a2] σ := by
  obtain ⟨⟨n, ok, g⟩, h3, h4, ⟨m, h5, h6⟩, ⟨t, h7, h8, h9, h10⟩, h11, h12, h13⟩ := id h
  have ok0 := ok.agr g.sym
  refine ⟨_, c_X8_mean σ n ok0 a0 a1 a2, fun v σ1 h1 => ⟨⟨_, h1.1⟩, ?_⟩⟩
  have e20 : σ1.1 20 = σ.1 20 := pc_off (r := 20) h1 (by decide) (by decide) (by decide)
  refine ⟨_, c_X9_mean σ1 n (by rw [e20]; exact ok.2.1) ok.1 a0 a1 a2, fun w σ2 h2 => ?_⟩
  rw [e20] at h2
  exact rel_an h (r_mean ok g) h1 h2
theorem p_least {σ : St} (h : Rel σ) (a0 a1 a2 : Int32) : Pair Y_X8_least Y_X9_least [.int a0, .int a1, .int a2] σ := by
  obtain ⟨⟨n, ok, g⟩, h3, h4, ⟨m, h5, h6⟩, ⟨t, h7, h8, h9, h10⟩, h11, h12, h13⟩ := id h
  have ok0 := ok.agr g.sym
  refine ⟨_, c_X8_least σ n ok0 a0 a1 a2, fun v σ1 h1 => ⟨⟨_, h1.1⟩, ?_⟩⟩
  have e20 : σ1.1 20 = σ.1 20 := pc_off (r := 20) h1 (by decide) (by decide) (by decide)
  refine ⟨_, c_X9_least σ1 n (by rw [e20]; exact ok.2.1) ok.1 a0 a1 a2, fun w σ2 h2 => ?_⟩
  rw [e20] at h2
  exact rel_an h (r_least ok g) h1 h2
theorem p_best {σ : St} (h : Rel σ) (a0 a1 a2 : Int32) : Pair Y_X8_best Y_X9_best [.int a0, .int a1, .int a2] σ := by
  obtain ⟨⟨n, ok, g⟩, h3, h4, ⟨m, h5, h6⟩, ⟨t, h7, h8, h9, h10⟩, h11, h12, h13⟩ := id h
  have ok0 := ok.agr g.sym
  refine ⟨_, c_X8_best σ n ok0 a0 a1 a2, fun v σ1 h1 => ⟨⟨_, h1.1⟩, ?_⟩⟩
  have e20 : σ1.1 20 = σ.1 20 := pc_off (r := 20) h1 (by decide) (by decide) (by decide)
  refine ⟨_, c_X9_best σ1 n (by rw [e20]; exact ok.2.1) ok.1 a0 a1 a2, fun w σ2 h2 => ?_⟩
  rw [e20] at h2
  exact rel_an h (r_best ok g) h1 h2
theorem p_train {σ : St} (h : Rel σ) (a0 : Int32) : Pair Y_X8_train Y_X9_train [.int a0] σ := by
  obtain ⟨⟨n, ok, g⟩, h3, h4, ⟨m, h5, h6⟩, ⟨t, h7, h8, h9, h10⟩, h11, h12, h13⟩ := id h
  have ok0 := ok.agr g.sym
  refine ⟨_, c_X8_train σ n ok0 a0, fun v σ1 h1 => ⟨⟨_, h1.1⟩, ?_⟩⟩
  have e20 : σ1.1 20 = σ.1 20 := pc_off (r := 20) h1 (by decide) (by decide) (by decide)
  refine ⟨_, c_X9_train σ1 n (by rw [e20]; exact ok.2.1) ok.1 a0, fun w σ2 h2 => ?_⟩
  rw [e20] at h2
  exact rel_an h (r_train ok g) h1 h2
theorem p_even {σ : St} (h : Rel σ) (a0 : Int32) : Pair Y_X8_even Y_X9_even [.int a0] σ := by
  obtain ⟨⟨n, ok, g⟩, h3, h4, ⟨m, h5, h6⟩, ⟨t, h7, h8, h9, h10⟩, h11, h12, h13⟩ := id h
  have ok0 := ok.agr g.sym
  refine ⟨_, c_X8_even σ n ok0 a0, fun v σ1 h1 => ⟨⟨_, h1.1⟩, ?_⟩⟩
  have e20 : σ1.1 20 = σ.1 20 := pc_off (r := 20) h1 (by decide) (by decide) (by decide)
  refine ⟨_, c_X9_even σ1 n (by rw [e20]; exact ok.2.1) ok.1 a0, fun w σ2 h2 => ?_⟩
  rw [e20] at h2
  exact rel_an h (r_even ok g) h1 h2
theorem p_costs {σ : St} (h : Rel σ) (a0 a1 : Int32) : Pair Y_X8_costs Y_X9_costs [.int a0, .int a1] σ := by
  obtain ⟨⟨n, ok, g⟩, h3, h4, ⟨m, h5, h6⟩, ⟨t, h7, h8, h9, h10⟩, h11, h12, h13⟩ := id h
  have ok0 := ok.agr g.sym
  refine ⟨_, c_X8_costs σ n ok0 a0 a1, fun v σ1 h1 => ⟨⟨_, h1.1⟩, ?_⟩⟩
  have e20 : σ1.1 20 = σ.1 20 := pc_off (r := 20) h1 (by decide) (by decide) (by decide)
  refine ⟨_, c_X9_costs σ1 n (by rw [e20]; exact ok.2.1) ok.1 a0 a1, fun w σ2 h2 => ?_⟩
  rw [e20] at h2
  exact rel_an h (r_costs ok g) h1 h2
theorem p_worst {σ : St} (h : Rel σ) (a0 : Int32) : Pair Y_X8_worst Y_X9_worst [.int a0] σ := by
  obtain ⟨⟨n, ok, g⟩, h3, h4, ⟨m, h5, h6⟩, ⟨t, h7, h8, h9, h10⟩, h11, h12, h13⟩ := id h
  have ok0 := ok.agr g.sym
  refine ⟨_, c_X8_worst σ n ok0 a0, fun v σ1 h1 => ⟨⟨_, h1.1⟩, ?_⟩⟩
  have e20 : σ1.1 20 = σ.1 20 := pc_off (r := 20) h1 (by decide) (by decide) (by decide)
  refine ⟨_, c_X9_worst σ1 n (by rw [e20]; exact ok.2.1) ok.1 a0, fun w σ2 h2 => ?_⟩
  rw [e20] at h2
  exact rel_an h (r_worst ok g) h1 h2
theorem p_spoon {σ : St} (h : Rel σ) (a0 : Int32) : Pair Y_X8_spoon Y_X9_spoon [.int a0] σ := by
  obtain ⟨⟨n, ok, g⟩, h3, h4, ⟨m, h5, h6⟩, ⟨t, h7, h8, h9, h10⟩, h11, h12, h13⟩ := id h
  have ok0 := ok.agr g.sym
  refine ⟨_, c_X8_spoon σ n ok0 a0, fun v σ1 h1 => ⟨⟨_, h1.1⟩, ?_⟩⟩
  have e20 : σ1.1 20 = σ.1 20 := pc_off (r := 20) h1 (by decide) (by decide) (by decide)
  refine ⟨_, c_X9_spoon σ1 n (by rw [e20]; exact ok.2.1) ok.1 a0, fun w σ2 h2 => ?_⟩
  rw [e20] at h2
  exact rel_an h (r_spoon ok g) h1 h2
theorem p_armFor {σ : St} (h : Rel σ) (a0 a1 : Int32) : Pair Y_X8_armFor Y_X9_armFor [.int a0, .int a1] σ := by
  obtain ⟨⟨n, ok, g⟩, h3, h4, ⟨m, h5, h6⟩, ⟨t, h7, h8, h9, h10⟩, h11, h12, h13⟩ := id h
  have ok0 := ok.agr g.sym
  refine ⟨_, c_X8_armFor σ n ok0 a0 a1, fun v σ1 h1 => ⟨⟨_, h1.1⟩, ?_⟩⟩
  have e20 : σ1.1 20 = σ.1 20 := pc_off (r := 20) h1 (by decide) (by decide) (by decide)
  refine ⟨_, c_X9_armFor σ1 n (by rw [e20]; exact ok.2.1) ok.1 a0 a1, fun w σ2 h2 => ?_⟩
  rw [e20] at h2
  exact rel_an h (r_armFor ok g) h1 h2
theorem p_later {σ : St} (h : Rel σ) (a0 : Int32) : Pair Y_X8_later Y_X9_later [.int a0] σ := by
  obtain ⟨⟨n, ok, g⟩, h3, h4, ⟨m, h5, h6⟩, ⟨t, h7, h8, h9, h10⟩, h11, h12, h13⟩ := id h
  have ok0 := ok.agr g.sym
  refine ⟨_, c_X8_later σ n ok0 a0, fun v σ1 h1 => ⟨⟨_, h1.1⟩, ?_⟩⟩
  have e20 : σ1.1 20 = σ.1 20 := pc_off (r := 20) h1 (by decide) (by decide) (by decide)
  refine ⟨_, c_X9_later σ1 n (by rw [e20]; exact ok.2.1) ok.1 a0, fun w σ2 h2 => ?_⟩
  rw [e20] at h2
  exact rel_an h (r_later ok g) h1 h2
theorem p_team {σ : St} (h : Rel σ) (a0 : Int32) : Pair Y_X8_team Y_X9_team [.int a0] σ := by
  obtain ⟨⟨n, ok, g⟩, h3, h4, ⟨m, h5, h6⟩, ⟨t, h7, h8, h9, h10⟩, h11, h12, h13⟩ := id h
  have ok0 := ok.agr g.sym
  refine ⟨_, c_X8_team σ n ok0 a0, fun v σ1 h1 => ⟨⟨_, h1.1⟩, ?_⟩⟩
  have e20 : σ1.1 20 = σ.1 20 := pc_off (r := 20) h1 (by decide) (by decide) (by decide)
  refine ⟨_, c_X9_team σ1 n (by rw [e20]; exact ok) a0, fun w σ2 h2 => ?_⟩
  rw [e20] at h2
  exact rel_an h (r_team ok g) h1 h2
theorem p_leg {σ : St} (h : Rel σ) (a0 a1 : Int32) : Pair Y_X8_leg Y_X9_leg [.int a0, .int a1] σ := by
  obtain ⟨⟨n, ok, g⟩, h3, h4, ⟨m, h5, h6⟩, ⟨t, h7, h8, h9, h10⟩, h11, h12, h13⟩ := id h
  have ok0 := ok.agr g.sym
  refine ⟨_, c_X8_leg σ n ok0 a0 a1, fun v σ1 h1 => ⟨⟨_, h1.1⟩, ?_⟩⟩
  have e20 : σ1.1 20 = σ.1 20 := pc_off (r := 20) h1 (by decide) (by decide) (by decide)
  refine ⟨_, c_X9_leg σ1 n (by rw [e20]; exact ok) a0 a1, fun w σ2 h2 => ?_⟩
  rw [e20] at h2
  exact rel_an h (r_leg ok g) h1 h2
theorem p_gum {σ : St} (h : Rel σ) (a0 a1 a2 a3 a4 : Int32) : PairL Y_X8_gum Y_X9_gum [.int a0, .int a1, .int a2, .int a3, .int a4] σ := by
  obtain ⟨⟨n, ok, g⟩, h3, h4, ⟨m, h5, h6⟩, ⟨t, h7, h8, h9, h10⟩, h11, h12, h13⟩ := id h
  have ok0 := ok.agr g.sym
  refine ⟨_, c_X8_gum σ n ok0 a0 a1 a2 a3 a4, fun v σ1 h1 => ⟨⟨_, h1.1⟩, ?_⟩⟩
  have e20 : σ1.1 20 = σ.1 20 := pcl_off (r := 20) h1 (by decide) (by decide)
  refine ⟨_, c_X9_gum σ1 n (by rw [e20]; exact ok.2.1) ok.1 a0 a1 a2 a3 a4, fun w σ2 h2 => ?_⟩
  rw [e20] at h2
  rw [← r_gum ok g] at h2
  exact rel_lan h h1 h2
theorem p_suspect {σ : St} (h : Rel σ) (a0 a1 a2 : Int32) : Pair Y_X8_suspect Y_X9_suspect [.int a0, .int a1, .int a2] σ := by
  obtain ⟨⟨n, ok, g⟩, h3, h4, ⟨m, h5, h6⟩, ⟨t, h7, h8, h9, h10⟩, h11, h12, h13⟩ := id h
  have ok0 := ok.agr g.sym
  refine ⟨_, c_X8_suspect σ n ok0 a0 a1 a2, fun v σ1 h1 => ⟨⟨_, h1.1⟩, ?_⟩⟩
  have e20 : σ1.1 20 = σ.1 20 := pc_off (r := 20) h1 (by decide) (by decide) (by decide)
  refine ⟨_, c_X9_suspect σ1 n (by rw [e20]; exact ok.2.1) ok.1 a0 a1 a2, fun w σ2 h2 => ?_⟩
  rw [e20] at h2
  exact rel_an h (r_suspect ok g) h1 h2
theorem p_rain {σ : St} (h : Rel σ) (a0 : Int32) : Pair Y_X8_rain Y_X9_rain [.int a0] σ := by
  obtain ⟨⟨n, ok, g⟩, h3, h4, ⟨m, h5, h6⟩, ⟨t, h7, h8, h9, h10⟩, h11, h12, h13⟩ := id h
  have ok0 := ok.agr g.sym
  refine ⟨_, c_X8_rain σ n ok0 a0, fun v σ1 h1 => ⟨⟨_, h1.1⟩, ?_⟩⟩
  have e20 : σ1.1 20 = σ.1 20 := pc_off (r := 20) h1 (by decide) (by decide) (by decide)
  refine ⟨_, c_X9_rain σ1 a0, fun w σ2 h2 => ?_⟩
  rw [e20] at h2
  exact rel_an h (r_rain ok g) h1 h2
theorem p_seed {σ : St} (h : Rel σ) (a0 : Int32) : Pair Y_X8_seed Y_X9_seed [.int a0] σ := by
  obtain ⟨⟨n, ok, g⟩, h3, h4, ⟨m, h5, h6⟩, ⟨t, h7, h8, h9, h10⟩, h11, h12, h13⟩ := id h
  have ok0 := ok.agr g.sym
  refine ⟨_, c_X8_seed σ a0, fun v σ1 h1 => ⟨⟨_, h1.1⟩, ?_⟩⟩
  have e20 : σ1.1 20 = σ.1 20 := pc_off (r := 20) h1 (by decide) (by decide) (by decide)
  refine ⟨_, c_X9_seed σ1 a0, fun w σ2 h2 => ?_⟩
  rw [e20] at h2
  exact rel_an h (r_seed ok g) h1 h2
theorem p_hold {σ : St} (h : Rel σ) (a0 a1 : Int32) : Pair Y_X8_hold Y_X9_hold [.int a0, .int a1] σ := by
  obtain ⟨⟨n, ok, g⟩, h3, h4, ⟨m, h5, h6⟩, ⟨t, h7, h8, h9, h10⟩, h11, h12, h13⟩ := id h
  have ok0 := ok.agr g.sym
  refine ⟨_, c_X8_hold σ n ok0 a0 a1, fun v σ1 h1 => ⟨⟨_, h1.1⟩, ?_⟩⟩
  have e20 : σ1.1 20 = σ.1 20 := pc_off (r := 20) h1 (by decide) (by decide) (by decide)
  refine ⟨_, c_X9_hold σ1 n (by rw [e20]; exact ok.2.1) ok.1 a0 a1, fun w σ2 h2 => ?_⟩
  rw [e20] at h2
  exact rel_an h (r_hold ok g) h1 h2
theorem p_as {σ : St} (h : Rel σ) (a0 a1 : Int32) : Pair Y_X8_as Y_X9_as [.int a0, .int a1] σ := by
  obtain ⟨⟨n, ok, g⟩, h3, h4, ⟨m, h5, h6⟩, ⟨t, h7, h8, h9, h10⟩, h11, h12, h13⟩ := id h
  have ok0 := ok.agr g.sym
  refine ⟨_, c_X8_as σ n ok0 a0 a1, fun v σ1 h1 => ⟨⟨_, h1.1⟩, ?_⟩⟩
  have e20 : σ1.1 20 = σ.1 20 := pc_off (r := 20) h1 (by decide) (by decide) (by decide)
  refine ⟨_, c_X9_as σ1 n (by rw [e20]; exact ok) a0 a1, fun w σ2 h2 => ?_⟩
  rw [e20] at h2
  exact rel_an h (r_as ok g) h1 h2
theorem p_load {σ : St} (h : Rel σ) (a0 a1 : Int32) : Pair Y_X8_load Y_X9_load [.int a0, .int a1] σ := by
  obtain ⟨⟨n, ok, g⟩, h3, h4, ⟨m, h5, h6⟩, ⟨t, h7, h8, h9, h10⟩, h11, h12, h13⟩ := id h
  have ok0 := ok.agr g.sym
  refine ⟨_, c_X8_load σ n ok0 (h13.ok h12) a0 a1, fun v σ1 h1 => ⟨⟨_, h1.1⟩, ?_⟩⟩
  have e20 : σ1.1 20 = σ.1 20 := pc_off (r := 20) h1 (by decide) (by decide) (by decide)
  have e30 : σ1.1 30 = σ.1 30 := pc_off (r := 30) h1 (by decide) (by decide) (by decide)
  have e31 : σ1.1 31 = σ.1 31 := pc_off (r := 31) h1 (by decide) (by decide) (by decide)
  have e32 : σ1.1 32 = σ.1 32 := pc_off (r := 32) h1 (by decide) (by decide) (by decide)
  refine ⟨_, c_X9_load σ1 n (by rw [e20]; exact ok.2.1) ok.1 (by rw [e30, e31]; exact h12) a0 a1, fun w σ2 h2 => ?_⟩
  rw [e20, e30, e31, e32] at h2
  exact rel_an h (r_load ok g h13 h12) h1 h2
theorem p_judge {σ : St} (h : Rel σ) (a0 : Int32) : Pair Y_X8_judge Y_X9_judge [.int a0] σ := by
  obtain ⟨⟨n, ok, g⟩, h3, h4, ⟨m, h5, h6⟩, ⟨t, h7, h8, h9, h10⟩, h11, h12, h13⟩ := id h
  have ok0 := ok.agr g.sym
  refine ⟨_, c_X8_judge σ n ok0 (h13.ok h12) a0, fun v σ1 h1 => ⟨⟨_, h1.1⟩, ?_⟩⟩
  have e20 : σ1.1 20 = σ.1 20 := pc_off (r := 20) h1 (by decide) (by decide) (by decide)
  have e30 : σ1.1 30 = σ.1 30 := pc_off (r := 30) h1 (by decide) (by decide) (by decide)
  have e31 : σ1.1 31 = σ.1 31 := pc_off (r := 31) h1 (by decide) (by decide) (by decide)
  have e32 : σ1.1 32 = σ.1 32 := pc_off (r := 32) h1 (by decide) (by decide) (by decide)
  refine ⟨_, c_X9_judge σ1 n (by rw [e20]; exact ok) (by rw [e30, e31]; exact h12) a0, fun w σ2 h2 => ?_⟩
  rw [e20, e30, e31, e32] at h2
  exact rel_an h (r_judge ok g h13 h12) h1 h2
theorem p_count {σ : St} (h : Rel σ) (a0 : Int32) : Pair Y_X8_count Y_X9_count [.int a0] σ := by
  obtain ⟨⟨n, ok, g⟩, h3, h4, ⟨m, h5, h6⟩, ⟨t, h7, h8, h9, h10⟩, h11, h12, h13⟩ := id h
  have ok0 := ok.agr g.sym
  refine ⟨_, c_X8_count σ n ok0 t h8 a0, fun v σ1 h1 => ⟨⟨_, h1.1⟩, ?_⟩⟩
  have e20 : σ1.1 20 = σ.1 20 := pc_off (r := 20) h1 (by decide) (by decide) (by decide)
  have e23 : σ1.1 23 = σ.1 23 := pc_off (r := 23) h1 (by decide) (by decide) (by decide)
  refine ⟨_, c_X9_count σ1 n (by rw [e20]; exact ok.2.1) ok.1 t (by rw [e23]; exact h9) a0, fun w σ2 h2 => ?_⟩
  rw [e20] at h2
  exact rel_an h (r_count ok g) h1 h2
theorem p_status {σ : St} (h : Rel σ) (a0 : Int32) : Pair Y_X8_status Y_X9_status [.int a0] σ := by
  obtain ⟨⟨n, ok, g⟩, h3, h4, ⟨m, h5, h6⟩, ⟨t, h7, h8, h9, h10⟩, h11, h12, h13⟩ := id h
  have ok0 := ok.agr g.sym
  refine ⟨_, c_X8_status σ a0, fun v σ1 h1 => ⟨⟨_, h1.1⟩, ?_⟩⟩
  have e20 : σ1.1 20 = σ.1 20 := pc_off (r := 20) h1 (by decide) (by decide) (by decide)
  have e24 : σ1.1 24 = σ.1 24 := pc_off (r := 24) h1 (by decide) (by decide) (by decide)
  refine ⟨_, c_X9_status σ1 a0, fun w σ2 h2 => ?_⟩
  rw [e20, e24, ← h3] at h2
  exact rel_an h (r_status ok g) h1 h2
