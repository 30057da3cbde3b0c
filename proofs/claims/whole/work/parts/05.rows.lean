/-! THE MACHINE OVER THE WORLD: AW, one row an instruction; AMet, a method's contract: from state σ and these arguments it answers so, and the state is so -/
def STA : List (String × List Int32) :=
  [("ROCKS_BY_PACE", [0, 1, 1, 2, 2, 3, 6, 5, 3, 3]), ("HURTS_BY_GROUND", [0, 3, 4, 2, 3]), ("KIND_ABOVE", [-1, 0, 0, 0, 1, 1, 2]), ("TAKES_MORE", [0, 0, 0, -1, 0, 0, 3]), ("ROCKS_MORE", [0, 0, 0, 1, 0, 0, 0]), ("HURTS_TIMES", [1, 1, 2, 1, 1, 1, 2]), ("HOLDS_MORE", [0, 2, 3, 0, 2, 11, 3])]
def STW : List (String × List Int32) :=
  [("grass", [103, 114, 97, 115, 115]), ("bump", [98, 117, 109, 112]), ("thistle", [116, 104, 105, 115, 116, 108, 101]), ("turn", [116, 117, 114, 110]), ("slick", [115, 108, 105, 99, 107]), ("to", [116, 111]), ("pick", [112, 105, 99, 107]), ("runner", [114, 117, 110, 110, 101, 114]), ("steady", [115, 116, 101, 97, 100, 121]), ("looker", [108, 111, 111, 107, 101, 114]), ("rusher", [114, 117, 115, 104, 101, 114]), ("dancer", [100, 97, 110, 99, 101, 114]), ("gum", [103, 117, 109]), ("child", [99, 104, 105, 108, 100]), ("arm", [97, 114, 109]), ("spoon", [115, 112, 111, 111, 110]), ("pace", [112, 97, 99, 101])]
/-- the texts: whose, its number in the pool, which word -/
def STR : List (String × Nat × Nat) :=
  [("SpoonRace$Reader", 112, 0), ("SpoonRace$Reader", 114, 1), ("SpoonRace$Reader", 116, 2), ("SpoonRace$Reader", 118, 3), ("SpoonRace$Reader", 120, 4), ("SpoonRace$Reader", 67, 5), ("SpoonRace$Reader", 43, 6), ("SpoonRace$Reader", 122, 7), ("SpoonRace$Reader", 124, 8), ("SpoonRace$Reader", 126, 9), ("SpoonRace$Reader", 128, 10), ("SpoonRace$Reader", 130, 11), ("SpoonRace$Reader", 132, 12), ("SpoonRace$Reader", 134, 13), ("SpoonRace$Reader", 80, 14), ("SpoonRace$Reader", 82, 15), ("SpoonRace$Reader", 84, 16),
   ("SpoonRaceModel", 264, 0), ("SpoonRaceModel", 265, 1), ("SpoonRaceModel", 267, 2), ("SpoonRaceModel", 269, 3), ("SpoonRaceModel", 271, 4), ("SpoonRaceModel", 289, 5), ("SpoonRaceModel", 305, 6), ("SpoonRaceModel", 273, 7), ("SpoonRaceModel", 275, 8), ("SpoonRaceModel", 277, 9), ("SpoonRaceModel", 279, 10), ("SpoonRaceModel", 281, 11), ("SpoonRaceModel", 283, 12), ("SpoonRaceModel", 285, 13), ("SpoonRaceModel", 292, 14), ("SpoonRaceModel", 294, 15), ("SpoonRaceModel", 296, 16)]
def wordT (w : Nat) : String := (STW.getD w ("", [])).1
def wordB (w : Nat) : List Int32 := (STW.getD w ("", [])).2
def tysOf (g : Geo) : List (ClassId × FieldType) := [(g.2.2 0, .int), (g.2.2 1, .long), (g.2.2 2, .object "SpoonRace$Runner"), (g.2.2 3, .object "SpoonRace$Sheet")]
def GKt (g : Geo) (i : Nat) (q : String × List Int32) (U : State) (H : Heap) : Prop := va_Z "SpoonRace" q.1 "[I" (.ref (g.2.1 (100 + i))) (Aof g) U H ∧ va_T .int (g.2.1 (100 + i)) q.2.length (fun j => .int (q.2.getD j 0)) (Aof g) U H
def GKs (g : Geo) (i : Nat) (q : String × Nat × Nat) (U : State) (H : Heap) : Prop := vk_R q.1 q.2.1 (wordT q.2.2) (g.2.1 (200 + i)) U ∧ va_O "java/lang/String" (g.2.1 (200 + i)) (Aof g) U H ∧ va_OF "java/lang/String" "coder" "B" (.int 0) (g.2.1 (200 + i)) (Aof g) U H ∧ va_OF "java/lang/String" "value" "[B" (.ref (g.2.1 (300 + i))) (g.2.1 (200 + i)) (Aof g) U H ∧ va_T .byte (g.2.1 (300 + i)) (wordB q.2.2).length (fun j => .int ((wordB q.2.2).getD j 0)) (Aof g) U H
/-- private static rows of the nest, read by Runner: the pool's number, the name; the nest's private method, called by two -/
def NSF : List (Nat × String) := [(70, "HOLDS_MORE"), (55, "TAKES_MORE"), (58, "ROCKS_BY_PACE"), (61, "ROCKS_MORE"), (64, "HURTS_BY_GROUND"), (67, "HURTS_TIMES"), (52, "KIND_ABOVE")]
def NSM : List (String × Nat) := [("SpoonRace$Tape", 35), ("SpoonRace$Reader", 108)]
def wNSF (q : Nat × String) : Cond := .fieldLinkNest "SpoonRace$Runner" q.1 "SpoonRace" q.2 "[I" "SpoonRace"
def wNSM (q : String × Nat) : Cond := .methodLinkNest q.1 q.2 yX8_within "SpoonRace"
def zFmt (g : Geo) (U : State) (H : Heap) : Prop := va_Z "jdk/internal/util/Preconditions" "SIOOBE_FORMATTER" "Ljava/util/function/BiFunction;" .null (Aof g) U H ∨ va_Z "jdk/internal/util/Preconditions" "SIOOBE_FORMATTER" "Ljava/util/function/BiFunction;" (.ref (g.2.1 400)) (Aof g) U H
/-- what stays true of the machine around the world -/
def GK (g : Geo) (U : State) : Prop :=
  va_K g.1 vwCl (tysOf g) U ∧ (∀ i j, i < 86 → j < 86 → g.2.1 i = g.2.1 j → i = j) ∧ (∀ i q, STA[i]? = some q → GKt g i q U U.heap) ∧ va_Z "java/lang/String" "COMPACT_STRINGS" "Z" (.int 1) (Aof g) U U.heap ∧ (∀ i q, STR[i]? = some q → GKs g i q U U.heap) ∧ (∀ q ∈ NSF, va_Nw (wNSF q) U) ∧ (∀ q ∈ NSM, va_Nw (wNSM q) U) ∧ zFmt g U U.heap
theorem GK.moved {g : Geo} {s U : State} {H : Heap} {locs : List Loc} (h : GK g s) (hS : va_S (Aof g) s.heap H locs) (hU : U.heap = H) (hW : s.WarmedH U.vm) : GK g U := by
  obtain ⟨h1, h2, h3, h4, h5, h6, h7, h8⟩ := h
  have al := hW.alike
  have kp : ∀ a : Nat, a < s.heap.size → ¬ Aof g a → U.heap[a]? = s.heap[a]? := fun a q1 q2 => by rw [hU]; exact hS.2.1 a q1 q2
  exact ⟨va_K.moved al h1, h2, fun i q hq => ⟨((h3 i q hq).1.moved al).kept kp, ((h3 i q hq).2.moved al).kept kp⟩, (h4.moved al).kept kp, fun i q hq => by
    obtain ⟨a1, a2, a3, a4, a5⟩ := h5 i q hq
    exact ⟨a1.warm hW, (va_O.moved al a2).kept kp, (va_OF.moved al a3).kept kp, (va_OF.moved al a4).kept kp, (a5.moved al).kept kp⟩, fun q hq => va_Nw.warmF hW (h6 q hq), fun q hq => va_Nw.warmM hW (h7 q hq), h8.elim (fun z => Or.inl ((z.moved al).kept kp)) (fun z => Or.inr ((z.moved al).kept kp))⟩
theorem GK.calling {g : Geo} {U : State} (h : GK g U) (f : JFrame) (mk : MethodId) (a : Array Value) : GK g (U.calling f mk a) := by
  obtain ⟨h1, h2, h3, h4, h5, h6, h7, h8⟩ := h
  have al : U.vm.Alike (U.calling f mk a).vm := Vm.Alike.refl U.vm
  exact ⟨va_K.moved al h1, h2, fun i q hq => ⟨(h3 i q hq).1.moved al, (h3 i q hq).2.moved al⟩, h4.moved al, fun i q hq => by
    obtain ⟨a1, a2, a3, a4, a5⟩ := h5 i q hq
    exact ⟨a1.same rfl, va_O.moved al a2, va_OF.moved al a3, va_OF.moved al a4, a5.moved al⟩, fun q hq => va_Nw.same rfl rfl (h6 q hq), fun q hq => va_Nw.same rfl rfl (h7 q hq), h8.elim (fun z => Or.inl (z.moved al)) (fun z => Or.inr (z.moved al))⟩
/-- a method: name, code, locals, answer's type, level (how many frames may stand above it) -/
abbrev MI : Type := MethodName × ByteArray × Nat × Option FieldType × Nat
abbrev MI.lvl (Y : MI) : Nat := Y.2.2.2.2
def rmD (d : Nat) : Room := { frames := d, cells := 0, slots := 0, locals := 40 * d }
def WTb : List Cond := lw_tbl.filter goodWord
def WTs (Y : MI) : List Cond := .code Y.1 Y.2.1 Y.2.2.1 Y.2.2.2.1 :: WTb
theorem WT_mem {w : Cond} (h : w ∈ lw_tbl) (hg : goodWord w = true) : w ∈ WTb := List.mem_filter.mpr ⟨h, hg⟩
theorem goodIn_WT {Y : MI} {ws : List Cond} (h : ∀ w ∈ ws, w ∈ WTb) : GoodIn (WTs Y) ws := fun w hw => ⟨List.mem_cons_of_mem _ (h w hw), good_of_word (List.mem_filter.mp (h w hw)).2⟩
/-- what is promised of the answer and the state behind; just this answer and this state -/
abbrev RZ : Type := Option Value → St → Prop
def fz (v : Option Value) (σ : St) : RZ := fun w s => w = v ∧ s = σ
def QcOf (g : Geo) (Rz : RZ) : Array Value → State → Outcome → State → Prop := fun _ st oc t => ∃ (v : Option Value) (σ' : St), Rz v σ' ∧ oc = .returned (v.map (cv g.2.1)) ∧ Pic g σ' t.heap ∧ va_F (Aof g) st t
def AMet (Y : MI) (av : List Value) (σ : St) (Rz : RZ) : Prop := ∀ (l : Launch) (g : Geo), Met l Y.1 (WTs Y) (rmD Y.lvl) (va_Pc (av.map (cv g.2.1)) (fun U => Pic g σ U.heap ∧ GK g U)) (QcOf g Rz) 0 0 (Aof g)
/-- an activation: program, launch, environment, state at the entry, method, arguments, frames below, method's and code's records, geometry -/
abbrev KT : Type := Program × Launch × Env × State × MethodId × Array Value × List Frame × Method × Code × Geo
abbrev KT.p (K : KT) : Program := K.1
abbrev KT.l (K : KT) : Launch := K.2.1
abbrev KT.e (K : KT) : Env := K.2.2.1
abbrev KT.s (K : KT) : State := K.2.2.2.1
abbrev KT.m (K : KT) : MethodId := K.2.2.2.2.1
abbrev KT.a (K : KT) : Array Value := K.2.2.2.2.2.1
abbrev KT.b (K : KT) : List Frame := K.2.2.2.2.2.2.1
abbrev KT.me (K : KT) : Method := K.2.2.2.2.2.2.2.1
abbrev KT.c (K : KT) : Code := K.2.2.2.2.2.2.2.2.1
abbrev KT.g (K : KT) : Geo := K.2.2.2.2.2.2.2.2.2
def Cx (Y : MI) (K : KT) : Prop := K.p.tables.exec = Jvm.exec ∧ K.c.code = Y.2.1 ∧ K.me.sig.returnType = Y.2.2.2.1 ∧ K.c.maxLocals = Y.2.2.1 ∧ K.s.vm.findClass Y.1.cls = some K.m.cls ∧ (∀ w ∈ WTs Y, w.before K.a K.s = true) ∧ K.me.locks = false ∧ GK K.g K.s
abbrev cvl (a : Nat → Nat) (lv : List (Nat × Value)) : List (Nat × Value) := lv.map fun q => (q.1, cv a q.2)
def AW (Y : MI) (K : KT) (Rz : RZ) (σ : St) (pc : Nat) (lv : List (Nat × Value)) (st : List Value) : Prop :=
  ∀ (H : Heap) (locs : List Loc) (ls : Array Slot), Pic K.g σ H → va_S (Aof K.g) K.s.heap H locs → lv_has ls Y.2.2.1 (cvl K.g.2.1 lv) → W K.p K.l K.e (rmD Y.lvl) K.s K.m K.a K.b K.me K.c H locs 0 0 (MQ K.b (QcOf K.g Rz) K.a K.s 0 0 (Aof K.g)) (F0 K.m pc ls (st.map (cv K.g.2.1)))
theorem cv_cat (a : Nat → Nat) (v : Value) : (cv a v).category = v.category := by cases v <;> rfl
theorem cv_args (a : Nat → Nat) : ∀ (vs : List Value) (i : Nat), lv_args i (vs.map (cv a)) = cvl a (lv_args i vs)
  | [], i => rfl
  | v :: vs, i => by
    simp only [List.map_cons, lv_args, cv_cat, cv_args a vs]
theorem cv_sl (a : Nat → Nat) (vs : List Value) : (lg_sl (vs.map (cv a))).length = (lg_sl vs).length := by
  induction vs with
  | nil => rfl
  | cons v vs ih =>
    simp only [lg_sl, List.map_cons, List.flatMap_cons, List.length_append, cv_cat] at ih ⊢
    rw [ih]
    by_cases h : v.category = 2 <;> simp [h]
theorem am_intro {Y : MI} {av : List Value} {σ : St} {Rz : RZ} (hy : plainName Y.1.cls = true) (hn : (lg_sl av).length ≤ Y.2.2.1) (h : ∀ K : KT, Cx Y K → AW Y K Rz σ 0 (lv_args 0 av) []) : AMet Y av σ Rz := by
  intro l g
  refine Met.ofW (cc := Y.2.1) (maxL := Y.2.2.1) (ret := Y.2.2.2.1) hy rfl ?_
  intro p e s m args below meth c s₁ B hml hv
  obtain ⟨rfl, hP, hG⟩ := hv
  have X := h (p, l, e, s, m, (av.map (cv g.2.1)).toArray, below, meth, c, g) ⟨B.exec, B.bytes, B.returns, hml, findClass_of_methodNamed B.named, atoms_spec (ws := WTs Y) B.pre, B.notSynchronized, hG⟩
  rw [lg_entry_eq]
  have hl := lv_entry (av.map (cv g.2.1)) (n := Y.2.2.1) (by rw [cv_sl]; exact hn)
  rw [cv_args] at hl
  exact X s.heap [] _ hP va_S.rf hl
section AWR
variable {Y : MI} {K : KT} {Rz : RZ} {σ : St} {pc : Nat} {lv : List (Nat × Value)} {st : List Value}
theorem aw_conv {σ' : St} {lv' : List (Nat × Value)} {st' : List Value} (h1 : σ = σ') (h2 : lv = lv') (h3 : st = st') (kk : AW Y K Rz σ' pc lv' st') : AW Y K Rz σ pc lv st := by subst h1; subst h2; subst h3; exact kk
theorem aw_iconst (C : Cx Y K) {n : Int} {v : Int32} (hd : decode Y.2.1 pc = .ok (.iconst n, 1)) (hv : Int32.ofInt n = v) (kk : AW Y K Rz σ (pc + 1) lv (.int v :: st)) : AW Y K Rz σ pc lv st := fun H locs ls hP hS hl => lv_iconst C.1 C.2.1 hd hv (kk H locs ls hP hS hl)
theorem aw_bipush (C : Cx Y K) {n : Int} {v : Int32} (hd : decode Y.2.1 pc = .ok (.bipush n, 2)) (hv : (Int8.ofInt n).toInt32 = v) (kk : AW Y K Rz σ (pc + 2) lv (.int v :: st)) : AW Y K Rz σ pc lv st := fun H locs ls hP hS hl => lv_bipush C.1 C.2.1 hd hv (kk H locs ls hP hS hl)
theorem aw_sipush (C : Cx Y K) {n : Int} {v : Int32} (hd : decode Y.2.1 pc = .ok (.sipush n, 3)) (hv : (Int16.ofInt n).toInt32 = v) (kk : AW Y K Rz σ (pc + 3) lv (.int v :: st)) : AW Y K Rz σ pc lv st := fun H locs ls hP hS hl => lv_sipush C.1 C.2.1 hd hv (kk H locs ls hP hS hl)
theorem aw_lconst (C : Cx Y K) {n : Fin 2} {v : Int64} (hd : decode Y.2.1 pc = .ok (.lconst n, 1)) (hv : Int64.ofNat (n : Nat) = v) (kk : AW Y K Rz σ (pc + 1) lv (.long v :: st)) : AW Y K Rz σ pc lv st := fun H locs ls hP hS hl => lv_lconst C.1 C.2.1 hd hv (kk H locs ls hP hS hl)
theorem cvl_at {a : Nat → Nat} {k i : Nat} {v : Value} (h : lv[k]? = some (i, v)) : (cvl a lv)[k]? = some (i, cv a v) := by rw [List.getElem?_map, h]; rfl
theorem aw_iload_n (C : Cx Y K) (k : Nat) {i : Fin 4} {x : Int32} (hd : decode Y.2.1 pc = .ok (.iload_n i, 1)) (hk : lv[k]? = some ((i : Nat), .int x)) (kk : AW Y K Rz σ (pc + 1) lv (.int x :: st)) : AW Y K Rz σ pc lv st := fun H locs ls hP hS hl => lv_iload_n C.1 C.2.1 hd rfl (lv_at hl k (cvl_at hk)) (kk H locs ls hP hS hl)
theorem aw_iload (C : Cx Y K) (k : Nat) {i : Nat} {x : Int32} (hd : decode Y.2.1 pc = .ok (.iload i, 2)) (hk : lv[k]? = some (i, .int x)) (kk : AW Y K Rz σ (pc + 2) lv (.int x :: st)) : AW Y K Rz σ pc lv st := fun H locs ls hP hS hl => lv_iload C.1 C.2.1 hd (lv_at hl k (cvl_at hk)) (kk H locs ls hP hS hl)
theorem aw_lload_n (C : Cx Y K) (k : Nat) {i : Fin 4} {x : Int64} (hd : decode Y.2.1 pc = .ok (.lload_n i, 1)) (hk : lv[k]? = some ((i : Nat), .long x)) (kk : AW Y K Rz σ (pc + 1) lv (.long x :: st)) : AW Y K Rz σ pc lv st := fun H locs ls hP hS hl => lv_lload_n C.1 C.2.1 hd rfl (lv_at hl k (cvl_at hk)) (kk H locs ls hP hS hl)
theorem aw_lload (C : Cx Y K) (k : Nat) {i : Nat} {x : Int64} (hd : decode Y.2.1 pc = .ok (.lload i, 2)) (hk : lv[k]? = some (i, .long x)) (kk : AW Y K Rz σ (pc + 2) lv (.long x :: st)) : AW Y K Rz σ pc lv st := fun H locs ls hP hS hl => lv_lload C.1 C.2.1 hd (lv_at hl k (cvl_at hk)) (kk H locs ls hP hS hl)
theorem aw_aload_n (C : Cx Y K) (k : Nat) {i : Fin 4} {x : Nat} (hd : decode Y.2.1 pc = .ok (.aload_n i, 1)) (hk : lv[k]? = some ((i : Nat), .ref x)) (kk : AW Y K Rz σ (pc + 1) lv (.ref x :: st)) : AW Y K Rz σ pc lv st := fun H locs ls hP hS hl => lv_aload_n C.1 C.2.1 hd rfl (lv_at hl k (cvl_at hk)) (kk H locs ls hP hS hl)
theorem aw_aload (C : Cx Y K) (k : Nat) {i : Nat} {x : Nat} (hd : decode Y.2.1 pc = .ok (.aload i, 2)) (hk : lv[k]? = some (i, .ref x)) (kk : AW Y K Rz σ (pc + 2) lv (.ref x :: st)) : AW Y K Rz σ pc lv st := fun H locs ls hP hS hl => lv_aload C.1 C.2.1 hd (lv_at hl k (cvl_at hk)) (kk H locs ls hP hS hl)
/-- the locals behind a store of one word at i, of two -/
def lvs1 (lv : List (Nat × Value)) (i : Nat) (v : Value) : List (Nat × Value) := (i, v) :: lv.filter (fun q => !(q.1 == i) && !(q.1 + 1 == i && q.2.category == 2))
def lvs2 (lv : List (Nat × Value)) (i : Nat) (v : Value) : List (Nat × Value) := (i, v) :: lv.filter (fun q => !(q.1 == i) && (!(q.1 == i + 1) && !(q.1 + 1 == i && q.2.category == 2)))
theorem cvl_s1 (a : Nat → Nat) (lv : List (Nat × Value)) (i : Nat) (v : Value) : (i, cv a v) :: (cvl a lv).filter (fun q => !(q.1 == i) && !(q.1 + 1 == i && q.2.category == 2)) = cvl a (lvs1 lv i v) := by
  simp only [lvs1, cvl, List.map_cons, List.filter_map]
  congr 2
  exact List.filter_congr (fun q _ => by simp [Function.comp, cv_cat])
theorem cvl_s2 (a : Nat → Nat) (lv : List (Nat × Value)) (i : Nat) (v : Value) : (i, cv a v) :: (cvl a lv).filter (fun q => !(q.1 == i) && (!(q.1 == i + 1) && !(q.1 + 1 == i && q.2.category == 2))) = cvl a (lvs2 lv i v) := by
  simp only [lvs2, cvl, List.map_cons, List.filter_map]
  congr 2
  exact List.filter_congr (fun q _ => by simp [Function.comp, cv_cat])
theorem aw_istore_n (C : Cx Y K) {i : Fin 4} {x : Int32} (lv' : List (Nat × Value)) (hd : decode Y.2.1 pc = .ok (.istore_n i, 1)) (hn : (i : Nat) < Y.2.2.1) (hl' : lvs1 lv i (.int x) = lv') (kk : AW Y K Rz σ (pc + 1) lv' st) : AW Y K Rz σ pc lv (.int x :: st) := fun H locs ls hP hS hl => lv_istore_n C.1 C.2.1 hd rfl hl hn (by rw [← hl']; exact cvl_s1 _ lv i (.int x)) (fun ls' h' => kk H locs ls' hP hS h')
theorem aw_istore (C : Cx Y K) {i : Nat} {x : Int32} (lv' : List (Nat × Value)) (hd : decode Y.2.1 pc = .ok (.istore i, 2)) (hn : i < Y.2.2.1) (hl' : lvs1 lv i (.int x) = lv') (kk : AW Y K Rz σ (pc + 2) lv' st) : AW Y K Rz σ pc lv (.int x :: st) := fun H locs ls hP hS hl => lv_istore C.1 C.2.1 hd hl hn (by rw [← hl']; exact cvl_s1 _ lv i (.int x)) (fun ls' h' => kk H locs ls' hP hS h')
theorem aw_astore_n (C : Cx Y K) {i : Fin 4} {x : Nat} (lv' : List (Nat × Value)) (hd : decode Y.2.1 pc = .ok (.astore_n i, 1)) (hn : (i : Nat) < Y.2.2.1) (hl' : lvs1 lv i (.ref x) = lv') (kk : AW Y K Rz σ (pc + 1) lv' st) : AW Y K Rz σ pc lv (.ref x :: st) := fun H locs ls hP hS hl => lv_astore_n C.1 C.2.1 hd rfl hl hn (by rw [← hl']; exact cvl_s1 _ lv i (.ref x)) (fun ls' h' => kk H locs ls' hP hS h')
theorem aw_astore (C : Cx Y K) {i : Nat} {x : Nat} (lv' : List (Nat × Value)) (hd : decode Y.2.1 pc = .ok (.astore i, 2)) (hn : i < Y.2.2.1) (hl' : lvs1 lv i (.ref x) = lv') (kk : AW Y K Rz σ (pc + 2) lv' st) : AW Y K Rz σ pc lv (.ref x :: st) := fun H locs ls hP hS hl => lv_astore C.1 C.2.1 hd hl hn (by rw [← hl']; exact cvl_s1 _ lv i (.ref x)) (fun ls' h' => kk H locs ls' hP hS h')
theorem aw_lstore (C : Cx Y K) {i : Nat} {x : Int64} (lv' : List (Nat × Value)) (hd : decode Y.2.1 pc = .ok (.lstore i, 2)) (hn : i + 1 < Y.2.2.1) (hl' : lvs2 lv i (.long x) = lv') (kk : AW Y K Rz σ (pc + 2) lv' st) : AW Y K Rz σ pc lv (.long x :: st) := fun H locs ls hP hS hl => lv_lstore C.1 C.2.1 hd hl hn (by rw [← hl']; exact cvl_s2 _ lv i (.long x)) (fun ls' h' => kk H locs ls' hP hS h')
theorem aw_iinc (C : Cx Y K) (k : Nat) {i : Nat} {n : Int} {x : Int32} (v : Int32) (lv' : List (Nat × Value)) (hd : decode Y.2.1 pc = .ok (.iinc i n, 3)) (hk : lv[k]? = some (i, .int x)) (hv : x + Int32.ofInt n = v) (hn : i < Y.2.2.1) (hl' : lvs1 lv i (.int v) = lv') (kk : AW Y K Rz σ (pc + 3) lv' st) : AW Y K Rz σ pc lv st := fun H locs ls hP hS hl => lv_iinc C.1 C.2.1 hd hl (cvl_at hk) hv hn (by rw [← hl']; exact cvl_s1 _ lv i (.int v)) (fun ls' h' => kk H locs ls' hP hS h')
theorem aw_iadd (C : Cx Y K) {x y : Int32} (hd : decode Y.2.1 pc = .ok (.iadd, 1)) (kk : AW Y K Rz σ (pc + 1) lv (.int (x + y) :: st)) : AW Y K Rz σ pc lv (.int y :: .int x :: st) := fun H locs ls hP hS hl => lv_iadd C.1 C.2.1 hd (kk H locs ls hP hS hl)
theorem aw_isub (C : Cx Y K) {x y : Int32} (hd : decode Y.2.1 pc = .ok (.isub, 1)) (kk : AW Y K Rz σ (pc + 1) lv (.int (x - y) :: st)) : AW Y K Rz σ pc lv (.int y :: .int x :: st) := fun H locs ls hP hS hl => lv_isub C.1 C.2.1 hd (kk H locs ls hP hS hl)
theorem aw_imul (C : Cx Y K) {x y : Int32} (hd : decode Y.2.1 pc = .ok (.imul, 1)) (kk : AW Y K Rz σ (pc + 1) lv (.int (x * y) :: st)) : AW Y K Rz σ pc lv (.int y :: .int x :: st) := fun H locs ls hP hS hl => lv_imul C.1 C.2.1 hd (kk H locs ls hP hS hl)
theorem aw_iand (C : Cx Y K) {x y : Int32} (hd : decode Y.2.1 pc = .ok (.iand, 1)) (kk : AW Y K Rz σ (pc + 1) lv (.int (x &&& y) :: st)) : AW Y K Rz σ pc lv (.int y :: .int x :: st) := fun H locs ls hP hS hl => lv_iand C.1 C.2.1 hd (kk H locs ls hP hS hl)
theorem aw_ior (C : Cx Y K) {x y : Int32} (hd : decode Y.2.1 pc = .ok (.ior, 1)) (kk : AW Y K Rz σ (pc + 1) lv (.int (x ||| y) :: st)) : AW Y K Rz σ pc lv (.int y :: .int x :: st) := fun H locs ls hP hS hl => lv_ior C.1 C.2.1 hd (kk H locs ls hP hS hl)
theorem aw_ishl (C : Cx Y K) {x y : Int32} (hd : decode Y.2.1 pc = .ok (.ishl, 1)) (kk : AW Y K Rz σ (pc + 1) lv (.int (x <<< (y &&& 31)) :: st)) : AW Y K Rz σ pc lv (.int y :: .int x :: st) := fun H locs ls hP hS hl => lv_ishl C.1 C.2.1 hd (kk H locs ls hP hS hl)
theorem aw_ishr (C : Cx Y K) {x y : Int32} (hd : decode Y.2.1 pc = .ok (.ishr, 1)) (kk : AW Y K Rz σ (pc + 1) lv (.int (x >>> (y &&& 31)) :: st)) : AW Y K Rz σ pc lv (.int y :: .int x :: st) := fun H locs ls hP hS hl => lv_ishr C.1 C.2.1 hd (kk H locs ls hP hS hl)
theorem aw_idiv (C : Cx Y K) {x y : Int32} (hd : decode Y.2.1 pc = .ok (.idiv, 1)) (hne : ¬ y = 0) (kk : AW Y K Rz σ (pc + 1) lv (.int (x / y) :: st)) : AW Y K Rz σ pc lv (.int y :: .int x :: st) := fun H locs ls hP hS hl => lv_idiv C.1 C.2.1 hd hne (kk H locs ls hP hS hl)
theorem aw_irem (C : Cx Y K) {x y : Int32} (hd : decode Y.2.1 pc = .ok (.irem, 1)) (hne : ¬ y = 0) (kk : AW Y K Rz σ (pc + 1) lv (.int (x - x / y * y) :: st)) : AW Y K Rz σ pc lv (.int y :: .int x :: st) := fun H locs ls hP hS hl => lv_irem C.1 C.2.1 hd hne (kk H locs ls hP hS hl)
theorem aw_ladd (C : Cx Y K) {x y : Int64} (hd : decode Y.2.1 pc = .ok (.ladd, 1)) (kk : AW Y K Rz σ (pc + 1) lv (.long (x + y) :: st)) : AW Y K Rz σ pc lv (.long y :: .long x :: st) := fun H locs ls hP hS hl => lv_ladd C.1 C.2.1 hd (kk H locs ls hP hS hl)
theorem aw_lmul (C : Cx Y K) {x y : Int64} (hd : decode Y.2.1 pc = .ok (.lmul, 1)) (kk : AW Y K Rz σ (pc + 1) lv (.long (x * y) :: st)) : AW Y K Rz σ pc lv (.long y :: .long x :: st) := fun H locs ls hP hS hl => lv_lmul C.1 C.2.1 hd (kk H locs ls hP hS hl)
theorem aw_ineg (C : Cx Y K) {x : Int32} (hd : decode Y.2.1 pc = .ok (.ineg, 1)) (kk : AW Y K Rz σ (pc + 1) lv (.int (-x) :: st)) : AW Y K Rz σ pc lv (.int x :: st) := fun H locs ls hP hS hl => lv_ineg C.1 C.2.1 hd (kk H locs ls hP hS hl)
theorem aw_iushr (C : Cx Y K) {x y : Int32} (hd : decode Y.2.1 pc = .ok (.iushr, 1)) (kk : AW Y K Rz σ (pc + 1) lv (.int ((x.toUInt32 >>> (y.toUInt32 &&& Int32.toUInt32 31)).toInt32) :: st)) : AW Y K Rz σ pc lv (.int y :: .int x :: st) := fun H locs ls hP hS hl => lv_iushr C.1 C.2.1 hd rfl (kk H locs ls hP hS hl)
theorem aw_i2l (C : Cx Y K) {x : Int32} (hd : decode Y.2.1 pc = .ok (.i2l, 1)) (kk : AW Y K Rz σ (pc + 1) lv (.long (x.toInt64) :: st)) : AW Y K Rz σ pc lv (.int x :: st) := fun H locs ls hP hS hl => lv_i2l C.1 C.2.1 hd rfl (kk H locs ls hP hS hl)
theorem aw_i2b (C : Cx Y K) {x : Int32} (hd : decode Y.2.1 pc = .ok (.i2b, 1)) (kk : AW Y K Rz σ (pc + 1) lv (.int (x.toInt8.toInt32) :: st)) : AW Y K Rz σ pc lv (.int x :: st) := fun H locs ls hP hS hl => lv_i2b C.1 C.2.1 hd rfl (kk H locs ls hP hS hl)
theorem aw_i2s (C : Cx Y K) {x : Int32} (hd : decode Y.2.1 pc = .ok (.i2s, 1)) (kk : AW Y K Rz σ (pc + 1) lv (.int (x.toInt16.toInt32) :: st)) : AW Y K Rz σ pc lv (.int x :: st) := fun H locs ls hP hS hl => lv_i2s C.1 C.2.1 hd rfl (kk H locs ls hP hS hl)
theorem aw_i2c (C : Cx Y K) {x : Int32} (hd : decode Y.2.1 pc = .ok (.i2c, 1)) (kk : AW Y K Rz σ (pc + 1) lv (.int ((x.toUInt32 % 65536).toInt32) :: st)) : AW Y K Rz σ pc lv (.int x :: st) := fun H locs ls hP hS hl => lv_i2c C.1 C.2.1 hd rfl (kk H locs ls hP hS hl)
theorem aw_lcmp (C : Cx Y K) {x y : Int64} (hd : decode Y.2.1 pc = .ok (.lcmp, 1)) (kk : AW Y K Rz σ (pc + 1) lv (.int (lg_cmp x y) :: st)) : AW Y K Rz σ pc lv (.long y :: .long x :: st) := fun H locs ls hP hS hl => W.lcmp C.1 C.2.1 hd (kk H locs ls hP hS hl)
theorem aw_dup (C : Cx Y K) {v : Value} (hd : decode Y.2.1 pc = .ok (.dup, 1)) (hv : v.category = 1) (kk : AW Y K Rz σ (pc + 1) lv (v :: v :: st)) : AW Y K Rz σ pc lv (v :: st) := fun H locs ls hP hS hl => lv_dup C.1 C.2.1 hd ((cv_cat _ v).trans hv) (kk H locs ls hP hS hl)
theorem aw_pop (C : Cx Y K) {v : Value} (hd : decode Y.2.1 pc = .ok (.pop, 1)) (hv : v.category = 1) (kk : AW Y K Rz σ (pc + 1) lv st) : AW Y K Rz σ pc lv (v :: st) := fun H locs ls hP hS hl => lv_pop C.1 C.2.1 hd ((cv_cat _ v).trans hv) (kk H locs ls hP hS hl)
theorem aw_dup2 (C : Cx Y K) {v w : Value} (hd : decode Y.2.1 pc = .ok (.dup2, 1)) (hv : v.category = 1) (hw : w.category = 1) (kk : AW Y K Rz σ (pc + 1) lv (v :: w :: v :: w :: st)) : AW Y K Rz σ pc lv (v :: w :: st) := fun H locs ls hP hS hl => lv_dup2_11 C.1 C.2.1 hd ((cv_cat _ v).trans hv) ((cv_cat _ w).trans hw) (kk H locs ls hP hS hl)
theorem aw_goto (C : Cx Y K) {off : Int} (tgt : Nat) (hd : decode Y.2.1 pc = .ok (.goto off, 3)) (ht : (pc : Int) + off = (tgt : Int)) (kk : AW Y K Rz σ tgt lv st) : AW Y K Rz σ pc lv st := fun H locs ls hP hS hl => lv_goto C.1 C.2.1 hd ht (kk H locs ls hP hS hl)
theorem aw_icmp_eq (C : Cx Y K) {x y : Int32} {off : Int} (tgt : Nat) (hd : decode Y.2.1 pc = .ok (.if_icmp .eq off, 3)) (ht : (pc : Int) + off = (tgt : Int)) (kt : x = y → AW Y K Rz σ tgt lv st) (kf : ¬ x = y → AW Y K Rz σ (pc + 3) lv st) : AW Y K Rz σ pc lv (.int y :: .int x :: st) := fun H locs ls hP hS hl => lv_icmp_eq C.1 C.2.1 hd ht (fun h => kt h H locs ls hP hS hl) (fun h => kf h H locs ls hP hS hl)
theorem aw_if_eq (C : Cx Y K) {x : Int32} {off : Int} (tgt : Nat) (hd : decode Y.2.1 pc = .ok (.ifCond .eq off, 3)) (ht : (pc : Int) + off = (tgt : Int)) (kt : x = 0 → AW Y K Rz σ tgt lv st) (kf : ¬ x = 0 → AW Y K Rz σ (pc + 3) lv st) : AW Y K Rz σ pc lv (.int x :: st) := fun H locs ls hP hS hl => lv_if_eq C.1 C.2.1 hd ht (fun h => kt h H locs ls hP hS hl) (fun h => kf h H locs ls hP hS hl)
theorem aw_icmp_ne (C : Cx Y K) {x y : Int32} {off : Int} (tgt : Nat) (hd : decode Y.2.1 pc = .ok (.if_icmp .ne off, 3)) (ht : (pc : Int) + off = (tgt : Int)) (kt : ¬ x = y → AW Y K Rz σ tgt lv st) (kf : x = y → AW Y K Rz σ (pc + 3) lv st) : AW Y K Rz σ pc lv (.int y :: .int x :: st) := fun H locs ls hP hS hl => lv_icmp_ne C.1 C.2.1 hd ht (fun h => kt h H locs ls hP hS hl) (fun h => kf h H locs ls hP hS hl)
theorem aw_if_ne (C : Cx Y K) {x : Int32} {off : Int} (tgt : Nat) (hd : decode Y.2.1 pc = .ok (.ifCond .ne off, 3)) (ht : (pc : Int) + off = (tgt : Int)) (kt : ¬ x = 0 → AW Y K Rz σ tgt lv st) (kf : x = 0 → AW Y K Rz σ (pc + 3) lv st) : AW Y K Rz σ pc lv (.int x :: st) := fun H locs ls hP hS hl => lv_if_ne C.1 C.2.1 hd ht (fun h => kt h H locs ls hP hS hl) (fun h => kf h H locs ls hP hS hl)
theorem aw_icmp_lt (C : Cx Y K) {x y : Int32} {off : Int} (tgt : Nat) (hd : decode Y.2.1 pc = .ok (.if_icmp .lt off, 3)) (ht : (pc : Int) + off = (tgt : Int)) (kt : x < y → AW Y K Rz σ tgt lv st) (kf : ¬ x < y → AW Y K Rz σ (pc + 3) lv st) : AW Y K Rz σ pc lv (.int y :: .int x :: st) := fun H locs ls hP hS hl => lv_icmp_lt C.1 C.2.1 hd ht (fun h => kt h H locs ls hP hS hl) (fun h => kf h H locs ls hP hS hl)
theorem aw_if_lt (C : Cx Y K) {x : Int32} {off : Int} (tgt : Nat) (hd : decode Y.2.1 pc = .ok (.ifCond .lt off, 3)) (ht : (pc : Int) + off = (tgt : Int)) (kt : x < 0 → AW Y K Rz σ tgt lv st) (kf : ¬ x < 0 → AW Y K Rz σ (pc + 3) lv st) : AW Y K Rz σ pc lv (.int x :: st) := fun H locs ls hP hS hl => lv_if_lt C.1 C.2.1 hd ht (fun h => kt h H locs ls hP hS hl) (fun h => kf h H locs ls hP hS hl)
theorem aw_icmp_ge (C : Cx Y K) {x y : Int32} {off : Int} (tgt : Nat) (hd : decode Y.2.1 pc = .ok (.if_icmp .ge off, 3)) (ht : (pc : Int) + off = (tgt : Int)) (kt : y ≤ x → AW Y K Rz σ tgt lv st) (kf : ¬ y ≤ x → AW Y K Rz σ (pc + 3) lv st) : AW Y K Rz σ pc lv (.int y :: .int x :: st) := fun H locs ls hP hS hl => lv_icmp_ge C.1 C.2.1 hd ht (fun h => kt h H locs ls hP hS hl) (fun h => kf h H locs ls hP hS hl)
theorem aw_if_ge (C : Cx Y K) {x : Int32} {off : Int} (tgt : Nat) (hd : decode Y.2.1 pc = .ok (.ifCond .ge off, 3)) (ht : (pc : Int) + off = (tgt : Int)) (kt : 0 ≤ x → AW Y K Rz σ tgt lv st) (kf : ¬ 0 ≤ x → AW Y K Rz σ (pc + 3) lv st) : AW Y K Rz σ pc lv (.int x :: st) := fun H locs ls hP hS hl => lv_if_ge C.1 C.2.1 hd ht (fun h => kt h H locs ls hP hS hl) (fun h => kf h H locs ls hP hS hl)
theorem aw_icmp_gt (C : Cx Y K) {x y : Int32} {off : Int} (tgt : Nat) (hd : decode Y.2.1 pc = .ok (.if_icmp .gt off, 3)) (ht : (pc : Int) + off = (tgt : Int)) (kt : y < x → AW Y K Rz σ tgt lv st) (kf : ¬ y < x → AW Y K Rz σ (pc + 3) lv st) : AW Y K Rz σ pc lv (.int y :: .int x :: st) := fun H locs ls hP hS hl => lv_icmp_gt C.1 C.2.1 hd ht (fun h => kt h H locs ls hP hS hl) (fun h => kf h H locs ls hP hS hl)
theorem aw_if_gt (C : Cx Y K) {x : Int32} {off : Int} (tgt : Nat) (hd : decode Y.2.1 pc = .ok (.ifCond .gt off, 3)) (ht : (pc : Int) + off = (tgt : Int)) (kt : 0 < x → AW Y K Rz σ tgt lv st) (kf : ¬ 0 < x → AW Y K Rz σ (pc + 3) lv st) : AW Y K Rz σ pc lv (.int x :: st) := fun H locs ls hP hS hl => lv_if_gt C.1 C.2.1 hd ht (fun h => kt h H locs ls hP hS hl) (fun h => kf h H locs ls hP hS hl)
theorem aw_icmp_le (C : Cx Y K) {x y : Int32} {off : Int} (tgt : Nat) (hd : decode Y.2.1 pc = .ok (.if_icmp .le off, 3)) (ht : (pc : Int) + off = (tgt : Int)) (kt : x ≤ y → AW Y K Rz σ tgt lv st) (kf : ¬ x ≤ y → AW Y K Rz σ (pc + 3) lv st) : AW Y K Rz σ pc lv (.int y :: .int x :: st) := fun H locs ls hP hS hl => lv_icmp_le C.1 C.2.1 hd ht (fun h => kt h H locs ls hP hS hl) (fun h => kf h H locs ls hP hS hl)
theorem aw_if_le (C : Cx Y K) {x : Int32} {off : Int} (tgt : Nat) (hd : decode Y.2.1 pc = .ok (.ifCond .le off, 3)) (ht : (pc : Int) + off = (tgt : Int)) (kt : x ≤ 0 → AW Y K Rz σ tgt lv st) (kf : ¬ x ≤ 0 → AW Y K Rz σ (pc + 3) lv st) : AW Y K Rz σ pc lv (.int x :: st) := fun H locs ls hP hS hl => lv_if_le C.1 C.2.1 hd ht (fun h => kt h H locs ls hP hS hl) (fun h => kf h H locs ls hP hS hl)
theorem aw_tableIn (C : Cx Y K) {dflt lo hi : Int} {offs : Array Int} {len : Nat} {x : Int32} {off : Int} (tgt : Nat) (hd : decode Y.2.1 pc = .ok (.tableswitch dflt lo hi offs, len)) (h1 : ¬ x.toInt < lo) (h2 : ¬ hi < x.toInt) (ho : offs[(x.toInt - lo).toNat]? = some off) (ht : (pc : Int) + off = (tgt : Int)) (kk : AW Y K Rz σ tgt lv st) : AW Y K Rz σ pc lv (.int x :: st) := fun H locs ls hP hS hl => lv_tableIn C.1 C.2.1 hd h1 h2 ho ht (kk H locs ls hP hS hl)
theorem aw_tableOut (C : Cx Y K) {dflt lo hi : Int} {offs : Array Int} {len : Nat} {x : Int32} (tgt : Nat) (hd : decode Y.2.1 pc = .ok (.tableswitch dflt lo hi offs, len)) (h : x.toInt < lo ∨ hi < x.toInt) (ht : (pc : Int) + dflt = (tgt : Int)) (kk : AW Y K Rz σ tgt lv st) : AW Y K Rz σ pc lv (.int x :: st) := fun H locs ls hP hS hl => lv_tableOut C.1 C.2.1 hd h ht (kk H locs ls hP hS hl)

theorem Cx.w (C : Cx Y K) {w : Cond} (h : w ∈ WTb) : w.before K.a K.s = true := C.2.2.2.2.2.1 w (List.mem_cons_of_mem _ h)
theorem aw_ldc (C : Cx Y K) {idx : Nat} {v : Int32} (hd : decode Y.2.1 pc = .ok (.ldc idx, 2)) (hw : Cond.constant Y.1.cls idx v ∈ WTb) (kk : AW Y K Rz σ (pc + 2) lv (.int v :: st)) : AW Y K Rz σ pc lv st := fun H locs ls hP hS hl => lv_ldc C.1 C.2.1 C.2.2.2.2.1 (C.w hw) hd (kk H locs ls hP hS hl)
theorem aw_ldcw (C : Cx Y K) {idx : Nat} {v : Int32} (hd : decode Y.2.1 pc = .ok (.ldc_w idx, 3)) (hw : Cond.constant Y.1.cls idx v ∈ WTb) (kk : AW Y K Rz σ (pc + 3) lv (.int v :: st)) : AW Y K Rz σ pc lv st := fun H locs ls hP hS hl => lv_ldcw C.1 C.2.1 C.2.2.2.2.1 (C.w hw) hd (kk H locs ls hP hS hl)
theorem aw_ldc2 (C : Cx Y K) {idx : Nat} {v : Int64} (hd : decode Y.2.1 pc = .ok (.ldc2_w idx, 3)) (hw : Cond.constantLong Y.1.cls idx v ∈ WTb) (kk : AW Y K Rz σ (pc + 3) lv (.long v :: st)) : AW Y K Rz σ pc lv st := fun H locs ls hP hS hl => lv_ldc2 C.1 C.2.1 C.2.2.2.2.1 (C.w hw) hd (kk H locs ls hP hS hl)
/-- the answer -/
theorem aw_iretP (C : Cx Y K) {x : Int32} (hr : Y.2.2.2.1 = some .int) (hd : decode Y.2.1 pc = .ok (.ireturn, 1)) (hq : Rz (some (.int x)) σ) : AW Y K Rz σ pc lv [.int x] := by
  intro H locs ls hP hS hl
  exact W.iret C.1 C.2.1 (C.2.2.1.trans hr) (fun t ht hW => ⟨_, _, hq, rfl, by rw [ht]; exact hP, hS.F ht⟩) hS.2.2 hd C.2.2.2.2.2.2.1
theorem aw_zretP (C : Cx Y K) {x : Int32} {ty : FieldType} (hr : Y.2.2.2.1 = some ty) (hn : narrow ty (.int x) = .int x) (hd : decode Y.2.1 pc = .ok (.ireturn, 1)) (hq : Rz (some (.int x)) σ) : AW Y K Rz σ pc lv [.int x] := by
  intro H locs ls hP hS hl
  exact W.zret C.1 C.2.1 (C.2.2.1.trans hr) hn (fun t ht hW => ⟨_, _, hq, rfl, by rw [ht]; exact hP, hS.F ht⟩) hS.2.2 hd C.2.2.2.2.2.2.1
theorem aw_lretP (C : Cx Y K) {x : Int64} (hr : Y.2.2.2.1 = some .long) (hd : decode Y.2.1 pc = .ok (.lreturn, 1)) (hq : Rz (some (.long x)) σ) : AW Y K Rz σ pc lv [.long x] := by
  intro H locs ls hP hS hl
  exact W.lret C.1 C.2.1 (C.2.2.1.trans hr) (fun t ht hW => ⟨_, _, hq, rfl, by rw [ht]; exact hP, hS.F ht⟩) hS.2.2 hd C.2.2.2.2.2.2.1
theorem aw_vretP (C : Cx Y K) (hr : Y.2.2.2.1 = none) (hd : decode Y.2.1 pc = .ok (.return_, 1)) (hq : Rz none σ) : AW Y K Rz σ pc lv [] := by
  intro H locs ls hP hS hl
  exact W.vret C.1 C.2.1 (C.2.2.1.trans hr) (fun t ht hW => ⟨_, _, hq, rfl, by rw [ht]; exact hP, hS.F ht⟩) hS.2.2 hd C.2.2.2.2.2.2.1
theorem aw_iret (C : Cx Y K) {x y : Int32} {σ' : St} (hr : Y.2.2.2.1 = some .int) (hd : decode Y.2.1 pc = .ok (.ireturn, 1)) (hv : x = y) (hσ : σ = σ') : AW Y K (fz (some (.int y)) σ') σ pc lv [.int x] := aw_iretP C hr hd ⟨by rw [hv], hσ⟩
theorem aw_zret (C : Cx Y K) {x y : Int32} {σ' : St} {ty : FieldType} (hr : Y.2.2.2.1 = some ty) (hn : narrow ty (.int x) = .int x) (hd : decode Y.2.1 pc = .ok (.ireturn, 1)) (hv : x = y) (hσ : σ = σ') : AW Y K (fz (some (.int y)) σ') σ pc lv [.int x] := aw_zretP C hr hn hd ⟨by rw [hv], hσ⟩
theorem aw_lret (C : Cx Y K) {x y : Int64} {σ' : St} (hr : Y.2.2.2.1 = some .long) (hd : decode Y.2.1 pc = .ok (.lreturn, 1)) (hv : x = y) (hσ : σ = σ') : AW Y K (fz (some (.long y)) σ') σ pc lv [.long x] := aw_lretP C hr hd ⟨by rw [hv], hσ⟩
theorem aw_vret (C : Cx Y K) {σ' : St} (hr : Y.2.2.2.1 = none) (hd : decode Y.2.1 pc = .ok (.return_, 1)) (hσ : σ = σ') : AW Y K (fz none σ') σ pc lv [] := aw_vretP C hr hd ⟨rfl, hσ⟩
theorem Pic.one {g : Geo} {H : Heap} (h : Pic g σ H) {c : Nat} {a : AE} (hc : SH[c]? = some a) : va_P g.1 vwCl [(g.2.1 c, entOf g σ a)] H := by
  intro k q hk
  cases k with
  | zero => cases hk; exact h c a hc
  | succ k => simp at hk
theorem SH_smallI {c r o n : Nat} (h : SH[c]? = some (.inr (.inl (r, o, n)))) : n < 1000 := by
  have h1 : SH.all (fun a => match a with
    | .inr (.inl q) => Nat.blt q.2.2 1000
    | _ => true) = true := by decide +kernel
  have h2 := List.all_eq_true.mp h1 _ (List.mem_of_getElem? h)
  simpa [Nat.blt_eq] using h2
theorem SH_smallL {c r n : Nat} (h : SH[c]? = some (.inr (.inr (.inl (r, n))))) : n < 1000 := by
  have h1 : SH.all (fun a => match a with
    | .inr (.inr (.inl q)) => Nat.blt q.2 1000
    | _ => true) = true := by decide +kernel
  have h2 := List.all_eq_true.mp h1 _ (List.mem_of_getElem? h)
  simpa [Nat.blt_eq] using h2
theorem SH_smallR {c t n b : Nat} (h : SH[c]? = some (.inr (.inr (.inr (t, n, b))))) : n < 1000 ∧ (t = 2 ∨ t = 3) := by
  have h1 : SH.all (fun a => match a with
    | .inr (.inr (.inr q)) => Nat.blt q.2.1 1000 && (q.1 == 2 || q.1 == 3)
    | _ => true) = true := by decide +kernel
  have h2 := List.all_eq_true.mp h1 _ (List.mem_of_getElem? h)
  simpa [Nat.blt_eq] using h2
theorem aw_iald (C : Cx Y K) {c r o n k : Nat} {i : Int32} (hc : SH[c]? = some (.inr (.inl (r, o, n)))) (hd : decode Y.2.1 pc = .ok (.iaload, 1)) (hi : i = nI k) (hk : k < n) (kk : AW Y K Rz σ (pc + 1) lv (.int (σ.1 r (k + o)) :: st)) : AW Y K Rz σ pc lv (.int i :: .ref c :: st) := by
  subst hi
  intro H locs ls hP hS hl
  have hs := SH_smallI hc
  have hin := vp_in_nI hk (show n < 2 ^ 31 by omega)
  have e : rowI σ r o n (nI k).toNatClampNeg = σ.1 r (k + o) := by rw [nI_clamp (by omega)]; exact if_pos hk
  refine va_iald (a := K.g.2.1 c) (f := rowI σ r o n) C.1 C.2.1 C.2.2.2.2.2.2.2.1 (hP.one hc) 0 0 rfl rfl hin hd ?_
  rw [e]
  exact kk H locs ls hP hS hl
theorem aw_lald (C : Cx Y K) {c r n k : Nat} {i : Int32} (hc : SH[c]? = some (.inr (.inr (.inl (r, n))))) (hd : decode Y.2.1 pc = .ok (.laload, 1)) (hi : i = nI k) (hk : k < n) (kk : AW Y K Rz σ (pc + 1) lv (.long (σ.2 r k) :: st)) : AW Y K Rz σ pc lv (.int i :: .ref c :: st) := by
  subst hi
  intro H locs ls hP hS hl
  have hs := SH_smallL hc
  have hin := vp_in_nI hk (show n < 2 ^ 31 by omega)
  have e : rowL σ r n (nI k).toNatClampNeg = σ.2 r k := by rw [nI_clamp (by omega)]; exact if_pos hk
  refine va_lald (a := K.g.2.1 c) (f := rowL σ r n) C.1 C.2.1 C.2.2.2.2.2.2.2.1 (hP.one hc) 0 1 rfl rfl hin hd ?_
  rw [e]
  exact kk H locs ls hP hS hl
theorem aw_aald (C : Cx Y K) {c t n b k : Nat} {i : Int32} (hc : SH[c]? = some (.inr (.inr (.inr (t, n, b))))) (hd : decode Y.2.1 pc = .ok (.aaload, 1)) (hi : i = nI k) (hk : k < n) (kk : AW Y K Rz σ (pc + 1) lv (.ref (b + 2 * k) :: st)) : AW Y K Rz σ pc lv (.int i :: .ref c :: st) := by
  subst hi
  intro H locs ls hP hS hl
  obtain ⟨hs, ht⟩ := SH_smallR hc
  have hin := vp_in_nI hk (show n < 2 ^ 31 by omega)
  have e : va_rf ((fun i => if i < n then some (K.g.2.1 (b + 2 * i)) else none) (nI k).toNatClampNeg) = .ref (K.g.2.1 (b + 2 * k)) := by
    rw [nI_clamp (by omega)]
    show va_rf (if k < n then _ else _) = _
    rw [if_pos hk]; rfl
  rcases ht with rfl | rfl
  · refine va_aldq (a := K.g.2.1 c) (f := fun i => if i < n then some (K.g.2.1 (b + 2 * i)) else none) (C := "SpoonRace$Runner") C.1 C.2.1 C.2.2.2.2.2.2.2.1 (hP.one hc) 0 2 rfl rfl hin hd ?_
    rw [e]
    exact kk H locs ls hP hS hl
  · refine va_aldq (a := K.g.2.1 c) (f := fun i => if i < n then some (K.g.2.1 (b + 2 * i)) else none) (C := "SpoonRace$Sheet") C.1 C.2.1 C.2.2.2.2.2.2.2.1 (hP.one hc) 0 3 rfl rfl hin hd ?_
    rw [e]
    exact kk H locs ls hP hS hl
theorem aw_alenI (C : Cx Y K) {c r o n : Nat} (hc : SH[c]? = some (.inr (.inl (r, o, n)))) (hd : decode Y.2.1 pc = .ok (.arraylength, 1)) (kk : AW Y K Rz σ (pc + 1) lv (.int (nI n) :: st)) : AW Y K Rz σ pc lv (.ref c :: st) := fun H locs ls hP hS hl =>
  va_alen (a := K.g.2.1 c) (ty := .int) C.1 C.2.1 C.2.2.2.2.2.2.2.1 (hP.one hc) 0 0 rfl rfl rfl hd (kk H locs ls hP hS hl)
theorem aw_alenL (C : Cx Y K) {c r n : Nat} (hc : SH[c]? = some (.inr (.inr (.inl (r, n))))) (hd : decode Y.2.1 pc = .ok (.arraylength, 1)) (kk : AW Y K Rz σ (pc + 1) lv (.int (nI n) :: st)) : AW Y K Rz σ pc lv (.ref c :: st) := fun H locs ls hP hS hl =>
  va_alen (a := K.g.2.1 c) (ty := .long) C.1 C.2.1 C.2.2.2.2.2.2.2.1 (hP.one hc) 0 1 rfl rfl rfl hd (kk H locs ls hP hS hl)
theorem Aof_in {g : Geo} {c : Nat} {a : AE} (hc : SH[c]? = some a) : Aof g (g.2.1 c) := ⟨c, SH_lt hc, rfl⟩
theorem aw_iast (C : Cx Y K) {c r o n k : Nat} {i x : Int32} (hc : SH[c]? = some (.inr (.inl (r, o, n)))) (hd : decode Y.2.1 pc = .ok (.iastore, 1)) (hi : i = nI k) (hk : k < n) (kk : AW Y K Rz (setR σ r (upd (σ.1 r) (k + o) x)) (pc + 1) lv st) : AW Y K Rz σ pc lv (.int x :: .int i :: .ref c :: st) := by
  subst hi
  intro H locs ls hP hS hl
  have hs := SH_smallI hc
  have hin := vp_in_nI hk (show n < 2 ^ 31 by omega)
  refine W.iast C.1 C.2.1 (hP c _ hc) ((C.2.2.2.2.2.2.2.1.2 0 _ rfl).1 n (fun j => .int (rowI σ r o n j))) (fun q => by cases q) (by show ¬ (nI k < 0 ∨ (arrV _ _ _).slots.size ≤ _); rw [arrV_size]; exact hin) rfl rfl hd fun H1 e z oq => ?_
  refine kk H1 _ ls (hP.rowI C.2.2.2.2.2.2.2.2.1 hc oq (fun q hq => pk_un (by omega)) ?_) (hS.put z oq (Aof_in hc)) hl
  refine e.trans ?_
  show some ((vp_cell (K.g.2.2 0) (n, .inl (rowI σ r o n))).setSlot (nI k).toNatClampNeg (.int x)) = some (vp_cell (K.g.2.2 0) (n, .inl (rowI (setR σ r (upd (σ.1 r) (k + o) x)) r o n)))
  rw [vp_cell_i, vp_cell_i, arrV_store, nI_clamp (by omega)]
  congr 2
  funext q
  by_cases hq : q = k
  · subst hq
    simp [updV, rowI, hk, setR_at, upd]
  · simp [updV, rowI, setR_at, upd, hq]
theorem aw_last (C : Cx Y K) {c r n k : Nat} {i : Int32} {x : Int64} (hc : SH[c]? = some (.inr (.inr (.inl (r, n))))) (hd : decode Y.2.1 pc = .ok (.lastore, 1)) (hi : i = nI k) (hk : k < n) (kk : AW Y K Rz (setL σ r (vp_updL (σ.2 r) k x)) (pc + 1) lv st) : AW Y K Rz σ pc lv (.long x :: .int i :: .ref c :: st) := by
  subst hi
  intro H locs ls hP hS hl
  have hs := SH_smallL hc
  have hin := vp_in_nI hk (show n < 2 ^ 31 by omega)
  refine W.last C.1 C.2.1 (hP c _ hc) ((C.2.2.2.2.2.2.2.1.2 1 _ rfl).1 n (fun j => .long (rowL σ r n j))) (fun q => by cases q) (by show ¬ (nI k < 0 ∨ (arrV _ _ _).slots.size ≤ _); rw [arrV_size]; exact hin) rfl rfl hd fun H1 e z oq => ?_
  refine kk H1 _ ls (hP.rowL C.2.2.2.2.2.2.2.2.1 hc oq ?_) (hS.put z oq (Aof_in hc)) hl
  refine e.trans ?_
  show some ((vp_cell (K.g.2.2 1) (n, .inr (.inl (rowL σ r n)))).setSlot (nI k).toNatClampNeg (.long x)) = some (vp_cell (K.g.2.2 1) (n, .inr (.inl (rowL (setL σ r (vp_updL (σ.2 r) k x)) r n))))
  rw [vp_cell_l, vp_cell_l, arrV_store, nI_clamp (by omega)]
  congr 2
  funext q
  by_cases hq : q = k
  · subst hq
    simp [updV, rowL, hk, setL_at, vp_updL]
  · simp [updV, rowL, setL_at, vp_updL, hq]
end AWR
