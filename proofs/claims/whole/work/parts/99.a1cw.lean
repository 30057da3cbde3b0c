/-! CONSTRUCTORS: the object first, then the cells that were made since; addresses are variables -/
abbrev GC : Type := va_G × (Nat → ClassId)
def tysC (g : GC) : List (ClassId × FieldType) := [(g.2 0, .int), (g.2 1, .long), (g.2 2, .object "SpoonRace$Runner"), (g.2 3, .object "SpoonRace$Sheet")]
def KA (g : GC) (U : State) : Prop := va_K g.1 vwCl (tysC g) U ∧ va_AO "SpoonRace$Runner" U ∧ va_AO "SpoonRace$Sheet" U
theorem KA.moved {g : GC} {u U : State} (hvm : u.vm.Alike U.vm) (h : KA g u) : KA g U := ⟨va_K.moved hvm h.1, va_AO.moved hvm h.2.1, va_AO.moved hvm h.2.2⟩
def rmC (d k n : Nat) : Room := { frames := d, cells := k, slots := n, locals := 40 * d }
abbrev WF (S : Type) : Type := (Nat → ClassId) → Nat → S → va_W
/-- a constructor's contract: from an object of class ci with blank fields fs to the world w, k cells and n slots new -/
def CMet {S : Type} (Y : MI) (ci : Nat) (fs : List Value) (w : WF S) (k n : Nat) : Prop := ∀ (l : Launch) (g : GC) (h0 sz : Nat), Met l Y.1 (WTs Y) (rmC Y.lvl k n) (va_Pc [.ref h0] (fun U => U.heap.size = sz ∧ va_P g.1 vwCl [(h0, .inr (ci, fs))] U.heap ∧ KA g U ∧ va_D (fun _ => True) [(h0, .inr (ci, fs))])) (va_Qv (fun _ : S => True) (fun a t => va_P g.1 vwCl (w g.2 h0 a) t.heap ∧ va_D (va_A [(h0, .inr (ci, fs))] sz) (w g.2 h0 a)) (va_A [(h0, .inr (ci, fs))] sz)) k n (va_A [(h0, .inr (ci, fs))] sz)
abbrev KC : Type := Program × Launch × Env × State × MethodId × List Frame × Method × Code × GC × Nat × (Nat → Prop)
abbrev KC.p (K : KC) : Program := K.1
abbrev KC.l (K : KC) : Launch := K.2.1
abbrev KC.e (K : KC) : Env := K.2.2.1
abbrev KC.s (K : KC) : State := K.2.2.2.1
abbrev KC.m (K : KC) : MethodId := K.2.2.2.2.1
abbrev KC.b (K : KC) : List Frame := K.2.2.2.2.2.1
abbrev KC.me (K : KC) : Method := K.2.2.2.2.2.2.1
abbrev KC.c (K : KC) : Code := K.2.2.2.2.2.2.2.1
abbrev KC.g (K : KC) : GC := K.2.2.2.2.2.2.2.2.1
abbrev KC.h (K : KC) : Nat := K.2.2.2.2.2.2.2.2.2.1
abbrev KC.A (K : KC) : Nat → Prop := K.2.2.2.2.2.2.2.2.2.2
def CCx (Y : MI) (K : KC) : Prop := K.p.tables.exec = Jvm.exec ∧ K.c.code = Y.2.1 ∧ K.me.sig.returnType = none ∧ K.c.maxLocals = Y.2.2.1 ∧ K.s.vm.findClass Y.1.cls = some K.m.cls ∧ (∀ w ∈ WTs Y, w.before #[.ref K.h] K.s = true) ∧ K.me.locks = false ∧ KA K.g K.s ∧ K.me.name = "<init>" ∧ ∀ q, K.s.heap.size ≤ q → K.A q
def CW (Y : MI) (K : KC) (R : Room) (Q : State → Prop) (ci : Nat) (fs : List Value) (tl : va_W) (pc : Nat) (lv : List (Nat × Value)) (st : List Value) (k n : Nat) : Prop :=
  ∀ (H : Heap) (locs : List Loc) (ls : Array Slot), va_P K.g.1 vwCl ((K.h, .inr (ci, fs)) :: tl) H → va_D K.A ((K.h, .inr (ci, fs)) :: tl) → va_S K.A K.s.heap H locs → lv_has ls Y.2.2.1 lv → W K.p K.l K.e R K.s K.m #[.ref K.h] K.b K.me K.c H locs k n Q (F0 K.m pc ls st)
def CQ {S : Type} (K : KC) (w : WF S) (k n : Nat) : State → Prop := MQ K.b (va_Qv (fun _ : S => True) (fun a t => va_P K.g.1 vwCl (w K.g.2 K.h a) t.heap ∧ va_D K.A (w K.g.2 K.h a)) K.A) #[.ref K.h] K.s k n K.A
theorem cm_intro {S : Type} {Y : MI} {ci : Nat} {fs : List Value} {w : WF S} {k n : Nat} (hy : plainName Y.1.cls = true) (hi : Y.1.name = "<init>") (hr : Y.2.2.2.1 = none) (hL : 1 ≤ Y.2.2.1) (h : ∀ K : KC, CCx Y K → CW Y K (rmC Y.lvl k n) (CQ K w k n) ci fs [] 0 [(0, .ref K.h)] [] 0 0) : CMet Y ci fs w k n := by
  intro l g h0 sz
  refine Met.ofW (cc := Y.2.1) (maxL := Y.2.2.1) (ret := Y.2.2.2.1) hy rfl ?_
  intro p e s m args below meth c s₁ B hml hv
  obtain ⟨rfl, hsz, hP, hK, hD⟩ := hv
  subst hsz
  have X := h (p, l, e, s, m, below, meth, c, g, h0, va_A [(h0, .inr (ci, fs))] s.heap.size) ⟨B.exec, B.bytes, B.returns.trans hr, hml, findClass_of_methodNamed B.named, atoms_spec (ws := WTs Y) B.pre, B.notSynchronized, hK, ((name_of_methodNamed B.named B.method).1).trans hi, fun q hq => Or.inr hq⟩
  rw [lg_entry_eq]
  have hl := lv_entry [Value.ref h0] (n := Y.2.2.1) hL
  exact X s.heap [] _ hP (hD.self) va_S.rf hl
/-- the order of the cells doesn't matter -/
theorem va_P.rot {D : va_G} {x : Nat × va_E} {a b : va_W} {H : Heap} (h : va_P D vwCl (x :: (a ++ b)) H) : va_P D vwCl (x :: (b ++ a)) H := by
  have ha : ∀ y ∈ x :: (a ++ b), va_at D vwCl y H := fun y hy => by
    obtain ⟨i, hi⟩ := List.mem_iff_getElem?.mp hy
    exact h i y hi
  intro k q hk
  refine ha q ?_
  have := List.mem_of_getElem? hk
  simp only [List.mem_cons, List.mem_append] at this ⊢
  rcases this with h | h | h
  · exact Or.inl h
  · exact Or.inr (Or.inr h)
  · exact Or.inr (Or.inl h)
theorem va_D.rot {A : Nat → Prop} {x : Nat × va_E} {a b : va_W} (h : va_D A (x :: (a ++ b))) : va_D A (x :: (b ++ a)) := by
  have hm : ∀ y ∈ x :: (a ++ b), A y.1 := fun y hy => by
    obtain ⟨i, hi⟩ := List.mem_iff_getElem?.mp hy
    exact h.2 i y hi
  let π : Nat → Nat := fun k => if k = 0 then 0 else if k ≤ b.length then k + a.length else k - b.length
  have hπ : ∀ (k : Nat) (q : Nat × va_E), (x :: (b ++ a))[k]? = some q → (x :: (a ++ b))[π k]? = some q := by
    intro k q hk
    have hl : k < 1 + (b.length + a.length) := by
      have := (List.getElem?_eq_some_iff.mp hk).1
      simp only [List.length_cons, List.length_append] at this
      omega
    show (x :: (a ++ b))[if k = 0 then 0 else if k ≤ b.length then k + a.length else k - b.length]? = some q
    cases k with
    | zero => exact hk
    | succ k =>
      rw [if_neg (by omega)]
      rw [List.getElem?_cons_succ] at hk
      by_cases hb : k + 1 ≤ b.length
      · rw [if_pos hb, show k + 1 + a.length = (k + a.length) + 1 by omega, List.getElem?_cons_succ, List.getElem?_append_right (by omega), show k + a.length - a.length = k by omega]
        rw [List.getElem?_append_left (by omega)] at hk
        exact hk
      · rw [if_neg hb]
        rw [List.getElem?_append_right (by omega)] at hk
        rw [show k + 1 - b.length = (k - b.length) + 1 by omega, List.getElem?_cons_succ, List.getElem?_append_left (by omega)]
        exact hk
  refine ⟨fun i j p q hp hq e => ?_, fun k q hk => hm q ?_⟩
  · have hi : i < 1 + (b.length + a.length) := by
      have := (List.getElem?_eq_some_iff.mp hp).1
      simp only [List.length_cons, List.length_append] at this
      omega
    have hj : j < 1 + (b.length + a.length) := by
      have := (List.getElem?_eq_some_iff.mp hq).1
      simp only [List.length_cons, List.length_append] at this
      omega
    have z := h.1 (π i) (π j) p q (hπ i p hp) (hπ j q hq) e
    have zi : π i = if i = 0 then 0 else if i ≤ b.length then i + a.length else i - b.length := rfl
    have zj : π j = if j = 0 then 0 else if j ≤ b.length then j + a.length else j - b.length := rfl
    rw [zi, zj] at z
    by_cases i0 : i = 0
    · rw [if_pos i0] at z
      by_cases j0 : j = 0
      · omega
      · rw [if_neg j0] at z
        by_cases jb : j ≤ b.length
        · rw [if_pos jb] at z; omega
        · rw [if_neg jb] at z; omega
    · rw [if_neg i0] at z
      by_cases ib : i ≤ b.length
      · rw [if_pos ib] at z
        by_cases j0 : j = 0
        · rw [if_pos j0] at z; omega
        · rw [if_neg j0] at z
          by_cases jb : j ≤ b.length
          · rw [if_pos jb] at z; omega
          · rw [if_neg jb] at z; omega
      · rw [if_neg ib] at z
        by_cases j0 : j = 0
        · rw [if_pos j0] at z; omega
        · rw [if_neg j0] at z
          by_cases jb : j ≤ b.length
          · rw [if_pos jb] at z; omega
          · rw [if_neg jb] at z; omega
  · have := List.mem_of_getElem? hk
    simp only [List.mem_cons, List.mem_append] at this ⊢
    rcases this with h | h | h
    · exact Or.inl h
    · exact Or.inr (Or.inr h)
    · exact Or.inr (Or.inl h)
section CWR
variable {Y : MI} {K : KC} {R : Room} {Q : State → Prop} {ci : Nat} {fs : List Value} {tl : va_W} {pc : Nat} {lv : List (Nat × Value)} {st : List Value} {k n : Nat}
theorem CCx.w (C : CCx Y K) {w : Cond} (h : w ∈ WTb) : w.before #[.ref K.h] K.s = true := C.2.2.2.2.2.1 w (List.mem_cons_of_mem _ h)
theorem CCx.hts (C : CCx Y K) : ∀ w ∈ WTb, w.before #[.ref K.h] K.s = true := fun w h => C.w h
theorem cw_ret {S : Type} {w : WF S} {kT nT : Nat} (C : CCx Y K) (a : S) (hw : (K.h, .inr (ci, fs)) :: tl = w K.g.2 K.h a) (hk : k ≤ kT) (hn : n ≤ nT) (hd : decode Y.2.1 pc = .ok (.return_, 1)) : CW Y K R (CQ K w kT nT) ci fs tl pc lv [] k n := by
  intro H locs ls hP hD hS hl
  rw [hw] at hP hD
  refine W.widen (k := kT) (n := nT) hk hn ?_
  exact W.vret C.1 C.2.1 C.2.2.1 (fun t ht hW => ⟨⟨a, rfl, trivial, by rw [ht]; exact hP, hD⟩, hS.F ht⟩) hS.2.2 hd C.2.2.2.2.2.2.1
theorem cw_conv {fs' : List Value} {tl' : va_W} {lv' : List (Nat × Value)} {st' : List Value} (h1 : fs = fs') (h2 : tl = tl') (h3 : lv = lv') (h4 : st = st') (kk : CW Y K R Q ci fs' tl' pc lv' st' k n) : CW Y K R Q ci fs tl pc lv st k n := by subst h1; subst h2; subst h3; subst h4; exact kk
theorem cw_kn {k' n' : Nat} (hk : k ≤ k') (hn : n ≤ n') (kk : CW Y K R Q ci fs tl pc lv st k' n') : CW Y K R Q ci fs tl pc lv st k n := fun H locs ls hP hD hS hl => W.widen hk hn (kk H locs ls hP hD hS hl)
theorem cw_rot {a b : va_W} (kk : CW Y K R Q ci fs (b ++ a) pc lv st k n) : CW Y K R Q ci fs (a ++ b) pc lv st k n := fun H locs ls hP hD hS hl => kk H locs ls hP.rot hD.rot hS hl
theorem cw_aload (C : CCx Y K) (j : Nat) {i : Fin 4} {x : Nat} (hd : decode Y.2.1 pc = .ok (.aload_n i, 1)) (hk : lv[j]? = some ((i : Nat), .ref x)) (kk : CW Y K R Q ci fs tl (pc + 1) lv (.ref x :: st) k n) : CW Y K R Q ci fs tl pc lv st k n := fun H locs ls hP hD hS hl => lv_aload_n C.1 C.2.1 hd rfl (lv_at hl j hk) (kk H locs ls hP hD hS hl)
theorem cw_iload (C : CCx Y K) (j : Nat) {i : Fin 4} {x : Int32} (hd : decode Y.2.1 pc = .ok (.iload_n i, 1)) (hk : lv[j]? = some ((i : Nat), .int x)) (kk : CW Y K R Q ci fs tl (pc + 1) lv (.int x :: st) k n) : CW Y K R Q ci fs tl pc lv st k n := fun H locs ls hP hD hS hl => lv_iload_n C.1 C.2.1 hd rfl (lv_at hl j hk) (kk H locs ls hP hD hS hl)
theorem cw_iconst (C : CCx Y K) {z : Int} {v : Int32} (hd : decode Y.2.1 pc = .ok (.iconst z, 1)) (hv : Int32.ofInt z = v) (kk : CW Y K R Q ci fs tl (pc + 1) lv (.int v :: st) k n) : CW Y K R Q ci fs tl pc lv st k n := fun H locs ls hP hD hS hl => lv_iconst C.1 C.2.1 hd hv (kk H locs ls hP hD hS hl)
theorem cw_bipush (C : CCx Y K) {z : Int} {v : Int32} (hd : decode Y.2.1 pc = .ok (.bipush z, 2)) (hv : (Int8.ofInt z).toInt32 = v) (kk : CW Y K R Q ci fs tl (pc + 2) lv (.int v :: st) k n) : CW Y K R Q ci fs tl pc lv st k n := fun H locs ls hP hD hS hl => lv_bipush C.1 C.2.1 hd hv (kk H locs ls hP hD hS hl)
theorem cw_sipush (C : CCx Y K) {z : Int} {v : Int32} (hd : decode Y.2.1 pc = .ok (.sipush z, 3)) (hv : (Int16.ofInt z).toInt32 = v) (kk : CW Y K R Q ci fs tl (pc + 3) lv (.int v :: st) k n) : CW Y K R Q ci fs tl pc lv st k n := fun H locs ls hP hD hS hl => lv_sipush C.1 C.2.1 hd hv (kk H locs ls hP hD hS hl)
theorem cw_dup (C : CCx Y K) {x : Nat} (hd : decode Y.2.1 pc = .ok (.dup, 1)) (kk : CW Y K R Q ci fs tl (pc + 1) lv (.ref x :: .ref x :: st) k n) : CW Y K R Q ci fs tl pc lv (.ref x :: st) k n := fun H locs ls hP hD hS hl => lv_dup C.1 C.2.1 hd rfl (kk H locs ls hP hD hS hl)
theorem cw_iadd (C : CCx Y K) {x y z : Int32} (hd : decode Y.2.1 pc = .ok (.iadd, 1)) (hz : x + y = z) (kk : CW Y K R Q ci fs tl (pc + 1) lv (.int z :: st) k n) : CW Y K R Q ci fs tl pc lv (.int y :: .int x :: st) k n := fun H locs ls hP hD hS hl => lv_iadd C.1 C.2.1 hd (by rw [hz]; exact kk H locs ls hP hD hS hl)
theorem cw_istore (C : CCx Y K) {i : Fin 4} {x : Int32} (lv' : List (Nat × Value)) (hd : decode Y.2.1 pc = .ok (.istore_n i, 1)) (hn : (i : Nat) < Y.2.2.1) (hl' : lvs1 lv i (.int x) = lv') (kk : CW Y K R Q ci fs tl (pc + 1) lv' st k n) : CW Y K R Q ci fs tl pc lv (.int x :: st) k n := fun H locs ls hP hD hS hl => lv_istore_n C.1 C.2.1 hd rfl hl hn hl' (fun ls' h' => kk H locs ls' hP hD hS h')
theorem cw_iinc (C : CCx Y K) {i j : Nat} {z : Int} {x v : Int32} (lv' : List (Nat × Value)) (hd : decode Y.2.1 pc = .ok (.iinc i z, 3)) (hk : lv[j]? = some (i, .int x)) (hv : x + Int32.ofInt z = v) (hn : i < Y.2.2.1) (hl' : lvs1 lv i (.int v) = lv') (kk : CW Y K R Q ci fs tl (pc + 3) lv' st k n) : CW Y K R Q ci fs tl pc lv st k n := fun H locs ls hP hD hS hl => lv_iinc C.1 C.2.1 hd hl hk hv hn hl' (fun ls' h' => kk H locs ls' hP hD hS h')
theorem cw_geT (C : CCx Y K) {x y : Int32} {off : Int} (tgt : Nat) (hd : decode Y.2.1 pc = .ok (.if_icmp .ge off, 3)) (ht : (pc : Int) + off = (tgt : Int)) (h : y ≤ x) (kk : CW Y K R Q ci fs tl tgt lv st k n) : CW Y K R Q ci fs tl pc lv (.int y :: .int x :: st) k n := fun H locs ls hP hD hS hl => lv_icmp_ge C.1 C.2.1 hd ht (fun _ => kk H locs ls hP hD hS hl) (fun z => absurd h z)
theorem cw_geF (C : CCx Y K) {x y : Int32} {off : Int} (tgt : Nat) (hd : decode Y.2.1 pc = .ok (.if_icmp .ge off, 3)) (ht : (pc : Int) + off = (tgt : Int)) (h : ¬ y ≤ x) (kk : CW Y K R Q ci fs tl (pc + 3) lv st k n) : CW Y K R Q ci fs tl pc lv (.int y :: .int x :: st) k n := fun H locs ls hP hD hS hl => lv_icmp_ge C.1 C.2.1 hd ht (fun z => absurd z h) (fun _ => kk H locs ls hP hD hS hl)
theorem cw_goto (C : CCx Y K) {off : Int} (tgt : Nat) (hd : decode Y.2.1 pc = .ok (.goto off, 3)) (ht : (pc : Int) + off = (tgt : Int)) (kk : CW Y K R Q ci fs tl tgt lv st k n) : CW Y K R Q ci fs tl pc lv st k n := fun H locs ls hP hD hS hl => lv_goto C.1 C.2.1 hd ht (kk H locs ls hP hD hS hl)
theorem oi_i : Cond.instanceMethod objectInit ∈ WTb := WT_mem (t1_in (List.mem_of_getElem? (i := 25) rfl)) rfl
theorem oi_c : Cond.code objectInit ⟨#[0xb1]⟩ 1 none ∈ WTb := WT_mem (t1_in (List.mem_of_getElem? (i := 26) rfl)) rfl
theorem cw_obj (C : CCx Y K) {idx x : Nat} (hw : Cond.methodLink Y.1.cls idx objectInit ∈ WTb) (hd : decode Y.2.1 pc = .ok (.invokespecial idx, 3)) (hr : 1 ≤ R.frames ∧ 20 ≤ R.locals) (hst : st = []) (kk : CW Y K R Q ci fs tl (pc + 3) lv st k n) : CW Y K R Q ci fs tl pc lv (.ref x :: st) k n := by
  subst hst
  intro H locs ls hP hD hS hl
  exact W.objInit C.1 C.2.1 C.2.2.2.2.1 (C.w hw) (C.w oi_i) (C.w oi_c) rfl (hl.1.trans C.2.2.2.1.symm) rfl hd hr.1 (Nat.le_trans (Nat.le_of_ble_eq_true rfl : _ ≤ 20) hr.2) (kk H locs ls hP hD hS hl)
theorem ac_int : Cond.arrayClass .int ∈ WTb := WT_mem (t1_in (List.mem_of_getElem? (i := 78) rfl)) rfl
theorem ac_long : Cond.arrayClass .long ∈ WTb := WT_mem (t1_in (List.mem_of_getElem? (i := 144) rfl)) rfl
theorem cw_newI (C : CCx Y K) {x : Int32} (N : Nat) (hx : ¬ x < 0) (hN : x.toNatClampNeg = N) (hb : N ≤ 1000) (hk : k + 1 ≤ R.cells) (hn : n + N ≤ R.slots) (hd : decode Y.2.1 pc = .ok (.newarray .int, 2)) (kk : ∀ q, CW Y K R Q ci fs ((q, .inl (K.g.2 0, N, .inl (fun _ => 0))) :: tl) (pc + 2) lv (.ref q :: st) (k + 1) (n + N)) : CW Y K R Q ci fs tl pc lv (.int x :: st) k n := by
  intro H locs ls hP hD hS hl
  have hKA := C.2.2.2.2.2.2.2.1
  refine va_newa (atype := .int) C.1 C.2.1 (C.w ac_int) (ty := .int) rfl hKA.1 hP hD hS C.2.2.2.2.2.2.2.2.2 (a0 := (N, .inl (fun _ => 0))) (fun _ => rfl) hx hN (by show N * 4 ≤ _; omega) hk hn hd (fun q cA H1 hK1 hP1 hD1 hS1 => ?_)
  have e : cA = K.g.2 0 := Option.some.inj ((hK1.2 4 (cA, .int) rfl).2.symm.trans (hKA.1.2 0 _ rfl).2)
  subst e
  exact kk q H1 locs ls (va_P.rot hP1) (va_D.rot hD1) hS1 hl
theorem cw_newL (C : CCx Y K) {x : Int32} (N : Nat) (hx : ¬ x < 0) (hN : x.toNatClampNeg = N) (hb : N ≤ 1000) (hk : k + 1 ≤ R.cells) (hn : n + N ≤ R.slots) (hd : decode Y.2.1 pc = .ok (.newarray .long, 2)) (kk : ∀ q, CW Y K R Q ci fs ((q, .inl (K.g.2 1, N, .inr (.inl (fun _ => 0)))) :: tl) (pc + 2) lv (.ref q :: st) (k + 1) (n + N)) : CW Y K R Q ci fs tl pc lv (.int x :: st) k n := by
  intro H locs ls hP hD hS hl
  have hKA := C.2.2.2.2.2.2.2.1
  refine va_newa (atype := .long) C.1 C.2.1 (C.w ac_long) (ty := .long) rfl hKA.1 hP hD hS C.2.2.2.2.2.2.2.2.2 (a0 := (N, .inr (.inl (fun _ => 0)))) (fun _ => rfl) hx hN (by show N * 8 ≤ _; omega) hk hn hd (fun q cA H1 hK1 hP1 hD1 hS1 => ?_)
  have e : cA = K.g.2 1 := Option.some.inj ((hK1.2 4 (cA, .long) rfl).2.symm.trans (hKA.1.2 1 _ rfl).2)
  subst e
  exact kk q H1 locs ls (va_P.rot hP1) (va_D.rot hD1) hS1 hl
theorem cw_newA (C : CCx Y K) {x : Int32} {idx : Nat} {E : String} (N t : Nat) (ht : (tysC K.g)[t]? = some (K.g.2 t, .object E)) (ho : va_AO E K.s) (hw : Cond.classLink Y.1.cls idx E ∈ WTb) (hx : ¬ x < 0) (hN : x.toNatClampNeg = N) (hb : N ≤ 1000) (hk : k + 1 ≤ R.cells) (hn : n + N ≤ R.slots) (hd : decode Y.2.1 pc = .ok (.anewarray idx, 3)) (kk : ∀ q, CW Y K R Q ci fs ((q, .inl (K.g.2 t, N, .inr (.inr (.inr (.inr (fun _ => none)))))) :: tl) (pc + 3) lv (.ref q :: st) (k + 1) (n + N)) : CW Y K R Q ci fs tl pc lv (.int x :: st) k n := by
  intro H locs ls hP hD hS hl
  have hKA := C.2.2.2.2.2.2.2.1
  refine va_newq C.1 C.2.1 C.2.2.2.2.1 (C.w hw) ho hKA.1 hP hD hS C.2.2.2.2.2.2.2.2.2 hx hN (by omega) hk hn hd (fun q cA H1 hK1 hP1 hD1 hS1 => ?_)
  have e : cA = K.g.2 t := by
    obtain ⟨_, _, _, _, _, h1⟩ := (hK1.2 4 (cA, .object E) rfl).2
    obtain ⟨_, _, _, _, _, h2⟩ := (hKA.1.2 t _ ht).2
    exact Option.some.inj (h1.symm.trans h2)
  subst e
  exact kk q H1 locs ls (va_P.rot hP1) (va_D.rot hD1) hS1 hl
theorem cw_new (C : CCx Y K) {idx cj N : Nat} {E : String} {T : u_T} (gs : List Value) (ty : Nat → FieldType) (hc : vwCl[cj]? = some (E, T, N)) (hty : ∀ j, j < N → parseFieldDescriptor (T j).2.2.1 = some (ty j)) (hgs : ∀ j, j < N → defaultValue (ty j) = vp_V gs j) (w1 : Cond.classLink Y.1.cls idx E ∈ WTb) (w2 : Cond.instantiable E N ∈ WTb) (w3 : Cond.initialized E ∈ WTb) (hk : k + 1 ≤ R.cells) (hn : n + N ≤ R.slots) (hd : decode Y.2.1 pc = .ok (.new idx, 3)) (kk : ∀ q, CW Y K R Q ci fs ((q, .inr (cj, gs)) :: tl) (pc + 3) lv (.ref q :: st) (k + 1) (n + N)) : CW Y K R Q ci fs tl pc lv st k n := by
  intro H locs ls hP hD hS hl
  exact va_new (Ts := WTb) C.1 C.2.1 C.hts (cls_in hc) ty hty C.2.2.2.2.1 (C.w w1) (C.w w2) (C.w w3) C.2.2.2.2.2.2.2.1.1 hP hD hS C.2.2.2.2.2.2.2.2.2 hc hgs hk hn hd (fun q H1 hP1 hD1 hS1 => kk q H1 locs ls (va_P.rot hP1) (va_D.rot hD1) hS1 hl)
theorem cw_putF (C : CCx Y K) {idx j N : Nat} {T : u_T} {ty : FieldType} {v : Value} (fs' : List Value) (ty0 : Nat → FieldType) (hc : vwCl[ci]? = some (Y.1.cls, T, N)) (hty : ∀ j, j < N → parseFieldDescriptor (T j).2.2.1 = some (ty0 j)) (hnm : ∀ a, a < N → ∀ b, b < N → a ≠ b → (T a).2.1 ≠ (T b).2.1) (hf : FL Y.1.cls idx ci j) (hfin : (T j).2.2.2 = true) (hdecl : (T j).1 = Y.1.cls) (hp : parseFieldDescriptor (T j).2.2.1 = some ty) (hn : narrow ty v = v) (hfit : fits ty v = true) (hl0 : j < fs.length) (hfs : fs.set j v = fs') (hd : decode Y.2.1 pc = .ok (.putfield idx, 3)) (kk : CW Y K R Q ci fs' tl (pc + 3) lv st k n) : CW Y K R Q ci fs tl pc lv (v :: .ref K.h :: st) k n := by
  obtain ⟨q, h1, h2, h3⟩ := hf
  cases h1.symm.trans hc
  subst hfs
  intro H locs ls hP hD hS hl
  exact va_putF (Ts := WTb) C.1 C.2.1 C.hts (cls_in hc) ty0 hty hnm C.2.2.2.2.1 C.2.2.2.2.2.2.2.1.1 hP hD hS 0 rfl hc j h2 (C.w h3) (fun _ h9 => h9) hfin C.2.2.2.2.2.2.2.2.1 hdecl hp hn hfit hl0 hd (fun H1 locs1 hP1 hD1 hS1 => kk H1 locs1 ls hP1 hD1 hS1 hl)
theorem cw_put (C : CCx Y K) {idx j : Nat} {ty : FieldType} {v : Int32} (fs' : List Value) (hf : FP Y.1.cls idx ci j ty) (hn : narrow ty (.int v) = .int v) (hfit : fits ty (.int v) = true) (hl0 : j < fs.length) (hfs : fs.set j (.int v) = fs') (hd : decode Y.2.1 pc = .ok (.putfield idx, 3)) (kk : CW Y K R Q ci fs' tl (pc + 3) lv st k n) : CW Y K R Q ci fs tl pc lv (.int v :: .ref K.h :: st) k n := by
  obtain ⟨⟨E, T, N⟩, h1, h2, h3, h4, h5⟩ := hf
  obtain ⟨ty0, t1, t2⟩ := cls_ty h1
  subst hfs
  intro H locs ls hP hD hS hl
  exact va_put (Ts := WTb) C.1 C.2.1 C.hts (cls_in h1) ty0 t1 t2 C.2.2.2.2.1 C.2.2.2.2.2.2.2.1.1 hP hD hS 0 rfl h1 j h2 (C.w h3) (fun _ h9 => h9) h4 h5 hn hfit hl0 hd (fun H1 locs1 hP1 hD1 hS1 => kk H1 locs1 ls hP1 hD1 hS1 hl)
theorem cw_get (C : CCx Y K) {idx j : Nat} {v : Value} (hf : FL Y.1.cls idx ci j) (hv : fs[j]? = some v) (hd : decode Y.2.1 pc = .ok (.getfield idx, 3)) (kk : CW Y K R Q ci fs tl (pc + 3) lv (v :: st) k n) : CW Y K R Q ci fs tl pc lv (.ref K.h :: st) k n := by
  obtain ⟨⟨E, T, N⟩, h1, h2, h3⟩ := hf
  intro H locs ls hP hD hS hl
  exact va_get (Ts := WTb) C.1 C.2.1 C.hts (cls_in h1) C.2.2.2.2.1 C.2.2.2.2.2.2.2.1.1 hP 0 rfl h1 j h2 (C.w h3) (fun _ h9 => h9) hv hd (kk H locs ls hP hD hS hl)
/-- a field of a cell that was made -/
theorem cw_getT (C : CCx Y K) {idx j cj a : Nat} {v : Value} {gs : List Value} (i : Nat) (hi : tl[i]? = some (a, .inr (cj, gs))) (hf : FL Y.1.cls idx cj j) (hv : gs[j]? = some v) (hd : decode Y.2.1 pc = .ok (.getfield idx, 3)) (kk : CW Y K R Q ci fs tl (pc + 3) lv (v :: st) k n) : CW Y K R Q ci fs tl pc lv (.ref a :: st) k n := by
  obtain ⟨⟨E, T, N⟩, h1, h2, h3⟩ := hf
  intro H locs ls hP hD hS hl
  exact va_get (Ts := WTb) C.1 C.2.1 C.hts (cls_in h1) C.2.2.2.2.1 C.2.2.2.2.2.2.2.1.1 hP (i + 1) (by rw [List.getElem?_cons_succ]; exact hi) h1 j h2 (C.w h3) (fun _ h9 => h9) hv hd (kk H locs ls hP hD hS hl)
theorem cw_astq (C : CCx Y K) {a b cj N : Nat} {gs : List Value} {r : vw_C} {x : Int32} {f : Nat → Option Nat} (tl' : va_W) (i t o : Nat) (hi : tl[i]? = some (a, .inl (K.g.2 t, N, .inr (.inr (.inr (.inr f)))))) (ho : tl[o]? = some (b, .inr (cj, gs))) (hc : vwCl[cj]? = some r) (ht : (tysC K.g)[t]? = some (K.g.2 t, .object r.1)) (hx : vp_in x N) (htl : tl.set i (a, .inl (K.g.2 t, N, .inr (.inr (.inr (.inr (va_up f x.toNatClampNeg (some b))))))) = tl') (hd : decode Y.2.1 pc = .ok (.aastore, 1)) (kk : CW Y K R Q ci fs tl' (pc + 1) lv st k n) : CW Y K R Q ci fs tl pc lv (.ref b :: .int x :: .ref a :: st) k n := by
  subst htl
  intro H locs ls hP hD hS hl
  exact va_astq C.1 C.2.1 C.2.2.2.2.2.2.2.1.1 hP hD hS (i + 1) t (o + 1) cj (by rw [List.getElem?_cons_succ]; exact hi) ht (by rw [List.getElem?_cons_succ]; exact ho) hc hx hd (fun H1 locs1 hP1 hD1 hS1 => kk H1 locs1 ls hP1 hD1 hS1 hl)
theorem cw_iast (C : CCx Y K) {a N : Nat} {x y : Int32} {f : Nat → Int32} (tl' : va_W) (i : Nat) (hi : tl[i]? = some (a, .inl (K.g.2 0, N, .inl f))) (hx : vp_in x N) (htl : tl.set i (a, .inl (K.g.2 0, N, .inl (upd f x.toNatClampNeg y))) = tl') (hd : decode Y.2.1 pc = .ok (.iastore, 1)) (kk : CW Y K R Q ci fs tl' (pc + 1) lv st k n) : CW Y K R Q ci fs tl pc lv (.int y :: .int x :: .ref a :: st) k n := by
  subst htl
  intro H locs ls hP hD hS hl
  exact va_iast C.1 C.2.1 C.2.2.2.2.2.2.2.1.1 hP hD hS (i + 1) 0 (by rw [List.getElem?_cons_succ]; exact hi) rfl hx hd (fun H1 locs1 hP1 hD1 hS1 => kk H1 locs1 ls hP1 hD1 hS1 hl)
end CWR
/-- the rest of a world, and what a constructor made of its last cell -/
theorem join_last {A0 : Nat → Prop} {D : va_G} {ws w1 : va_W} {x : Nat × va_E} {H H1 : Heap} (hP : va_P D vwCl (ws ++ [x]) H) (hD : va_D A0 (ws ++ [x])) (hk : ∀ q : Nat, q < H.size → ¬ va_A [x] H.size q → H1[q]? = H[q]?) (hF : ∀ q, va_A [x] H.size q → A0 q) (hP1 : va_P D vwCl w1 H1) (hD1 : va_D (va_A [x] H.size) w1) : va_P D vwCl (ws ++ w1) H1 ∧ va_D A0 (ws ++ w1) := by
  have ap : ∀ (k : Nat) (q : Nat × va_E), ws[k]? = some q → q.1 < H.size ∧ ¬ va_A [x] H.size q.1 := by
    intro k q hq
    have hlt := (List.getElem?_eq_some_iff.mp hq).1
    have hq' : (ws ++ [x])[k]? = some q := by rw [List.getElem?_append_left hlt]; exact hq
    have hl := (hP k q hq').lt
    refine ⟨hl, fun h => ?_⟩
    rcases h with ⟨k2, e, h⟩ | h
    · cases k2 with
      | zero =>
        have hx : x = (q.1, e) := Option.some.inj h
        have hl2 : (ws ++ [x])[ws.length]? = some (q.1, e) := by rw [List.getElem?_append_right (Nat.le_refl _), Nat.sub_self, ← hx]; rfl
        have := hD.1 k ws.length q (q.1, e) hq' hl2 rfl
        omega
      | succ k2 => simp at h
    · omega
  have dl : va_D A0 ws := ⟨fun i j p q hp hq e => by
      have h1 := (List.getElem?_eq_some_iff.mp hp).1
      have h2 := (List.getElem?_eq_some_iff.mp hq).1
      exact hD.1 i j p q (by rw [List.getElem?_append_left h1]; exact hp) (by rw [List.getElem?_append_left h2]; exact hq) e, fun k q hq => hD.2 k q (by rw [List.getElem?_append_left (List.getElem?_eq_some_iff.mp hq).1]; exact hq)⟩
  refine ⟨va_P.app (fun k q hq => ?_) hP1, va_D.app dl (hD1.weaken (fun k q _ h => hF q.1 h)) (fun i j y z hy hz hyz => ?_)⟩
  · obtain ⟨g1, g2⟩ := ap k q hq
    have hq' : (ws ++ [x])[k]? = some q := by rw [List.getElem?_append_left (List.getElem?_eq_some_iff.mp hq).1]; exact hq
    exact (hP k q hq').kept (hk q.1 g1 g2)
  · exact (ap i y hy).2 (by rw [hyz]; exact hD1.2 j z hz)
/-- a constructor's links -/
def LnkI (own : String) (idx : Nat) (Z : MI) : Prop := Cond.code Z.1 Z.2.1 Z.2.2.1 none ∈ WTb ∧ Cond.initialized Z.1.cls ∈ WTb ∧ Cond.methodLink own idx Z.1 ∈ WTb ∧ Cond.instanceMethod Z.1 ∈ WTb ∧ Z.1.name = "<init>" ∧ Z.2.2.2.1 = none ∧ (Z.1.cls ≠ "java/lang/invoke/MethodHandle" ∧ Z.1.cls ≠ "java/lang/invoke/VarHandle" ∧ (parseMethodDescriptor Z.1.desc).map (fun d => d.parameters.length) = some 0) ∧ Z.2.2.1 ≤ 2
section CWC
variable {Y : MI} {K : KC} {R : Room} {Q : State → Prop} {ci : Nat} {fs : List Value} {tl : va_W} {pc : Nat} {lv : List (Nat × Value)} {st : List Value} {k n : Nat}
theorem pc_blindC {g : GC} {h0 sz cj : Nat} {gs : List Value} : FrameBlind (va_Pc [.ref h0] (fun U => U.heap.size = sz ∧ va_P g.1 vwCl [(h0, .inr (cj, gs))] U.heap ∧ KA g U ∧ va_D (fun _ => True) [(h0, .inr (cj, gs))])) := fun a U f mk q => by
  obtain ⟨q0, q1, qP, qK, qD⟩ := q
  exact ⟨q0, q1, qP, KA.moved (u := U) (U := U.calling f mk a) (Vm.Alike.refl U.vm) qK, qD⟩
theorem cw_callI {S : Type} (C : CCx Y K) {Z : MI} {idx b cj mk mn : Nat} {gs : List Value} {w : WF S} {t1 : va_W} (hM : CMet Z cj gs w mk mn) (hL : LnkI Y.1.cls idx Z) (hlv : Z.lvl + 1 ≤ R.frames ∧ 40 * Z.lvl + 40 ≤ R.locals) (hroom : (st.map fun v => v.category).sum ≤ 8) (hk : k + mk ≤ R.cells ∧ n + mn ≤ R.slots) (htl : tl = (b, .inr (cj, gs)) :: t1) (hd : decode Y.2.1 pc = .ok (.invokespecial idx, 3)) (kk : ∀ a : S, CW Y K R Q ci fs (w K.g.2 b a ++ t1) (pc + 3) lv st (k + mk) (n + mn)) : CW Y K R Q ci fs tl pc lv (.ref b :: st) k n := by
  subst htl
  obtain ⟨w1, w2, w3, w4, i1, i2, i3, i4⟩ := hL
  intro H locs ls hP0 hD0 hS hl
  have hP := va_P.rot (a := [(b, .inr (cj, gs))]) (b := t1) hP0
  have hD := va_D.rot (a := [(b, .inr (cj, gs))]) (b := t1) hD0
  have hKA := C.2.2.2.2.2.2.2.1
  have hA := C.2.2.2.2.2.2.2.2.2
  have hlast : ((K.h, .inr (ci, fs)) :: (t1 ++ [(b, .inr (cj, gs))]))[t1.length + 1]? = some (b, .inr (cj, gs)) := by
    rw [List.getElem?_cons_succ, List.getElem?_append_right (Nat.le_refl _), Nat.sub_self]; rfl
  have hPc : va_P K.g.1 vwCl [(b, .inr (cj, gs))] H := fun j q hj => by
    cases j with
    | zero => cases hj; exact hP _ _ hlast
    | succ j => simp at hj
  have hDc : va_D (fun _ => True) [(b, (.inr (cj, gs) : va_E))] := ⟨fun i j p q hp hq _ => by
    cases i with
    | zero => cases j with
      | zero => rfl
      | succ j => simp at hq
    | succ i => simp at hp, fun _ _ _ => trivial⟩
  have hFc : ∀ q, va_A [(b, (.inr (cj, gs) : va_E))] H.size q → K.A q := by
    intro q h
    rcases h with ⟨j, e, h⟩ | h
    · cases j with
      | zero => cases h; exact hD.2 _ _ hlast
      | succ j => simp at h
    · exact hA q (Nat.le_trans hS.1 h)
  refine va_callv (va_runI (As := []) (rest := st) (Ts := WTs Y) ⟨C.1, C.2.1, C.2.2.2.1, C.2.2.2.2.1, C.2.2.2.2.2.1⟩ (hM K.l K.g b H.size) (cwI (bytes := Z.2.1) (maxL := Z.2.2.1) (ws' := WTb) 0 C.2.2.2.2.2.1 (goodIn_WT (fun x hx => (List.mem_cons.mp hx).elim (fun e => by rw [e, i2]; exact w1) id)) (by rw [WTs, i2]) rfl rfl (C.w w2) (C.w w3) (C.w w4) i1 i3 ⟨hlv.1, by show 8 + (Z.2.2.1 + 11) + 40 * Z.lvl ≤ R.locals; omega⟩) ⟨pc_blindC, fun U hU hW => ⟨rfl, by rw [hU], by rw [hU]; exact hPc, KA.moved hW.alike hKA, hDc⟩⟩ rfl rfl hl.1 rfl (lv_room hroom) hd hk) hS (fun q _ h => hFc q h) hFc (fun a t H1 locs1 ht hvm _ hB hz1 hk1 hS1 => ?_)
  obtain ⟨hP1, hD1⟩ := hB
  rw [ht] at hP1
  obtain ⟨hP2, hD2⟩ := join_last (ws := (K.h, .inr (ci, fs)) :: t1) (x := (b, .inr (cj, gs))) hP hD hk1 hFc hP1 hD1
  exact kk a H1 locs1 ls (va_P.rot hP2) (va_D.rot hD2) hS1 hl
end CWC
