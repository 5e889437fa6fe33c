/-! ===== the machine's frame, contracts over the abstract heap ===== -/
def RetI (M : MI) (pc : Nat) : Option Value → Prop
  | none => decode M.2.1 pc = .ok (.return_, 1) ∧ mrt M = none
  | some (.int w) => decode M.2.1 pc = .ok (.ireturn, 1) ∧ ∃ ty, mrt M = some ty ∧ narrow ty (.int w) = .int w
  | some (.long _) => decode M.2.1 pc = .ok (.lreturn, 1) ∧ mrt M = some .long
  | some (.double _) => decode M.2.1 pc = .ok (.dreturn, 1) ∧ mrt M = some .double
  | some (.ref _) => decode M.2.1 pc = .ok (.areturn, 1) ∧ ∃ rt, mrt M = some rt ∧ ((∃ n, rt = .object n) ∨ ∃ t, rt = .array t)
  | _ => False
def Mach (G : GT) (M : MI) (ini : Bool) (d : Nat) (P : Option Value → Hp → Prop) (PX : String → Hp → Prop) (p : Program) (l : Launch) (e : Env) (R : Room) (s : State) (m : MethodId) (args : Array Value) (below : List Frame) (meth : Method) (c : Code) (Q : State → Prop) : Prop :=
  p.tables.exec = Jvm.exec ∧ c.code = M.2.1 ∧ c.maxLocals = M.2.2.1 ∧ s.vm.findClass M.1 = some m.cls ∧ (∀ w ∈ gw, w.before args s = true) ∧ Glob G s s.heap ∧ d ≤ R.frames ∧ 39 * d ≤ R.locals ∧ c.exceptionTable.toList = tableOf M.2.2.2.2 ∧ (ini = true → meth.name = "<init>") ∧ G.2.2.1.1 ≤ s.heap.size ∧ G.2.2.1.2.1 < G.2.2.1.1 ∧ l.stackTraces = false ∧
  (∀ (v : Option Value) (h : Hp) (H : Heap) (locs : List Loc) (cells slots pc : Nat) (la : Array Slot), RetI M pc v → P v h → Rel G h H → va_S (AA G) s.heap H locs → cells ≤ R.cells → slots ≤ R.slots → W p l e R s m args below meth c H locs cells slots Q (F0 m pc la v.toList)) ∧
  (∀ (x : Nat) (h : Hp) (H : Heap) (locs : List Loc) (cells slots pc : Nat) (la : Array Slot) (rest : List Value), 50 ≤ x → x ≤ 52 → M.1 = RX4 → mhh M = [] → thrOK M pc x → 7 ≤ d → catS rest ≤ 8 → la.size = M.2.2.1 → PX (nmOf x) h → Rel G h H → va_S (AA G) s.heap H locs → cells + 1 ≤ R.cells → slots + 6 ≤ R.slots → W p l e R s m args below meth c H locs cells slots Q (F0 m pc la rest)) ∧
  (∀ (E : String) (ce : Cell) (q : Addr) (h : Hp) (H : Heap) (locs : List Loc) (cells slots pc : Nat) (la : Array Slot) (rest : List Value), mhh M = [] → PX E h → Rel G h H → va_S (AA G) s.heap H locs → cells ≤ R.cells → slots ≤ R.slots → H[q]? = some ce → ce.vm = .none → s.vm.findClass E = some ce.cls → vx_W p l e R s m args below meth c H locs cells slots Q (F0 m pc la rest) q)
def Wp (G : GT) (M : MI) (ini : Bool) (d : Nat) (P : Option Value → Hp → Prop) (PX : String → Hp → Prop) (pc : Nat) (ls : Ls) (st : List Value) (h : Hp) (b : Nat × Nat) : Prop :=
  ∀ ⦃p : Program⦄ ⦃l : Launch⦄ ⦃e : Env⦄ ⦃R : Room⦄ ⦃s : State⦄ ⦃m : MethodId⦄ ⦃args : Array Value⦄ ⦃below : List Frame⦄ ⦃meth : Method⦄ ⦃c : Code⦄ ⦃Q : State → Prop⦄ ⦃H : Heap⦄ ⦃locs : List Loc⦄ ⦃cells slots : Nat⦄ ⦃la : Array Slot⦄,
    Mach G M ini d P PX p l e R s m args below meth c Q → Rel G h H → va_S (AA G) s.heap H locs → cells + b.1 ≤ R.cells → slots + b.2 ≤ R.slots → LsR M.2.2.1 ls la → W p l e R s m args below meth c H locs cells slots Q (F0 m pc la st)
def cwd (y : MethodName) (M : MI) : Cond := match M.2.2.2.2 with
  | [] => .code y M.2.1 M.2.2.1 M.2.2.2.1
  | hh => .codeWith y M.2.1 M.2.2.1 M.2.2.2.1 hh
def rmD (d mc ms : Nat) : Room := { frames := d, cells := mc, slots := ms, locals := 39 * d }
def PcG (G : GT) (As : List Value) (h : Hp) : Array Value → State → Prop := va_Pc As (fun U => Rel G h U.heap ∧ Glob G U U.heap ∧ G.2.2.1.1 ≤ U.heap.size ∧ G.2.2.1.2.1 < G.2.2.1.1)
def QcG (G : GT) (Q : Option Value → Hp → Prop) : Array Value → State → Outcome → State → Prop := fun _ st oc t => (∃ (v : Option Value) (u : Hp), oc = .returned v ∧ Q v u ∧ Rel G u t.heap) ∧ va_F (AA G) st t
def XcG (G : GT) (QX : String → Hp → Prop) : String → State → State → Prop := vx_X (fun _ : Hp => True) (fun E u t => QX E u ∧ Rel G u t.heap) (AA G)
/-- a method keeps its contract at depth d, with mc cells of ms slots -/
def OKm (G : GT) (y : MethodName) (M : MI) (d mc ms : Nat) (ct : Ct) : Prop := ∀ l : Launch, l.stackTraces = false → ∀ (As : List Value) (h : Hp) (Q : Option Value → Hp → Prop) (QX : String → Hp → Prop), ct As h Q QX → vx_Met l y (cwd y M :: gw) (rmD d mc ms) (PcG G As h) (QcG G Q) (XcG G QX) mc ms (AA G)
def dsc (y : MethodName) (n : Nat) : Prop := y.cls ≠ "java/lang/invoke/MethodHandle" ∧ y.cls ≠ "java/lang/invoke/VarHandle" ∧ (parseMethodDescriptor y.desc).map (fun d => d.parameters.length) = some n
/-- the words that a call at the constant pool's place j of 'own' needs -/
def ceW (own : String) (j : Nat) (ce : CE) : List Cond := match ce.1 with
  | 0 => [.methodLink own j ce.2.1, .instanceMethod ce.2.1, .selects ce.2.1.cls ce.2.1 ce.2.1, .initialized ce.2.1.cls, cwd ce.2.1 ce.2.2.1]
  | 1 => [.methodLink own j ce.2.1, .static ce.2.1, .initialized ce.2.1.cls, cwd ce.2.1 ce.2.2.1]
  | 2 => [.methodLink own j ce.2.1, .instanceMethod ce.2.1, .initialized ce.2.1.cls, cwd ce.2.1 ce.2.2.1]
  | 3 => [.instanceMethod ce.2.1, .initialized ce.2.1.cls, cwd ce.2.1 ce.2.2.1]
  | 4 => [.methodLink own j Lib.objectInit, .instanceMethod Lib.objectInit, .code Lib.objectInit ⟨#[0xb1]⟩ 1 none]
  | 5 => [.methodLink own j ⟨"java/lang/Object", "getClass", "()Ljava/lang/Class;"⟩, .selects "[Ljava/lang/Object;" ⟨"java/lang/Object", "getClass", "()Ljava/lang/Class;"⟩ ⟨"java/lang/Object", "getClass", "()Ljava/lang/Class;"⟩, .instanceMethod ⟨"java/lang/Object", "getClass", "()Ljava/lang/Class;"⟩, .native ⟨"java/lang/Object", "getClass", "()Ljava/lang/Class;"⟩]
  | 8 => [.methodLink own j Lib.Math.max.name, .static Lib.Math.max.name, .initialized "java/lang/Math", .code Lib.Math.max.name Lib.Math.max.code 2 (some .int)]
  | 9 => [.methodLink own j Lib.Math.min.name, .static Lib.Math.min.name, .initialized "java/lang/Math", .code Lib.Math.min.name Lib.Math.min.code 2 (some .int)]
  | _ => [.methodLink own j arraycopyName, .native arraycopyName, .static arraycopyName, .initialized "java/lang/System"]
def ceOK (G : GT) (own : String) (q : Nat × CE) : Prop := (∀ w ∈ ceW own q.1 q.2, w ∈ gw) ∧ (q.2.1 < 4 → dsc q.2.2.1 q.2.2.2.2.1 ∧ q.2.2.2.1.2.2.1 ≤ 20 ∧ OKm G q.2.2.1 q.2.2.2.1 q.2.2.2.2.2.1 q.2.2.2.2.2.2.1 q.2.2.2.2.2.2.2.1 q.2.2.2.2.2.2.2.2) ∧
  (q.2.1 = 2 → q.2.2.1.name = "<init>" ∧ q.2.2.2.1.2.2.2 = (none, [])) ∧ (q.2.1 = 3 → own = RX4 ∧ q.1 = 11 ∧ q.2.2.1 = yX3_init ∧ q.2.2.2.1.2.2.2 = (none, [])) ∧ (q.2.1 = 0 → q.2.2.2.1.2.2.2.2 = [])
/-- the rows of a method's exception table name exceptions -/
def hhOK (_own : String) (hh : List (Nat × Nat × Nat × Nat)) : Prop := ∀ r ∈ hh, False
/-! the relation -/
theorem Rel.lt {G : GT} {h : Hp} {H : Heap} (hR : Rel G h H) {a : Nat} (ha : kd h a ≠ 0) : a < H.size ∧ AA G a := by
  obtain ⟨L, h1, h2, h3⟩ := hR
  obtain ⟨k, hk⟩ := va_pl_get (X := []) (f := cellOf G h) ((h1 a).mp ha)
  exact ⟨(h2 k _ hk).lt, h3.2 k _ hk⟩
theorem Rel.kept {G : GT} {h : Hp} {H H1 : Heap} (hR : Rel G h H) (hq : ∀ q : Nat, q < H.size → H1[q]? = H[q]?) : Rel G h H1 := by
  obtain ⟨L, h1, h2, h3⟩ := hR
  exact ⟨L, h1, h2.kept (fun k q hk => hq q.1 (h2 k q hk).lt), h3⟩
theorem cell_obj {G : GT} {h : Hp} {a x : Nat} (hx : x < 7) (ha : kd h a = x + 1) : cellOf G h a = .inr (x, flL h x a) := by
  unfold cellOf
  rw [if_neg (by omega), if_neg (by omega), if_neg (by omega), if_neg (by omega), if_neg (by omega), ha, Nat.add_sub_cancel]
theorem flL_at {h : Hp} {x a k : Nat} (hk : k < nF x) : (flL h x a)[k]? = some (fvV h x a k) := by
  unfold flL
  rw [List.getElem?_map, List.getElem?_range hk]
  rfl
theorem flL_len {h : Hp} {x a : Nat} : (flL h x a).length = nF x := by simp [flL]
theorem flL_set {h h' : Hp} {x a k : Nat} {v : Value} (hs : fvV h' x a k = v) (ho : ∀ j, j ≠ k → fvV h' x a j = fvV h x a j) : (flL h x a).set k v = flL h' x a := by
  apply List.ext_getElem?
  intro j
  by_cases hj : j < nF x
  · rw [flL_at hj]
    by_cases hjk : k = j
    · subst hjk
      rw [List.getElem?_set_self (by rw [flL_len]; exact hj), hs]
    · rw [List.getElem?_set_ne hjk, flL_at hj, ho j (fun q => hjk q.symm)]
  · rw [List.getElem?_eq_none (by rw [List.length_set, flL_len]; omega), List.getElem?_eq_none (by rw [flL_len]; omega)]
/-- one cell changes -/
theorem Rel.set {G : GT} {h h' : Hp} {L : List Nat} {a k : Nat} {e : va_E} {H1 : Heap} (h1 : ∀ a, kd h a ≠ 0 ↔ a ∈ L) (hD : va_D (AA G) ([] ++ va_pl L (cellOf G h))) (ha : kd h a ≠ 0) (hk : ([] ++ va_pl L (cellOf G h))[k]? = some (a, cellOf G h a))
    (hP1 : va_P G.1 vwCl (([] ++ va_pl L (cellOf G h)).set k (a, e)) H1) (hD1 : va_D (AA G) (([] ++ va_pl L (cellOf G h)).set k (a, e))) (hkd : ∀ q, kd h' q = kd h q) (hs : cellOf G h' a = e) (ho : ∀ q, q ≠ a → cellOf G h' q = cellOf G h q) : Rel G h' H1 := by
  have e1 : ([] ++ va_pl L (cellOf G h)).set k (a, e) = [] ++ va_pl L (cellOf G h') := by
    rw [va_pl_set hD ((h1 a).mp ha) hk]
    congr 1
    apply va_pl_congr
    intro q
    by_cases hq : q = a
    · subst hq; rw [va_up_self, hs]
    · rw [va_up_ne _ _ hq, ho q hq]
  rw [e1] at hP1 hD1
  exact ⟨L, fun q => by rw [hkd]; exact h1 q, hP1, hD1⟩
/-- one cell is made -/
theorem Rel.push {G : GT} {h h' : Hp} {L : List Nat} {a : Nat} {e : va_E} {H1 : Heap} (h1 : ∀ a, kd h a ≠ 0 ↔ a ∈ L) (ha : kd h a = 0)
    (hP1 : va_P G.1 vwCl (([] ++ va_pl L (cellOf G h)) ++ [(a, e)]) H1) (hD1 : va_D (AA G) (([] ++ va_pl L (cellOf G h)) ++ [(a, e)])) (hka : kd h' a ≠ 0) (hkd : ∀ q, q ≠ a → kd h' q = kd h q) (hs : cellOf G h' a = e) (ho : ∀ q, q ≠ a → cellOf G h' q = cellOf G h q) : Rel G h' H1 := by
  have hn : a ∉ L := fun q => (h1 a).mpr q ha
  have e1 : ([] ++ va_pl L (cellOf G h)) ++ [(a, e)] = [] ++ va_pl (L ++ [a]) (cellOf G h') := by
    rw [List.nil_append, List.nil_append, va_pl_push hn]
    apply va_pl_congr
    intro q
    by_cases hq : q = a
    · subst hq; rw [va_up_self, hs]
    · rw [va_up_ne _ _ hq, ho q hq]
  rw [e1] at hP1 hD1
  refine ⟨L ++ [a], fun q => ?_, hP1, hD1⟩
  by_cases hq : q = a
  · subst hq; simp [hka]
  · rw [hkd q hq, h1 q]; simp [hq]
theorem cell_ne {G : GT} {h h' : Hp} {q : Nat} (h1 : kd h' q = kd h q) (h2 : ln h' q = ln h q) (h3 : ia h' q = ia h q) (h4 : ja h' q = ja h q) (h5 : ra h' q = ra h q) (h6 : ∀ c k, fi h' c k q = fi h c k q) (h7 : ∀ c k, fr h' c k q = fr h c k q) : cellOf G h' q = cellOf G h q := by
  have e : ∀ c, flL h' c q = flL h c q := fun c => by
    unfold flL
    apply List.map_congr_left
    intro k _
    unfold fvV
    rw [h6, h7]
  unfold cellOf
  rw [h1, h2, h3, h5, e]
/-- what a call or an exception needs of the globals, at a later state -/
theorem Glob.at {G : GT} {s U : State} {H : Heap} {locs : List Loc} (h : Glob G s s.heap) (hS : va_S (AA G) s.heap H locs) (hU : U.heap = H) (hW : s.WarmedH U.vm) : Glob G U U.heap := h.moved hW (fun a h1 h2 => by rw [hU]; exact hS.2.1 a h1 h2)
theorem PcG.blind {G : GT} {As : List Value} {h : Hp} : FrameBlind (PcG G As h) := by
  intro a U g mk ⟨h1, h2, h3, h4, h5⟩
  exact ⟨h1, h2, h3.moved (U := U.calling g mk a) (State.WarmedH.refl U) (fun _ _ _ => rfl), h4, h5⟩
