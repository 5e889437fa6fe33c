/-! ===== BEGIN a constructor that throws (launches without stack traces) ===== -/
section VXIA
variable {p : Program} {l : Launch} {e : Env} {R : Room} {s : State} {m : MethodId} {args : Array Value} {below : List Frame} {meth : Method} {c : Code} {T : State} {locs : List Loc} {cells slots : Nat}
theorem vx_callI (X : Stand p l e R s m args below meth c T locs cells slots) (hexec : p.tables.exec = Jvm.exec) {own : String} {index : Nat} {y : MethodName} {bytes : ByteArray} {maxL : Nat}
    (hown : s.vm.findClass own = some m.cls) (hy1 : y.name = "<init>") (hlink : (Cond.methodLink own index y).before args s = true) (hinst : (Cond.instanceMethod y).before args s = true)
    (hcode : (Cond.code y bytes maxL none).before args s = true) (hy : y.cls ≠ "java/lang/invoke/MethodHandle" ∧ y.cls ≠ "java/lang/invoke/VarHandle")
    {W9 : Nat} {Pre : Pt → Array Value → Prop} {Post : Pt → Array Value → Option Value → Pt → Prop} {PostX : Pt → Array Value → Addr → Pt → Prop} (hK : vx_Back l R p e below s args y 3 W9 Pre Post PostX)
    {g : JFrame} (hg : g.method = m) (hsize : g.locals.size = c.maxLocals) {a : Addr} {argsL rest : List Value} (hlen : ∀ sig, parseMethodDescriptor y.desc = some sig → argsL.length = sig.parameters.length)
    (hstack : g.stack = argsL.reverse ++ .ref a :: rest) (hW : 2 * g.monitorRoom + (rest.map fun v => v.category).sum ≤ W9) (hdg : decode c.code g.pc = .ok (.invokespecial index, 3))
    (hpre : ∀ vm₁, s.WarmedH vm₁ → Pre ⟨T.setVm vm₁, locs, cells, slots⟩ (Value.ref a :: argsL).toArray) :
    (∃ (v : Option Value) (vm₁ : Vm) (B : Pt), s.WarmedH vm₁ ∧ Stand p l e R s m args below meth c B.U B.locs B.cells B.slots ∧ Post ⟨T.setVm vm₁, locs, cells, slots⟩ (Value.ref a :: argsL).toArray v B ∧
      ∀ target, Steps p.tables e below (B.U.setTop { g with pc := g.pc + 3, stack := v.toList ++ rest }) target → Steps p.tables e below (T.setTop g) target) ∨
    (∃ (q : Addr) (vm₁ : Vm) (B : Pt), s.WarmedH vm₁ ∧ Stand p l e R s m args below meth c B.U B.locs B.cells B.slots ∧ PostX ⟨T.setVm vm₁, locs, cells, slots⟩ (Value.ref a :: argsL).toArray q B ∧
      Steps p.tables e below (T.setTop g) ((B.U.setTop { g with stack := rest }).pushFrame (.throwing q))) := by
  subst hg
  have hpl : e.platform.magicAccessors = ({} : Platform).magicAccessors := by rw [X.admits.platform]
  obtain ⟨mk, methM, cM, kP, vm₁, hnamed, hmethM, hcodeM, -, hlocalsM, -, hkP, -, hW₁, hstep₁⟩ := Steps.initColdArgs (e := e) X.here hexec X.warmed hpl hown hy1 hy hlink hinst hcode (f := g) rfl hlen hstack hdg
  have X₁ := X.noted hW₁
  rcases hK g.method meth c ⟨T.setVm vm₁, locs, cells, slots⟩ { g with stack := rest } (.invokespecial index) mk (Value.ref a :: argsL).toArray X₁ rfl hsize hdg hW (X₁.named hnamed) (hpre vm₁ X₁.warmed) with ⟨v, B, X', hpost, hsteps⟩ | ⟨q, B, X', hpost, hsteps⟩
  · exact Or.inl ⟨v, vm₁, B, X₁.warmed, X', hpost, fun target h => hstep₁ _ fun acts => by rw [doInvoke_state]; exact hsteps.trans h⟩
  · exact Or.inr ⟨q, vm₁, B, X₁.warmed, X', hpost, hstep₁ _ fun acts => by rw [doInvoke_state]; exact hsteps⟩
end VXIA
section VXIB
variable {p : Program} {l : Launch} {e : Env} {R : Room} {s : State} {m : MethodId} {args : Array Value} {below : List Frame} {meth : Method} {c : Code} {H : Heap} {locs : List Loc} {cells slots : Nat}
variable {y : MethodName} {bytes cc : ByteArray} {maxL nL mc ms n index : Nat} {ret : Option FieldType} {ws : List Cond} {rm : Room} {Pc : Array Value → State → Prop} {Qc : Array Value → State → Outcome → State → Prop} {XC : String → State → State → Prop} {free : Addr → Prop} {Ts : List Cond} {own C : String} {b : Addr} {As rest : List Value} {g : JFrame}
theorem vx_runI (S : CallFix p m c cc nL s args Ts own) (hM : vx_Met l y ws rm Pc Qc XC mc ms free) (cw : CallB R s args own index y bytes maxL none ws rm mc ms n ∧ y.name = "<init>" ∧ (Cond.instanceMethod y).before args s = true) (hp : PreS s H Pc (.ref b :: As))
    (hg : g.method = m) (hn : As.length = n) (hsize : g.locals.size = nL) (hstack : g.stack = As.reverse ++ .ref b :: rest) (hW : 2 * g.monitorRoom + (rest.map fun v => v.category).sum ≤ 8) (hdg : decode cc g.pc = .ok (.invokespecial index, 3)) (hf : cells + mc ≤ R.cells ∧ slots + ms ≤ R.slots) :
    vx_Run p l e R s m args below meth c H locs cells slots mc ms g rest (Qc (Value.ref b :: As).toArray) XC free := by
  have hK : vx_Back l R p e below s args y 3 8 (PreOf R mc ms Pc) (PostOf Qc mc ms free) (vx_Post XC mc ms free) := vx_callBack cw.1 hM hp.1
  obtain ⟨⟨-, -, -, -, -, -, hcode, -, hy, hlen, hl⟩, hy1, hin⟩ := cw
  obtain ⟨hx, hb, hml, ho, -⟩ := S
  have hPc := hp.2
  intro T hT X
  rcases vx_callI X hx (bytes := bytes) (maxL := maxL) ho hy1 hl hin hcode hy hK hg (hsize.trans hml.symm) (a := b) (argsL := As) (rest := rest) (fun sig h => hn.trans (hlen sig h)) hstack hW (by rw [hb]; exact hdg)
    (fun vm₁ hW₁ => ⟨hf.1, hf.2, hPc (T.setVm vm₁) hT hW₁⟩) with ⟨v, vm₁, ⟨U', l2, c2, s2⟩, hW₁, X', ⟨g', mk, t, L, e1, e2, hq, h1, hL, h2, h3⟩, st⟩ | ⟨q, vm₁, ⟨U', l2, c2, s2⟩, hW₁, X', ⟨g', mk, t, L, E, ce, e1, e2, hq, hce, hcv, hcl, h1, hL, h2, h3⟩, st⟩
  · dsimp only [Pt.U, Pt.locs, Pt.cells, Pt.slots] at X' e1 e2 h1 h2 h3 st
    subst h1; subst h2; subst h3
    exact Or.inl ⟨v, (T.setVm vm₁).calling g' mk (Value.ref b :: As).toArray, t, U', L, hT, X', hL, e1, e2, hq, st⟩
  · dsimp only [Pt.U, Pt.locs, Pt.cells, Pt.slots] at X' e1 e2 h1 h2 h3 st hcl
    subst h1; subst h2; subst h3
    exact Or.inr ⟨q, (T.setVm vm₁).calling g' mk (Value.ref b :: As).toArray, t, U', L, E, ce, hT, X', hL, e1, e2, hq, hce, hcv, vx_cls hW₁ hcl, st⟩
end VXIB
/-! ===== END ===== -/
/-! ===== BEGIN a private constructor of a nest mate that throws ===== -/
section VXIC
variable {p : Program} {l : Launch} {e : Env} {R : Room} {s : State} {m : MethodId} {args : Array Value} {below : List Frame} {meth : Method} {c : Code} {T : State} {locs : List Loc} {cells slots : Nat}
theorem vx_callIN (X : Stand p l e R s m args below meth c T locs cells slots) (hexec : p.tables.exec = Jvm.exec) {own : String} {index : Nat} {host : String} {y : MethodName} {bytes : ByteArray} {maxL : Nat}
    (hown : s.vm.findClass own = some m.cls) (hy1 : y.name = "<init>") (hlink : (Cond.methodLinkNest own index y host).before args s = true) (hinst : (Cond.instanceMethod y).before args s = true)
    (hcode : (Cond.code y bytes maxL none).before args s = true) (hy : y.cls ≠ "java/lang/invoke/MethodHandle" ∧ y.cls ≠ "java/lang/invoke/VarHandle")
    {W9 : Nat} {Pre : Pt → Array Value → Prop} {Post : Pt → Array Value → Option Value → Pt → Prop} {PostX : Pt → Array Value → Addr → Pt → Prop} (hK : vx_Back l R p e below s args y 3 W9 Pre Post PostX)
    {g : JFrame} (hg : g.method = m) (hsize : g.locals.size = c.maxLocals) {a : Addr} {argsL rest : List Value} (hlen : ∀ sig, parseMethodDescriptor y.desc = some sig → argsL.length = sig.parameters.length)
    (hstack : g.stack = argsL.reverse ++ .ref a :: rest) (hW : 2 * g.monitorRoom + (rest.map fun v => v.category).sum ≤ W9) (hdg : decode c.code g.pc = .ok (.invokespecial index, 3))
    (hpre : ∀ vm₁, s.WarmedH vm₁ → Pre ⟨T.setVm vm₁, locs, cells, slots⟩ (Value.ref a :: argsL).toArray) :
    (∃ (v : Option Value) (vm₁ : Vm) (B : Pt), s.WarmedH vm₁ ∧ Stand p l e R s m args below meth c B.U B.locs B.cells B.slots ∧ Post ⟨T.setVm vm₁, locs, cells, slots⟩ (Value.ref a :: argsL).toArray v B ∧
      ∀ target, Steps p.tables e below (B.U.setTop { g with pc := g.pc + 3, stack := v.toList ++ rest }) target → Steps p.tables e below (T.setTop g) target) ∨
    (∃ (q : Addr) (vm₁ : Vm) (B : Pt), s.WarmedH vm₁ ∧ Stand p l e R s m args below meth c B.U B.locs B.cells B.slots ∧ PostX ⟨T.setVm vm₁, locs, cells, slots⟩ (Value.ref a :: argsL).toArray q B ∧
      Steps p.tables e below (T.setTop g) ((B.U.setTop { g with stack := rest }).pushFrame (.throwing q))) := by
  subst hg
  have hpl : e.platform.magicAccessors = ({} : Platform).magicAccessors := by rw [X.admits.platform]
  obtain ⟨mk, methM, cM, kP, vm₁, hnamed, hmethM, hcodeM, -, hlocalsM, -, hkP, -, hW₁, hstep₁⟩ := Steps.initColdArgsNest (e := e) X.here hexec X.warmed hpl hown hy1 hy hlink hinst hcode (f := g) rfl hlen hstack hdg
  have X₁ := X.noted hW₁
  rcases hK g.method meth c ⟨T.setVm vm₁, locs, cells, slots⟩ { g with stack := rest } (.invokespecial index) mk (Value.ref a :: argsL).toArray X₁ rfl hsize hdg hW (X₁.named hnamed) (hpre vm₁ X₁.warmed) with ⟨v, B, X', hpost, hsteps⟩ | ⟨q, B, X', hpost, hsteps⟩
  · exact Or.inl ⟨v, vm₁, B, X₁.warmed, X', hpost, fun target h => hstep₁ _ fun acts => by rw [doInvoke_state]; exact hsteps.trans h⟩
  · exact Or.inr ⟨q, vm₁, B, X₁.warmed, X', hpost, hstep₁ _ fun acts => by rw [doInvoke_state]; exact hsteps⟩
end VXIC
section VXID
variable {p : Program} {l : Launch} {e : Env} {R : Room} {s : State} {m : MethodId} {args : Array Value} {below : List Frame} {meth : Method} {c : Code} {H : Heap} {locs : List Loc} {cells slots : Nat}
theorem vx_runIN {y : MethodName} {bytes cc : ByteArray} {maxL nL mc ms n index : Nat} {ws : List Cond} {rm : Room} {Pc : Array Value → State → Prop} {Qc : Array Value → State → Outcome → State → Prop} {XC : String → State → State → Prop} {free : Addr → Prop} {Ts : List Cond} {own host : String} {b : Addr} {As rest : List Value} {g : JFrame}
    (S : CallFix p m c cc nL s args Ts own) (hM : vx_Met l y ws rm Pc Qc XC mc ms free) (cw : va_CN R s args own index y host bytes maxL none ws rm mc ms n ∧ y.name = "<init>" ∧ (Cond.instanceMethod y).before args s = true) (hp : PreS s H Pc (.ref b :: As))
    (hg : g.method = m) (hn : As.length = n) (hsize : g.locals.size = nL) (hstack : g.stack = As.reverse ++ .ref b :: rest) (hW : 2 * g.monitorRoom + (rest.map fun v => v.category).sum ≤ 8) (hdg : decode cc g.pc = .ok (.invokespecial index, 3)) (hf : cells + mc ≤ R.cells ∧ slots + ms ≤ R.slots) :
    vx_Run p l e R s m args below meth c H locs cells slots mc ms g rest (Qc (Value.ref b :: As).toArray) XC free := by
  obtain ⟨⟨⟨hrc, hrs, hfr, hlo, hws, hcw⟩, hcode, hini, hy, hlen, hl⟩, hx1, hx2⟩ := cw
  have hK : vx_Back l R p e below s args y 3 8 (PreOf R mc ms Pc) (PostOf Qc mc ms free) (vx_Post XC mc ms free) := vx_back (bytes := bytes) (maxL := maxL) (ret := none) hM hp.1 hrc hrs hfr hlo hws hcw (fun a' U hW => word_at hW (Or.inl (by first | rfl | simp [Cond.onTables, Cond.keeps, Cond.steady])) hini)
  obtain ⟨hx, hb, hml, ho, -⟩ := S
  have hPc := hp.2
  intro T hT X
  rcases vx_callIN X hx (bytes := bytes) (maxL := maxL) ho hx1 hl hx2 hcode hy hK hg (hsize.trans hml.symm) (a := b) (argsL := As) (rest := rest) (fun sig h => hn.trans (hlen sig h)) hstack hW (by rw [hb]; exact hdg)
    (fun vm₁ hW₁ => ⟨hf.1, hf.2, hPc (T.setVm vm₁) hT hW₁⟩) with ⟨v, vm₁, ⟨U', l2, c2, s2⟩, hW₁, X', ⟨g', mk, t, L, e1, e2, hq, h1, hL, h2, h3⟩, st⟩ | ⟨q, vm₁, ⟨U', l2, c2, s2⟩, hW₁, X', ⟨g', mk, t, L, E, ce, e1, e2, hq, hce, hcv, hcl, h1, hL, h2, h3⟩, st⟩
  · dsimp only [Pt.U, Pt.locs, Pt.cells, Pt.slots] at X' e1 e2 h1 h2 h3 st
    subst h1; subst h2; subst h3
    exact Or.inl ⟨v, (T.setVm vm₁).calling g' mk (Value.ref b :: As).toArray, t, U', L, hT, X', hL, e1, e2, hq, st⟩
  · dsimp only [Pt.U, Pt.locs, Pt.cells, Pt.slots] at X' e1 e2 h1 h2 h3 st hcl
    subst h1; subst h2; subst h3
    exact Or.inr ⟨q, (T.setVm vm₁).calling g' mk (Value.ref b :: As).toArray, t, U', L, E, ce, hT, X', hL, e1, e2, hq, hce, hcv, vx_cls hW₁ hcl, st⟩
end VXID
/-! ===== END ===== -/
section STPC
variable {G : GT} {M : MI} {ini : Bool} {d : Nat} {P : Option Value → Hp → Prop} {PX : String → Hp → Prop}
variable {p : Program} {l : Launch} {e : Env} {R : Room} {s : State} {m : MethodId} {args : Array Value} {below : List Frame} {meth : Method} {c : Code} {Q : State → Prop} {H : Heap} {locs : List Loc} {cells slots : Nat} {la : Array Slot}
variable {pc : Nat} {ls : Ls} {st rest : List Value} {h : Hp} {b : Nat × Nat}
theorem gw_in {ws : List Cond} (hw : ∀ w ∈ ws, w ∈ gw) : GoodIn gw ws := fun w h => ⟨hw w h, good_of_word (gw_good (hw w h))⟩
theorem gw_wsV {own : String} {j : Nat} {C : String} {y : MethodName} {w0 : Cond} (hC : C = y.cls) (h : ∀ w ∈ [Cond.methodLink own j y, .instanceMethod y, .selects y.cls y y, .initialized y.cls, w0], w ∈ gw) : GoodIn gw (wsV own j C y (w0 :: gw)) := by
  subst hC
  refine gw_in fun w hw => ?_
  unfold wsV at hw
  rcases List.mem_append.mp hw with hw | hw
  · exact h w (by simp only [List.mem_cons, List.not_mem_nil, or_false] at hw ⊢; rcases hw with e | e | e | e <;> simp [e])
  · rcases List.mem_cons.mp hw with e | e
    · exact h w (by simp [e])
    · exact e
theorem gw_wsS {own : String} {j : Nat} {y : MethodName} {w0 : Cond} (h : ∀ w ∈ [Cond.methodLink own j y, .static y, .initialized y.cls, w0], w ∈ gw) : GoodIn gw (va_wsS own j y (w0 :: gw)) := by
  refine gw_in fun w hw => ?_
  unfold va_wsS at hw
  rcases List.mem_append.mp hw with hw | hw
  · exact h w (by simp only [List.mem_cons, List.not_mem_nil, or_false] at hw ⊢; rcases hw with e | e | e <;> simp [e])
  · rcases List.mem_cons.mp hw with e | e
    · exact h w (by simp [e])
    · exact e
theorem pre_at {As : List Value} (hM : Mach G M ini d P PX p l e R s m args below meth c Q) (hR : Rel G h H) (hS : va_S (AA G) s.heap H locs) : ∀ U : State, U.heap = H → s.WarmedH U.vm → PcG G As h As.toArray U := fun U hU hW => ⟨rfl, by rw [hU]; exact hR, hM.2.2.2.2.2.1.at hS hU hW, by rw [hU]; exact Nat.le_trans hM.2.2.2.2.2.2.2.2.2.2.1 hS.1, hM.2.2.2.2.2.2.2.2.2.2.2.1⟩
theorem rm_fit {d d' mL mc ms R1 R2 : Nat} (hd : d' + 1 ≤ d) (hL : mL ≤ 20) (h1 : d ≤ R1) (h2 : 39 * d ≤ R2) : (rmD d' mc ms).frames + 1 ≤ R1 ∧ 8 + (mL + 11) + (rmD d' mc ms).locals ≤ R2 := by
  unfold rmD
  refine ⟨by show d' + 1 ≤ R1; omega, by show 8 + (mL + 11) + 39 * d' ≤ R2; omega⟩
/-- behind a call -/
theorem st_back {ce : CE} {a : Array Value} {st0 : List Value} {K : Nat → Ls → List Value → Hp → Nat × Nat → Prop} (hM : Mach G M ini d P PX p l e R s m args below meth c Q) (hH : hhOK (mow M) (mhh M)) (hS : va_S (AA G) s.heap H locs) (hl : LsR M.2.2.1 ls la)
    (hc : cells + b.1 ≤ R.cells) (hs : slots + b.2 ≤ R.slots) (hmc : ce.2.2.2.2.2.1 ≤ b.1) (hms : ce.2.2.2.2.2.2.1 ≤ b.2) (hK : ∀ pc ls st h b, K pc ls st h b → Wp G M ini d P PX pc ls st h b)
    (hr : vx_Run p l e R s m args below meth c H locs cells slots ce.2.2.2.2.2.1 ce.2.2.2.2.2.2.1 (F0 m pc la st0) rest (QcG G (cQ K pc ls rest (b.1 - ce.2.2.2.2.2.1, b.2 - ce.2.2.2.2.2.2.1)) a) (XcG G (cX M PX K pc ls (b.1 - ce.2.2.2.2.2.1, b.2 - ce.2.2.2.2.2.2.1))) (AA G)) : W p l e R s m args below meth c H locs cells slots Q (F0 m pc la st0) := by
  refine g_call hr hS (fun v u H1 locs1 hq hRu hS1 => ?_) (fun E ce1 q u H1 locs1 hq hRu hS1 hce hcv hcl => ?_)
  · exact hK _ _ _ _ _ hq hM hRu hS1 (by dsimp only; omega) (by dsimp only; omega) hl
  · unfold cX at hq
    cases hh : mhh M with
    | nil =>
      rw [hh] at hq
      exact hM.2.2.2.2.2.2.2.2.2.2.2.2.2.2.2 E ce1 q u H1 locs1 _ _ pc la rest hh hq hRu hS1 (by omega) (by omega) hce hcv hcl
    | cons r0 rs =>
      rw [hh] at hq
      dsimp only at hq
      split at hq
      · rename_i t ht
        exact st_catch hM hH (by rw [hh]; exact ht) hce hcv hcl (hK _ _ _ _ _ (hq q) hM hRu hS1 (by dsimp only; omega) (by dsimp only; omega) hl)
      · exact hq.elim
theorem cwd_nil {y : MethodName} {M : MI} (h : M.2.2.2.2 = []) : cwd y M = .code y M.2.1 M.2.2.1 M.2.2.2.1 := by
  unfold cwd; rw [h]
theorem cwd_cons {y : MethodName} {M : MI} (h : M.2.2.2.2 ≠ []) : cwd y M = .codeWith y M.2.1 M.2.2.1 M.2.2.2.1 M.2.2.2.2 := by
  unfold cwd
  cases hh : M.2.2.2.2 with
  | nil => exact absurd hh h
  | cons r t => rfl
theorem st_callV {ce : CE} {j a : Nat} {As : List Value} {K : Nat → Ls → List Value → Hp → Nat × Nat → Prop} (hM : Mach G M ini d P PX p l e R s m args below meth c Q) (hH : hhOK (mow M) (mhh M)) (hR : Rel G h H) (hS : va_S (AA G) s.heap H locs) (hl : LsR M.2.2.1 ls la)
    (hc : cells + b.1 ≤ R.cells) (hs : slots + b.2 ≤ R.slots) (hK : ∀ pc ls st h b, K pc ls st h b → Wp G M ini d P PX pc ls st h b) (hdec : decode M.2.1 pc = .ok (.invokevirtual j, 3)) (hce : ceOK G (mow M) (j, ce)) (h0 : ce.1 = 0) (hn : As.length = ce.2.2.2.1) (hk : kd h a ≠ 0) (hk2 : kd h a < 21) (hcl : nmOf (kd h a - 1) = ce.2.1.cls) (h7 : kd h a - 1 < 7)
    (hst : callK M d PX pc ls h b K ce (.ref a :: As) rest) : W p l e R s m args below meth c H locs cells slots Q (F0 m pc la (As.reverse ++ .ref a :: rest)) := by
  obtain ⟨c1, c2, c3, c4, c5⟩ := hst
  obtain ⟨w1, w2, w3, w4, w5⟩ := hce
  obtain ⟨w6, w7, w8⟩ := w2 (by show ce.1 < 4; omega)
  have w5 : ce.2.2.1.2.2.2.2 = [] := w5 h0
  refine st_back (rest := rest) (ce := ce) hM hH hS hl hc hs c2 c3 hK (a := (Value.ref a :: As).toArray) ?_
  have hmet := w8 l hM.2.2.2.2.2.2.2.2.2.2.2.2.1 _ _ _ _ c5
  unfold ceW at w1
  rw [show ((j, ce) : Nat × CE).2.1 = 0 from h0] at w1
  rw [cwd_nil w5] at w1 hmet
  exact vx_runV (C := ce.2.1.cls) ⟨hM.1, hM.2.1, hM.2.2.1, hM.2.2.2.1, hM.2.2.2.2.1⟩ hmet (cwV (ws' := gw) ce.2.2.2.1 hM.2.2.2.2.1 (gw_wsV rfl w1) rfl rfl rfl ⟨rfl, w6⟩ (rm_fit c1 w7 hM.2.2.2.2.2.2.1 hM.2.2.2.2.2.2.2.1)) ⟨PcG.blind, by rw [← hcl]; exact Rel.recv hM hR hk h7, pre_at hM hR hS⟩ rfl hn hl.2.1 rfl (lv_room (by rw [catS_e]; exact c4)) hdec ⟨by omega, by omega⟩
theorem st_callS {ce : CE} {j : Nat} {As : List Value} {K : Nat → Ls → List Value → Hp → Nat × Nat → Prop} (hM : Mach G M ini d P PX p l e R s m args below meth c Q) (hH : hhOK (mow M) (mhh M)) (hR : Rel G h H) (hS : va_S (AA G) s.heap H locs) (hl : LsR M.2.2.1 ls la)
    (hc : cells + b.1 ≤ R.cells) (hs : slots + b.2 ≤ R.slots) (hK : ∀ pc ls st h b, K pc ls st h b → Wp G M ini d P PX pc ls st h b) (hdec : decode M.2.1 pc = .ok (.invokestatic j, 3)) (hce : ceOK G (mow M) (j, ce)) (h0 : ce.1 = 1) (hn : As.length = ce.2.2.2.1)
    (hst : callK M d PX pc ls h b K ce As rest) : W p l e R s m args below meth c H locs cells slots Q (F0 m pc la (As.reverse ++ rest)) := by
  obtain ⟨c1, c2, c3, c4, c5⟩ := hst
  obtain ⟨w1, w2, w3, w4, w5⟩ := hce
  obtain ⟨w6, w7, w8⟩ := w2 (by show ce.1 < 4; omega)
  refine st_back (rest := rest) (ce := ce) hM hH hS hl hc hs c2 c3 hK (a := As.toArray) ?_
  have hmet := w8 l hM.2.2.2.2.2.2.2.2.2.2.2.2.1 _ _ _ _ c5
  unfold ceW at w1
  rw [show ((j, ce) : Nat × CE).2.1 = 1 from h0] at w1
  by_cases hh : ce.2.2.1.2.2.2.2 = []
  · rw [cwd_nil hh] at w1 hmet
    exact vx_runS ⟨hM.1, hM.2.1, hM.2.2.1, hM.2.2.2.1, hM.2.2.2.2.1⟩ hmet (va_cwS (ws' := gw) ce.2.2.2.1 hM.2.2.2.2.1 (gw_wsS w1) rfl rfl rfl w6 (rm_fit c1 w7 hM.2.2.2.2.2.2.1 hM.2.2.2.2.2.2.2.1)) ⟨PcG.blind, pre_at hM hR hS⟩ rfl hn hl.2.1 rfl (lv_room (by rw [catS_e]; exact c4)) hdec ⟨by omega, by omega⟩
  · rw [cwd_cons hh] at w1 hmet
    exact vx_runSX ⟨hM.1, hM.2.1, hM.2.2.1, hM.2.2.2.1, hM.2.2.2.2.1⟩ hmet (vx_cwSW (ws' := gw) ce.2.2.2.1 hM.2.2.2.2.1 (gw_wsS w1) rfl rfl rfl w6 (rm_fit c1 w7 hM.2.2.2.2.2.2.1 hM.2.2.2.2.2.2.2.1)) ⟨PcG.blind, pre_at hM hR hS⟩ rfl hn hl.2.1 rfl (lv_room (by rw [catS_e]; exact c4)) hdec ⟨by omega, by omega⟩
theorem st_callI {ce : CE} {j a : Nat} {As : List Value} {K : Nat → Ls → List Value → Hp → Nat × Nat → Prop} (hM : Mach G M ini d P PX p l e R s m args below meth c Q) (hH : hhOK (mow M) (mhh M)) (hR : Rel G h H) (hS : va_S (AA G) s.heap H locs) (hl : LsR M.2.2.1 ls la)
    (hc : cells + b.1 ≤ R.cells) (hs : slots + b.2 ≤ R.slots) (hK : ∀ pc ls st h b, K pc ls st h b → Wp G M ini d P PX pc ls st h b) (hdec : decode M.2.1 pc = .ok (.invokespecial j, 3)) (hce : ceOK G (mow M) (j, ce)) (h0 : ce.1 = 2 ∨ ce.1 = 3) (hn : As.length = ce.2.2.2.1)
    (hst : callK M d PX pc ls h b K ce (.ref a :: As) rest) : W p l e R s m args below meth c H locs cells slots Q (F0 m pc la (As.reverse ++ .ref a :: rest)) := by
  obtain ⟨c1, c2, c3, c4, c5⟩ := hst
  obtain ⟨w1, w2, w3, w4, w5⟩ := hce
  obtain ⟨w6, w7, w8⟩ := w2 (by show ce.1 < 4; omega)
  refine st_back (rest := rest) (ce := ce) hM hH hS hl hc hs c2 c3 hK (a := (Value.ref a :: As).toArray) ?_
  have hmet := w8 l hM.2.2.2.2.2.2.2.2.2.2.2.2.1 _ _ _ _ c5
  unfold ceW at w1
  rcases h0 with h0 | h0
  · obtain ⟨n1, n2⟩ := w3 h0
    have hret : ce.2.2.1.2.2.2.1 = none := congrArg Prod.fst n2
    have hhh : ce.2.2.1.2.2.2.2 = [] := congrArg Prod.snd n2
    rw [show ((j, ce) : Nat × CE).2.1 = 2 from h0] at w1
    rw [cwd_nil hhh, hret] at w1 hmet
    have hg : GoodIn gw (Cond.code ce.2.1 ce.2.2.1.2.1 ce.2.2.1.2.2.1 none :: gw) := gw_in fun w hw => by
      rcases List.mem_cons.mp hw with q | q
      · rw [q]; exact w1 _ (by simp)
      · exact q
    exact vx_runI ⟨hM.1, hM.2.1, hM.2.2.1, hM.2.2.2.1, hM.2.2.2.2.1⟩ hmet (cwI (ws' := gw) ce.2.2.2.1 hM.2.2.2.2.1 hg rfl rfl rfl (hM.2.2.2.2.1 _ (w1 _ (by simp))) (own := mow M) (hM.2.2.2.2.1 _ (w1 _ (by simp))) (hM.2.2.2.2.1 _ (w1 _ (by simp))) n1 w6 (rm_fit c1 w7 hM.2.2.2.2.2.2.1 hM.2.2.2.2.2.2.2.1)) ⟨PcG.blind, pre_at hM hR hS⟩ rfl hn hl.2.1 rfl (lv_room (by rw [catS_e]; exact c4)) hdec ⟨by omega, by omega⟩
  · obtain ⟨n0, nj, n1, n2⟩ := w4 h0
    have hret : ce.2.2.1.2.2.2.1 = none := congrArg Prod.fst n2
    have hhh : ce.2.2.1.2.2.2.2 = [] := congrArg Prod.snd n2
    rw [show ((j, ce) : Nat × CE).2.1 = 3 from h0] at w1
    rw [cwd_nil hhh, hret] at w1 hmet
    have hg : GoodIn gw (Cond.code ce.2.1 ce.2.2.1.2.1 ce.2.2.1.2.2.1 none :: gw) := gw_in fun w hw => by
      rcases List.mem_cons.mp hw with q | q
      · rw [q]; exact w1 _ (by simp)
      · exact q
    have hnest : va_Nw (.methodLinkNest (mow M) j ce.2.1 "ShadowLeases") s := by
      rw [n0, show j = 11 from nj, show ce.2.1 = yX3_init from n1]
      exact hM.2.2.2.2.2.1.2.2.2.2.1 _ (by decide +kernel)
    exact vx_runIN (host := "ShadowLeases") ⟨hM.1, hM.2.1, hM.2.2.1, hM.2.2.2.1, hM.2.2.2.2.1⟩ hmet ⟨va_cnB (ws' := gw) ce.2.2.2.1 hM.2.2.2.2.1 hg rfl rfl rfl hnest (hM.2.2.2.2.1 _ (w1 _ (by simp))) w6 (rm_fit c1 w7 hM.2.2.2.2.2.2.1 hM.2.2.2.2.2.2.2.1), by rw [show ce.2.1 = yX3_init from n1]; rfl, hM.2.2.2.2.1 _ (w1 _ (by simp))⟩ ⟨PcG.blind, pre_at hM hR hS⟩ rfl hn hl.2.1 rfl (lv_room (by rw [catS_e]; exact c4)) hdec ⟨by omega, by omega⟩
end STPC
