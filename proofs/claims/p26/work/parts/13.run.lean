/-! ===== many steps; a method's contract out of its walk ===== -/
def EnvOK (G : GT) (M : MI) (cs : List (Nat × CE)) : Prop := hhOK (mow M) (mhh M) ∧ ∀ q ∈ cs, ceOK G (mow M) q
section RUN
variable {G : GT} {M : MI} {ini : Bool} {d : Nat} {P : Option Value → Hp → Prop} {PX : String → Hp → Prop} {cs : List (Nat × CE)}
theorem step_sound (hE : EnvOK G M cs) {pc : Nat} {ls : Ls} {st : List Value} {h : Hp} {b : Nat × Nat} {K : Nat → Ls → List Value → Hp → Nat × Nat → Prop}
    (hK : ∀ pc ls st h b, K pc ls st h b → Wp G M ini d P PX pc ls st h b) (hst : step G M ini d cs P PX pc ls st h b K) : Wp G M ini d P PX pc ls st h b := by
  unfold step stC at hst
  split at hst
  · rename_i q hrs
    obtain ⟨i, len, x, y, v, tg⟩ := q
    obtain ⟨hl, hst⟩ := hst
    unfold rs at hrs
    split at hrs
    · rename_i i' len' hd
      have e1 : i' = i := congrArg (fun q => q.1) (Option.some.inj hrs)
      have e2 : len' = len := congrArg (fun q => q.2.1) (Option.some.inj hrs)
      have e3 : rsOf M.1 pc i' = (x, y, v, tg) := congrArg (fun q => q.2.2) (Option.some.inj hrs)
      subst e1; subst e2
      exact stepI_sound hE.1 hE.2 hd hl e3 hK hst
    · cases hrs
  · exact hst.elim
theorem wpN_sound (hE : EnvOK G M cs) {stop : List Nat} {Z : Nat → Ls → List Value → Hp → Nat × Nat → Prop} (hZ : ∀ pc ls st h b, Z pc ls st h b → Wp G M ini d P PX pc ls st h b) :
    ∀ (n pc : Nat) (ls : Ls) (st : List Value) (h : Hp) (b : Nat × Nat), wpN G M ini d cs P PX stop Z n pc ls st h b → Wp G M ini d P PX pc ls st h b := by
  intro n
  induction n with
  | zero => intro pc ls st h b hw; exact hw.elim
  | succ n ih =>
    intro pc ls st h b hw
    refine step_sound hE (fun pc' ls' st' h' b' hk => ?_) hw
    unfold kN at hk
    split at hk
    · exact hZ _ _ _ _ _ hk
    · exact ih _ _ _ _ _ hk
/-- the usual form: the stops are walks of their own -/
theorem wpW (hE : EnvOK G M cs) {stop : List Nat} {n pc : Nat} {ls : Ls} {st : List Value} {h : Hp} {b : Nat × Nat} (hw : wpN G M ini d cs P PX stop (Wp G M ini d P PX) n pc ls st h b) : Wp G M ini d P PX pc ls st h b := wpN_sound hE (fun _ _ _ _ _ h => h) n pc ls st h b hw
theorem Wp.less {pc : Nat} {ls ls' : Ls} {st : List Value} {h : Hp} {b b' : Nat × Nat} (hl : ls.length = ls'.length) (hls : ∀ i v, getL ls' i = some v → getL ls i = some v) (h1 : b'.1 ≤ b.1) (h2 : b'.2 ≤ b.2) (hw : Wp G M ini d P PX pc ls' st h b') : Wp G M ini d P PX pc ls st h b := by
  intro p l e R s m args below meth c Q H locs cells slots la hM hR hS hc hs hL
  exact hw hM hR hS (by omega) (by omega) ⟨by rw [← hl]; exact hL.1, hL.2.1, hL.2.2.1, fun i v hv => hL.2.2.2 i v (hls i v hv)⟩
end RUN
/-! the entry -/
def entL : List Value → Ls
  | [] => []
  | v :: r => if catN v = 2 then some v :: none :: entL r else some v :: entL r
def ent (n : Nat) (As : List Value) : Ls := entL As ++ List.replicate (n - (entL As).length) none
theorem catN_c (v : Value) : v.category = catN v := by cases v <;> rfl
theorem entL_sl (As : List Value) : (entL As).length = (lg_sl As).length := by
  induction As with
  | nil => rfl
  | cons v r ih =>
    unfold entL lg_sl
    rw [List.flatMap_cons, List.length_append, catN_c]
    split
    · simp only [List.length_cons, ih]; unfold lg_sl; simp; omega
    · simp only [List.length_cons, ih]; unfold lg_sl; simp; omega
theorem getL_app : ∀ (a : Ls) (n i : Nat) (v : Value), getL (a ++ List.replicate n none) i = some v → getL a i = some v
  | [], n, i, v, h => by
    exfalso
    induction n generalizing i with
    | zero => cases i <;> cases h
    | succ n ih => cases i with
      | zero => cases h
      | succ i => exact ih i h
  | o :: t, n, 0, v, h => h
  | o :: t, n, i + 1, v, h => getL_app t n i v h
theorem entL_args : ∀ (As : List Value) (k i : Nat) (v : Value), getL (entL As) i = some v → (k + i, v) ∈ lv_args k As
  | [], k, i, v, h => by cases i <;> cases h
  | w :: r, k, i, v, h => by
    unfold entL at h
    unfold lv_args
    rw [catN_c]
    split at h
    · rename_i hc
      rw [if_pos hc]
      match i, h with
      | 0, h => cases h; exact List.mem_cons_self
      | 1, h => cases h
      | i + 2, h =>
        have := entL_args r (k + 2) i v h
        exact List.mem_cons_of_mem _ (by rw [show k + (i + 2) = k + 2 + i by omega]; exact this)
    · rename_i hc
      rw [if_neg hc]
      match i, h with
      | 0, h => cases h; exact List.mem_cons_self
      | i + 1, h =>
        have := entL_args r (k + 1) i v h
        exact List.mem_cons_of_mem _ (by rw [show k + (i + 1) = k + 1 + i by omega]; exact this)
theorem ent_LsR {n : Nat} {As : List Value} (hn : (entL As).length ≤ n) : LsR n (ent n As) ((lg_sl As ++ List.replicate (n - (lg_sl As).length) Slot.unset).toArray) := by
  have hl := lv_entry As (n := n) (by rw [← entL_sl]; exact hn)
  refine ⟨by unfold ent; simp; omega, hl.1, hl.2.1, fun i v hv => ?_⟩
  have h1 := entL_args As 0 i v (getL_app _ _ _ _ hv)
  rw [Nat.zero_add] at h1
  exact hl.2.2 (i, v) h1
theorem ex_good : ∀ x, 50 ≤ x → x ≤ 52 → (∀ w ∈ Cond.classLink RX4 (exI x).1 (nmOf x) :: Cond.initialized (nmOf x) :: vx_atS RX4 (exI x).2 (nmOf x) ["java/lang/RuntimeException", "java/lang/Exception"], vx_ot w = true) ∧ (Cond.classLink RX4 (exI x).1 (nmOf x) ∈ gw) ∧ (Cond.initialized (nmOf x) ∈ gw) ∧ (∀ w ∈ (vx_atS RX4 (exI x).2 (nmOf x) ["java/lang/RuntimeException", "java/lang/Exception"]).filter goodWord, w ∈ gw) ∧ (∀ w ∈ (vx_atS RX4 (exI x).2 (nmOf x) ["java/lang/RuntimeException", "java/lang/Exception"]).filter (fun w => !goodWord w), w ∈ bw) ∧ Bundle.fit (nmOf x) = true := by
  intro x h1 h2
  rcases (show x = 50 ∨ x = 51 ∨ x = 52 by omega) with rfl | rfl | rfl <;> exact ⟨by decide +kernel, by decide +kernel, by decide +kernel, by decide +kernel, by decide +kernel, by decide +kernel⟩
set_option maxHeartbeats 1000000 in
/-- what a method's body owes the machine, out of its start -/
theorem mach_of {G : GT} {M : MI} {ini : Bool} {d mc ms : Nat} {Q : Option Value → Hp → Prop} {QX : String → Hp → Prop} {p : Program} {l : Launch} {e : Env} {s s₁ : State} {m : MethodId} {args : Array Value} {below : List Frame} {meth : Method} {c : Code} {y : MethodName} {ws : List Cond} (hl : l.stackTraces = false)
    (B : BodyLoose p l y (headSpec ws (rmD d mc ms)) M.2.1 M.2.2.1 M.2.2.2.1 e s m args below meth c s₁) (hml : c.maxLocals = M.2.2.1) (hts : ∀ w ∈ gw, w.before args s = true) (hg : Glob G s s.heap) (htab : c.exceptionTable.toList = tableOf M.2.2.2.2) (hown : M.1 = y.cls) (hini : ini = true → y.name = "<init>") (hsz : G.2.2.1.1 ≤ s.heap.size) (hze : G.2.2.1.2.1 < G.2.2.1.1) :
    Mach G M ini d Q QX p l e (headSpec ws (rmD d mc ms)).room s m args below meth c (vx_MQ below (QcG G Q) (XcG G QX) args s mc ms (AA G)) := by
  have hx := B.exec
  have hb : c.code = M.2.1 := B.bytes
  have hr : meth.sig.returnType = M.2.2.2.1 := B.returns
  have hlocks := B.notSynchronized
  have hnm : s.vm.findClass M.1 = some m.cls := by rw [hown]; exact findClass_of_methodNamed B.named
  have hrc : (headSpec ws (rmD d mc ms)).room.cells = mc := rfl
  have hrs : (headSpec ws (rmD d mc ms)).room.slots = ms := rfl
  refine ⟨hx, hb, hml, hnm, hts, hg, Nat.le_refl d, Nat.le_refl (39 * d), htab, fun q => ?_, hsz, hze, hl, ?_, ?_, ?_⟩
  · rw [(name_of_methodNamed B.named B.method).1]; exact hini q
  · intro v h H locs cells slots pc la hI hP hR hS hc hs
    rw [hrc] at hc
    rw [hrs] at hs
    refine W.widen hc hs (vx_ret ?_)
    have hq : ∀ t : State, t.heap = H → s.WarmedH t.vm → QcG G Q args s (.returned v) t := fun t ht hW => ⟨⟨v, h, rfl, hP, by rw [ht]; exact hR⟩, hS.F ht⟩
    match v, hI with
    | none, hI => exact W.vret hx hb (hr.trans hI.2) hq hS.2.2 hI.1 hlocks
    | some (.int w), hI =>
      obtain ⟨h1, ty, h2, h3⟩ := hI
      exact W.zret hx hb (hr.trans h2) h3 hq hS.2.2 h1 hlocks
    | some (.long w), hI => exact W.lret hx hb (hr.trans hI.2) hq hS.2.2 hI.1 hlocks
    | some (.double w), hI => exact W.dret hx hb (hr.trans hI.2) hq hS.2.2 hI.1 hlocks
    | some (.ref w), hI =>
      obtain ⟨h1, rt, h2, h3⟩ := hI
      exact W.aret hx hb (hr.trans h2) h3 (Or.inr ⟨w, rfl⟩) hq hS.2.2 h1 hlocks
  · intro x h H locs cells slots pc la rest h50 h52 hM1 hhh hthr hd7 hcat hsize hPX hR hS hc hs
    rw [hrc] at hc
    rw [hrs] at hs
    obtain ⟨t1, t2, tt, ⟨q, hq1, hq2⟩⟩ := hthr
    obtain ⟨g1, g2, g3, g4, g5, g6⟩ := ex_good x h50 h52
    have hown4 : s.vm.findClass RX4 = some m.cls := by rw [← hM1]; exact hnm
    have hstr := hg.2.2.2.1 q hq1
    rw [hq2] at hstr
    rcases tt with ⟨t3, t4, t5⟩ | ⟨t3, t4, t5⟩
    · refine vx_throwS (names := ["java/lang/RuntimeException", "java/lang/Exception"]) hx hb hl hown4 g6 (by decide) (hts _ g2) (hts _ g3) hstr (vx_hat (fun w hw => hts _ (g4 w hw)) g5 (fun w hw => va_Nw.use (bw_on (List.mem_filter.mp hw).2) (hg.2.2.2.2.1 w hw))) g1 hg.2.1 hg.2.2.1 hS (hsize.trans hml.symm) t1 t2 t3 t4 t5 ?_ ?_ ?_ (by rw [hrc]; exact hc) (by rw [hrs]; exact hs) hlocks ?_ hS.2.2 hc hs
      · intro z hz
        rw [htab, show M.2.2.2.2 = [] from hhh] at hz
        cases hz
      · show 2 + 3 < d
        omega
      · rw [catS_e]
        show catS rest + (13 * 3 + 43) ≤ 39 * d
        omega
      · intro t _ h1 h2
        exact ⟨h, trivial, ⟨hPX, hR.kept h2⟩, ⟨Nat.le_trans hS.1 h1, fun z hz1 hz2 => by rw [h2 z (Nat.lt_of_lt_of_le hz1 hS.1)]; exact hS.2.1 z hz1 hz2⟩⟩
    · refine vx_throwSW (names := ["java/lang/RuntimeException", "java/lang/Exception"]) hx hb hl hown4 g6 (by decide) (hts _ g2) (hts _ g3) hstr (vx_hat (fun w hw => hts _ (g4 w hw)) g5 (fun w hw => va_Nw.use (bw_on (List.mem_filter.mp hw).2) (hg.2.2.2.2.1 w hw))) g1 hg.2.1 hg.2.2.1 hS (hsize.trans hml.symm) t1 t2 t3 t4 t5 ?_ ?_ ?_ (by rw [hrc]; exact hc) (by rw [hrs]; exact hs) hlocks ?_ hS.2.2 hc hs
      · intro z hz
        rw [htab, show M.2.2.2.2 = [] from hhh] at hz
        cases hz
      · show 2 + 3 < d
        omega
      · rw [catS_e]
        show catS rest + (13 * 3 + 43) ≤ 39 * d
        omega
      · intro t _ h1 h2
        exact ⟨h, trivial, ⟨hPX, hR.kept h2⟩, ⟨Nat.le_trans hS.1 h1, fun z hz1 hz2 => by rw [h2 z (Nat.lt_of_lt_of_le hz1 hS.1)]; exact hS.2.1 z hz1 hz2⟩⟩
  · intro E ce q h H locs cells slots pc la rest hhh hPX hR hS hc hs hce hcv hcl
    refine vx_out (fun z hz => ?_) hlocks hce hcv hcl (fun t ht _ => ⟨h, trivial, ⟨hPX, by rw [ht]; exact hR⟩, hS.F ht⟩) hS.2.2 hc hs
    rw [htab, show M.2.2.2.2 = [] from hhh] at hz
    cases hz
/-- a method's contract, out of its walk -/
theorem mkOK {G : GT} {y : MethodName} {M : MI} {ini : Bool} {d mc ms : Nat} {ct : Ct} (hy : plainName y.cls = true) (hown : M.1 = y.cls) (hini : ini = true → y.name = "<init>")
    (hb : ∀ (As : List Value) (h : Hp) (Q : Option Value → Hp → Prop) (QX : String → Hp → Prop), ct As h Q QX → (entL As).length ≤ M.2.2.1 ∧ Wp G M ini d Q QX 0 (ent M.2.2.1 As) [] h (mc, ms)) : OKm G y M d mc ms ct := by
  intro l hl As h Q QX hct
  obtain ⟨hn, hW⟩ := hb As h Q QX hct
  by_cases hh : M.2.2.2.2 = []
  · refine vx_ofW (cc := M.2.1) (maxL := M.2.2.1) (ret := M.2.2.2.1) (ws' := gw) hy (by rw [cwd_nil hh]) ?_
    intro p e s m args below meth c s₁ B hml htab hv
    obtain ⟨rfl, hR, hg, hsz, hze⟩ := hv
    have hts := atoms_spec (ws := cwd y M :: gw) B.pre
    have hMa := mach_of (Q := Q) (QX := QX) hl B hml (fun w hw => hts w (List.mem_cons_of_mem _ hw)) hg (by
      rw [hh]
      cases hc : c.exceptionTable.toList with
      | nil => rfl
      | cons x r => exact (htab x (by rw [hc]; exact List.mem_cons_self)).elim) hown hini hsz hze
    rw [lg_entry_eq]
    exact hW hMa hR va_S.rf (Nat.le_of_eq (Nat.zero_add mc)) (Nat.le_of_eq (Nat.zero_add ms)) (ent_LsR hn)
  · refine vx_ofWH (cc := M.2.1) (maxL := M.2.2.1) (ret := M.2.2.2.1) (hh := M.2.2.2.2) (ws' := gw) hy (by rw [cwd_cons hh]) ?_
    intro p e s m args below meth c s₁ B hml hv
    obtain ⟨rfl, hR, hg, hsz, hze⟩ := hv
    have hts := atoms_spec (ws := cwd y M :: gw) B.pre
    have hcw := hts _ List.mem_cons_self
    rw [cwd_cons hh] at hcw
    have hMa := mach_of (Q := Q) (QX := QX) hl B hml (fun w hw => hts w (List.mem_cons_of_mem _ hw)) hg (vx_table (x := y) B hcw) hown hini hsz hze
    rw [lg_entry_eq]
    exact hW hMa hR va_S.rf (Nat.le_of_eq (Nat.zero_add mc)) (Nat.le_of_eq (Nat.zero_add ms)) (ent_LsR hn)
