/-! ===== the law: its steps ===== -/
theorem rs_dec {M : MI} {pc len : Nat} {i : Instr} {q : Nat × Nat × Int32 × List Nat} (h : rs M pc = some (i, len, q)) : decode M.2.1 pc = .ok (i, len) := by
  unfold rs at h
  split at h
  · rename_i i' len' hd
    have e1 : i' = i := congrArg (fun q => q.1) (Option.some.inj h)
    have e2 : len' = len := congrArg (fun q => q.2.1) (Option.some.inj h)
    rw [← e1, ← e2]
    exact hd
  · cases h
section LST
variable {G : GT} {M : MI} {ini : Bool} {d : Nat} {P : Option Value → Hp → Prop} {PX : String → Hp → Prop} {cs : List (Nat × CE)} {pc : Nat} {ls : Ls} {st : List Value} {h : Hp} {b : Nat × Nat}
theorem Wp.sld {i : Int32} (hd : decode M.2.1 pc = .ok (.iaload, 1)) (hin : inR i (scL G)) (K : Wp G M ini d P PX (pc + 1) ls (.int (scX G i.toNatClampNeg) :: st) h b) : Wp G M ini d P PX pc ls (.int i :: .ref (scB G) :: st) h b := by
  intro p l e R s m args below meth c Q H locs cells slots la hM hR hS hc hs hl
  have hg := hM.2.2.2.2.2.1
  have hX := hg.2.2.2.2.2.2.2.2.2.2.1
  have hA := hg.2.2.2.2.2.2.2.2.2.2.2
  have hbl : scB G < s.heap.size := by
    obtain ⟨scr, hcb, -⟩ := hX
    exact (Array.getElem?_eq_some_iff.mp hcb).1
  exact va_sld hM.1 hM.2.1 hX hbl hA hS hin hd (K hM hR hS hc hs hl)
theorem Wp.slen (hd : decode M.2.1 pc = .ok (.arraylength, 1)) (K : Wp G M ini d P PX (pc + 1) ls (.int (i32 (scL G)) :: st) h b) : Wp G M ini d P PX pc ls (.ref (scB G) :: st) h b := by
  intro p l e R s m args below meth c Q H locs cells slots la hM hR hS hc hs hl
  have hg := hM.2.2.2.2.2.1
  have hX := hg.2.2.2.2.2.2.2.2.2.2.1
  have hA := hg.2.2.2.2.2.2.2.2.2.2.2
  have hbl : scB G < s.heap.size := by
    obtain ⟨scr, hcb, -⟩ := hX
    exact (Array.getElem?_eq_some_iff.mp hcb).1
  have e : Int32.ofNat (scL G) = i32 (scL G) := i32_nI (scL G)
  exact va_slen hM.1 hM.2.1 hX hbl hA hS hd (by rw [e]; exact K hM hR hS hc hs hl)
theorem Wp.st1 {q : RI} (hE : EnvOK G M cs) (hr : rs M pc = some q) (hl : lenI q.1 = q.2.1 ∨ lenI q.1 = 0) (hk : stepI G M ini d cs P PX q.1 q.2.2.1 q.2.2.2.1 q.2.2.2.2.1 q.2.2.2.2.2 pc ls st h b (Wp G M ini d P PX)) : Wp G M ini d P PX pc ls st h b := by
  refine step_sound hE (fun _ _ _ _ _ q => q) ?_
  rw [step_u, hr]
  exact ⟨hl, hk⟩
end LST
/-! the law's own -/
def PL : Option Value → Hp → Prop := fun v _ => v = some (.int 1)
def PXL : String → Hp → Prop := fun _ _ => False
abbrev WpL (G : GT) (pc : Nat) (ls : Ls) (st : List Value) (h : Hp) (b : Nat × Nat) : Prop := Wp G ML_law false 14 PL PXL pc ls st h b
theorem envL {G : GT} : EnvOK G ML_law [] := env_nil0 (env_hh rfl)
section LAWP
variable {G : GT} {pc : Nat} {ls : Ls} {st : List Value} {h : Hp} {b : Nat × Nat}
theorem WpL.al {fn : Fin 4} {n a : Nat} (hd : rs ML_law pc = some (.aload_n fn, 1, n, 0, 0, [])) (hg : getL ls n = some (.ref a)) (K : WpL G (pc + 1) ls (.ref a :: st) h b) : WpL G pc ls st h b := by
  refine Wp.st1 envL hd (Or.inl rfl) ?_
  show gR ls n _
  unfold gR
  rw [hg]
  exact K
theorem WpL.il {n : Nat} {w : Int32} (hd : rs ML_law pc = some (.iload n, 2, 0, 0, 0, [])) (hg : getL ls n = some (.int w)) (K : WpL G (pc + 2) ls (.int w :: st) h b) : WpL G pc ls st h b := by
  refine Wp.st1 envL hd (Or.inl rfl) ?_
  show gI ls n _
  unfold gI
  rw [hg]
  exact K
theorem WpL.is {n : Nat} {w : Int32} (hd : rs ML_law pc = some (.istore n, 2, 0, 0, 0, [])) (hn : n < ls.length) (K : WpL G (pc + 2) (putL ls n (.int w)) st h b) : WpL G pc ls (.int w :: st) h b :=
  Wp.st1 envL hd (Or.inl rfl) (And.intro hn K)
/-- script[i + k] -/
theorem WpL.sa {i k : Nat} {kc : Int} {v : Int32} (hL : scL G ≤ 3584) (hi : i + k < scL G) (hg0 : getL ls 0 = some (.ref (scB G))) (hg4 : getL ls 4 = some (.int (i32 i))) (hv : v = i32 k)
    (d0 : rs ML_law pc = some (.aload_n 0, 1, 0, 0, 0, [])) (d1 : rs ML_law (pc + 1) = some (.iload 4, 2, 0, 0, 0, [])) (d2 : rs ML_law (pc + 3) = some (.iconst kc, 1, 0, 0, v, [])) (d3 : rs ML_law (pc + 4) = some (.iadd, 1, 0, 0, 0, [])) (d4 : rs ML_law (pc + 5) = some (.iaload, 1, 0, 0, 0, []))
    (K : WpL G (pc + 6) ls (.int (scX G (i + k)) :: st) h b) : WpL G pc ls st h b := by
  refine WpL.al d0 hg0 (WpL.il d1 hg4 (Wp.st1 envL d2 (Or.inl rfl) (Wp.st1 envL d3 (Or.inl rfl) ?_)))
  show WpL G (pc + 5) ls (.int (i32 i + v) :: .ref (scB G) :: st) h b
  rw [hv, i32_add]
  refine Wp.sld (rs_dec d4) ((inR_i (by omega)).mpr ⟨by omega, by omega⟩) ?_
  rw [i32_clamp (by omega) (by omega), show ((i : Int) + k).toNat = i + k by omega]
  exact K
theorem WpL.sb {i k : Nat} {kc : Int} {v : Int32} (hL : scL G ≤ 3584) (hi : i + k < scL G) (hg0 : getL ls 0 = some (.ref (scB G))) (hg4 : getL ls 4 = some (.int (i32 i))) (hv : v = i32 k)
    (d0 : rs ML_law pc = some (.aload_n 0, 1, 0, 0, 0, [])) (d1 : rs ML_law (pc + 1) = some (.iload 4, 2, 0, 0, 0, [])) (d2 : rs ML_law (pc + 3) = some (.bipush kc, 2, 0, 0, v, [])) (d3 : rs ML_law (pc + 5) = some (.iadd, 1, 0, 0, 0, [])) (d4 : rs ML_law (pc + 6) = some (.iaload, 1, 0, 0, 0, []))
    (K : WpL G (pc + 7) ls (.int (scX G (i + k)) :: st) h b) : WpL G pc ls st h b := by
  refine WpL.al d0 hg0 (WpL.il d1 hg4 (Wp.st1 envL d2 (Or.inl rfl) (Wp.st1 envL d3 (Or.inl rfl) ?_)))
  show WpL G (pc + 6) ls (.int (i32 i + v) :: .ref (scB G) :: st) h b
  rw [hv, i32_add]
  refine Wp.sld (rs_dec d4) ((inR_i (by omega)).mpr ⟨by omega, by omega⟩) ?_
  rw [i32_clamp (by omega) (by omega), show ((i : Int) + k).toNat = i + k by omega]
  exact K
theorem WpL.cS {j : Nat} {ce : CE} {As rest : List Value} (hd : rs ML_law pc = some (.invokestatic j, 3, 0, 0, 0, [])) (hE : EnvOK G ML_law [(j, ce)]) (h1 : ce.1 = 1) (hs : ∀ f, sP ce.2.2.2.1 st f = f As rest) (k1 : ce.2.2.2.2.1 + 1 ≤ 14) (k2 : ce.2.2.2.2.2.1 ≤ b.1) (k3 : ce.2.2.2.2.2.2.1 ≤ b.2) (k4 : catS rest ≤ 8) (k5 : ce.2.2.2.2.2.2.2 As h (cQ (Wp G ML_law false 14 PL PXL) pc ls rest (b.1 - ce.2.2.2.2.2.1, b.2 - ce.2.2.2.2.2.2.1)) (cX ML_law PXL (Wp G ML_law false 14 PL PXL) pc ls (b.1 - ce.2.2.2.2.2.1, b.2 - ce.2.2.2.2.2.2.1))) : WpL G pc ls st h b := by
  refine Wp.st1 hE hd (Or.inl rfl) ?_
  show lkC [(j, ce)] j _
  rw [lkC_c, if_pos rfl, if_pos h1, hs]
  exact And.intro k1 (And.intro k2 (And.intro k3 (And.intro k4 k5)))
theorem WpL.cV {j a x : Nat} {ce : CE} {As rest : List Value} (hd : rs ML_law pc = some (.invokevirtual j, 3, 0, 0, 0, [])) (hE : EnvOK G ML_law [(j, ce)]) (h1 : ce.1 = 0) (hs : ∀ f, sP ce.2.2.2.1 st f = f As (.ref a :: rest)) (hk : kd h a = x + 1) (hx : x < 7) (hn : nmOf x = ce.2.1.cls) (k1 : ce.2.2.2.2.1 + 1 ≤ 14) (k2 : ce.2.2.2.2.2.1 ≤ b.1) (k3 : ce.2.2.2.2.2.2.1 ≤ b.2) (k4 : catS rest ≤ 8) (k5 : ce.2.2.2.2.2.2.2 (.ref a :: As) h (cQ (Wp G ML_law false 14 PL PXL) pc ls rest (b.1 - ce.2.2.2.2.2.1, b.2 - ce.2.2.2.2.2.2.1)) (cX ML_law PXL (Wp G ML_law false 14 PL PXL) pc ls (b.1 - ce.2.2.2.2.2.1, b.2 - ce.2.2.2.2.2.2.1))) : WpL G pc ls st h b := by
  refine Wp.st1 hE hd (Or.inl rfl) ?_
  show lkC [(j, ce)] j _
  rw [lkC_c, if_pos rfl, if_pos h1, hs]
  exact And.intro (by omega) (And.intro (by omega) (And.intro (by rw [hk, Nat.add_sub_cancel]; exact hn) (And.intro k1 (And.intro k2 (And.intro k3 (And.intro k4 k5))))))
end LAWP
/-! class and reference, at one state -/
def JI (G : GT) (h : Hp) (D : WD) (m : Nat) (A : Nat → Nat) (S : SS) (o : Nat) : Prop := WF S ∧ WW S ∧ CI G h D S ∧ MD h m A S ∧ MC h A S ∧ (∀ a, WO D S a → ¬ WM m A a) ∧ kd h o = 23 ∧ ln h o = 1
theorem MD.kn {h : Hp} {m : Nat} {A : Nat → Nat} {S : SS} (hM : MD h m A S) {a : Nat} (ha : WM m A a) : kd h a = 7 ∨ kd h a = 21 := by
  obtain ⟨⟨hk, hA, hJ⟩, -⟩ := hM
  rcases ha with rfl | ⟨k, h1, rfl⟩
  · exact Or.inl hk
  · exact Or.inr (hA k h1.1 h1.2).2.1
section JIS
variable {G : GT} {h h1 h2 : Hp} {D D' : WD} {m o : Nat} {A : Nat → Nat} {S T : SS}
theorem JI.no (J : JI G h D m A S o) : ∀ a, (WO D S a ∨ a = o) → ¬ WM m A a := fun a ha hm => by
  obtain ⟨-, -, -, hM, -, hd, ko, -⟩ := J
  rcases ha with ha | rfl
  · exact hd a ha hm
  · have := hM.kn hm; omega
theorem JI.md (J : JI G h D m A S o) (f : Fr h h1 (fun a => WO D S a ∨ a = o)) : MD h1 m A S ∧ MC h1 A S := ⟨J.2.2.2.1.fr f J.no, J.2.2.2.2.1.fr J.2.2.2.1 f J.no⟩
theorem JI.nx (J : JI G h D m A S o) (f : Fr h h1 (fun a => WO D S a ∨ a = o)) (w : ∀ a, WO D' T a → WO D S a ∨ kd h a = 0) (hI : CI G h1 D' T) (hE : kd h2 G.2.2.1.2.1 = 0) (f2 : Fr h1 h2 (WM m A)) (hM : MD h2 m A T) (hC : MC h2 A T) (hW : WF T) (hw : WW T) : JI G h2 D' m A T o := by
  have hd : ∀ a, WO D' T a → ¬ WM m A a := fun a ha hm => by
    rcases w a ha with z | z
    · exact J.2.2.2.2.2.1 a z hm
    · exact J.2.2.2.1.ex hm z
  have k1 := (f o (by have := J.2.2.2.2.2.2.1; omega)).1
  have k2 := (f2 o (by rw [k1.1, J.2.2.2.2.2.2.1]; omega)).1
  exact ⟨hW, hw, hI.frm hE f2 (fun a hm ha => hd a ha hm), hM, hC, hd, k2.1.trans (k1.1.trans J.2.2.2.2.2.2.1), k2.2.trans (k1.2.trans J.2.2.2.2.2.2.2)⟩
theorem JI.ja (J : JI G h D m A S o) (f : Fr h h1 (fun a => WO D S a ∨ a = o)) (f2 : Fr h1 h2 (WM m A)) : ja h2 o 0 = ja h1 o 0 := by
  have k1 := (f o (by have := J.2.2.2.2.2.2.1; omega)).1
  exact ((f2 o (by rw [k1.1, J.2.2.2.2.2.2.1]; omega)).2 (J.no o (Or.inr rfl))).2.2.2.1 0
end JIS
section TAIL
variable {G : GT} {h : Hp} {D : WD} {m o : Nat} {A : Nat → Nat} {S : SS} {b : Nat × Nat}
/-- behind both calls: the same exception, the same answer -/
theorem tl_law {q : Nat} {kc0 : Int} {off : Int} {r1 r2 r3 : Int} {kk vv : Int} {w : Int32} {i : Nat} {o6 o7 o8 : Option Value} (hE : EnvOK G ML_law [(93, ce_X5_thrown)])
    (d0 : rs ML_law q = some (.istore 6, 2, 0, 0, 0, [])) (d1 : rs ML_law (q + 2) = some (.aload_n 2, 1, 2, 0, 0, [])) (d2 : rs ML_law (q + 3) = some (.invokevirtual 93, 3, 0, 0, 0, [])) (d3 : rs ML_law (q + 6) = some (.iload 5, 2, 0, 0, 0, []))
    (d4 : rs ML_law (q + 8) = some (.if_icmp .eq r1, 3, q + 13, 0, 0, [])) (d5 : rs ML_law (q + 13) = some (.iload 5, 2, 0, 0, 0, [])) (d6 : rs ML_law (q + 15) = some (.ifCond .ne r2, 3, q + 30, 0, 0, [])) (d7 : rs ML_law (q + 18) = some (.aload_n 3, 1, 3, 0, 0, []))
    (d8 : rs ML_law (q + 19) = some (.iconst kc0, 1, 0, 0, 0, [])) (d9 : rs ML_law (q + 20) = some (.laload, 1, 0, 0, 0, [])) (d10 : rs ML_law (q + 21) = some (.iload 6, 2, 0, 0, 0, [])) (d11 : rs ML_law (q + 23) = some (.i2l, 1, 0, 0, 0, [])) (d12 : rs ML_law (q + 24) = some (.lcmp, 1, 0, 0, 0, []))
    (d13 : rs ML_law (q + 25) = some (.ifCond .eq r3, 3, q + 30, 0, 0, [])) (d14 : rs ML_law (q + 30) = some (.goto off, 3, 1743, 0, 0, []))
    (J : JI G h D m A S o) (hk : 0 ≤ kk ∧ kk ≤ 3) (ek : fi h 6 0 m = i32 kk) (hw : kk = 0 → w = i32 vv) (hj : kk = 0 → ja h o 0 = (i32 vv).toInt64)
    (K : WpL G 1743 [some (.ref (scB G)), some (.ref (D 0 0)), some (.ref m), some (.ref o), some (.int (i32 i)), some (.int (i32 kk)), some (.int w), o7, o8] [] h b) :
    WpL G q [some (.ref (scB G)), some (.ref (D 0 0)), some (.ref m), some (.ref o), some (.int (i32 i)), some (.int (i32 kk)), o6, o7, o8] [.int w] h b := by
  have km := J.2.2.2.1.1.1
  have ko := J.2.2.2.2.2.2.1
  have lo := J.2.2.2.2.2.2.2
  have hO6 : ∀ o6' : Option Value, o6' = o6 → kil o6' = kil o6 := fun _ e => by rw [e]
  have K30 : WpL G (q + 30) [some (.ref (scB G)), some (.ref (D 0 0)), some (.ref m), some (.ref o), some (.int (i32 i)), some (.int (i32 kk)), some (.int w), o7, o8] [] h b := Wp.st1 envL d14 (Or.inl rfl) (And.intro (Nat.succ_pos _) K)
  refine Wp.st1 envL d0 (Or.inl rfl) (And.intro (by show 6 < 9; omega) ?_)
  show WpL G (q + 2) [some (.ref (scB G)), some (.ref (D 0 0)), some (.ref m), some (.ref o), some (.int (i32 i)), some (.int (i32 kk)), some (.int w), o7, o8] [] h b
  refine WpL.al d1 rfl ?_
  refine WpL.cV (x := 6) (As := []) (rest := []) d2 hE rfl (fun _ => rfl) km (by omega) rfl (Nat.le_of_ble_eq_true rfl) (Nat.zero_le _) (Nat.zero_le _) (Nat.le_of_ble_eq_true rfl) ?_
  refine And.intro km ?_
  rw [ek]
  show WpL G (q + 6) _ [.int (i32 kk)] h b
  refine WpL.il d3 rfl ?_
  refine Wp.st1 envL d4 (Or.inl rfl) (And.intro (Nat.succ_pos _) (And.intro (fun _ => ?_) (fun z => absurd rfl z)))
  refine WpL.il d5 rfl ?_
  refine Wp.st1 envL d6 (Or.inl rfl) (And.intro (Nat.succ_pos _) (And.intro (fun _ => K30) (fun z => ?_)))
  have z0 : kk = 0 := by
    rw [i32_lit, i32_eq (by omega) (by omega)] at z
    exact z
  refine WpL.al d7 rfl ?_
  refine Wp.st1 envL d8 (Or.inl rfl) ?_
  refine Wp.st1 envL d9 (Or.inl rfl) (And.intro ko (And.intro (by rw [lo]; exact (inR_i (v := 0) ⟨by omega, by omega⟩).mpr ⟨by omega, by omega⟩) ?_))
  rw [show (0 : Int32).toNatClampNeg = 0 by decide, hj z0]
  refine WpL.il d10 rfl ?_
  refine Wp.st1 envL d11 (Or.inl rfl) ?_
  refine Wp.st1 envL d12 (Or.inl rfl) ?_
  refine Wp.st1 envL d13 (Or.inl rfl) (And.intro (Nat.succ_pos _) (And.intro (fun _ => K30) (fun z => ?_)))
  rw [hw z0] at z
  exact absurd (by unfold lg_cmp; simp) z
end TAIL
