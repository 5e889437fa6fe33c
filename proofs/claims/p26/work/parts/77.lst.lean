/-! ===== the law: its steps ===== -/
theorem rs_dec {M : MI} {pc len : Nat} {i : Instr} {q : Nat × Nat × Int32 × List Nat} (h : rs M pc = some (i, len, q)) : decode M.2.1 pc = .ok (i, len) := by
  unfold rs at h
  split at h
  · rename_i i' len' hd
    have e1 : i' = i := congrArg (fun q => q.1) (Option.some.inj h)
    have e2 : len' = len := congrArg (fun q => q.2.1) (Option.some.inj h)
    rw [← e1, ← e2]
    exact hd
  · cases h
section LST
variable {G : GT} {M : MI} {ini : Bool} {d : Nat} {P : Option Value → Hp → Prop} {PX : String → Hp → Prop} {cs : List (Nat × CE)} {pc : Nat} {ls : Ls} {st : List Value} {h : Hp} {b : Nat × Nat}
theorem Wp.sld {i : Int32} (hd : decode M.2.1 pc = .ok (.iaload, 1)) (hin : inR i (scL G)) (K : Wp G M ini d P PX (pc + 1) ls (.int (scX G i.toNatClampNeg) :: st) h b) : Wp G M ini d P PX pc ls (.int i :: .ref (scB G) :: st) h b := by
  intro p l e R s m args below meth c Q H locs cells slots la hM hR hS hc hs hl
  have hg := hM.2.2.2.2.2.1
  have hX := hg.2.2.2.2.2.2.2.2.2.2.1
  have hA := hg.2.2.2.2.2.2.2.2.2.2.2.1
  have hbl : scB G < s.heap.size := by
    obtain ⟨scr, hcb, -⟩ := hX
    exact (Array.getElem?_eq_some_iff.mp hcb).1
  exact va_sld hM.1 hM.2.1 hX hbl hA hS hin hd (K hM hR hS hc hs hl)
theorem Wp.slen (hd : decode M.2.1 pc = .ok (.arraylength, 1)) (K : Wp G M ini d P PX (pc + 1) ls (.int (i32 (scL G)) :: st) h b) : Wp G M ini d P PX pc ls (.ref (scB G) :: st) h b := by
  intro p l e R s m args below meth c Q H locs cells slots la hM hR hS hc hs hl
  have hg := hM.2.2.2.2.2.1
  have hX := hg.2.2.2.2.2.2.2.2.2.2.1
  have hA := hg.2.2.2.2.2.2.2.2.2.2.2.1
  have hbl : scB G < s.heap.size := by
    obtain ⟨scr, hcb, -⟩ := hX
    exact (Array.getElem?_eq_some_iff.mp hcb).1
  have e : Int32.ofNat (scL G) = i32 (scL G) := i32_nI (scL G)
  exact va_slen hM.1 hM.2.1 hX hbl hA hS hd (by rw [e]; exact K hM hR hS hc hs hl)
theorem Wp.st1 {q : RI} (hE : EnvOK G M cs) (hr : rs M pc = some q) (hl : lenI q.1 = q.2.1 ∨ lenI q.1 = 0) (hk : stepI G M ini d cs P PX q.1 q.2.2.1 q.2.2.2.1 q.2.2.2.2.1 q.2.2.2.2.2 pc ls st h b (Wp G M ini d P PX)) : Wp G M ini d P PX pc ls st h b := by
  refine step_sound hE (fun _ _ _ _ _ q => q) ?_
  rw [step_u, hr]
  exact ⟨hl, hk⟩
end LST
