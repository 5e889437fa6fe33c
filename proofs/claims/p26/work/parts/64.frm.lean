/-! ===== another's changes leave the class alone ===== -/
theorem Wp.emp {G : GT} {M : MI} {ini : Bool} {d : Nat} {P : Option Value → Hp → Prop} {PX : String → Hp → Prop} {pc : Nat} {ls : Ls} {st : List Value} {h : Hp} {b : Nat × Nat} (hw : kd h G.2.2.1.2.1 = 0 → Wp G M ini d P PX pc ls st h b) : Wp G M ini d P PX pc ls st h b := by
  intro p l e R s m args below meth c Q H locs cells slots la hM hR hS hc hs hl
  refine hw ?_ hM hR hS hc hs hl
  rcases Nat.eq_zero_or_pos (kd h G.2.2.1.2.1) with q | q
  · exact q
  · exfalso
    have hz := hM.2.2.2.2.2.2.2.2.2.2.2.1
    obtain ⟨L, k, -, -, hD, hk⟩ := Rel.at hR (a := G.2.2.1.2.1) (by omega)
    have := hD.2 k _ (by first | exact hk | exact hk.1)
    have : G.2.2.1.1 ≤ G.2.2.1.2.1 := this
    omega
section OWN
variable {G : GT} {h h' : Hp} {D : WD} {S : SS} {W : Nat → Prop}
theorem Lst.fr {a q cap n : Nat} {f : Nat → Nat} (hL : Lst G h a q cap n f) (hE : kd h' G.2.2.1.2.1 = 0) (hF : Fr h h' W) (ha : ¬ W a) (hq : ¬ W q) : Lst G h' a q cap n f := by
  obtain ⟨l1, l2, l3, l4, l5, l6, l7⟩ := hL
  obtain ⟨⟨k1, -⟩, k2⟩ := hF a (by omega)
  obtain ⟨k3, k4, -, -, -⟩ := k2 ha
  refine ⟨k1.trans l1, (k3 _ _).trans l2, (k4 _ _).trans l3, l4, fun z => ⟨(l5 z).1, by rw [(l5 z).1]; exact hE⟩, fun z => ?_, fun i hi => ?_⟩
  · obtain ⟨e1, e2⟩ := l6 z
    obtain ⟨⟨j1, j2⟩, -⟩ := hF q (by omega)
    exact ⟨j1.trans e1, j2.trans e2⟩
  · obtain ⟨e1, e2⟩ := l6 (by omega)
    obtain ⟨-, j⟩ := hF q (by omega)
    exact ((j hq).2.2.2.2 i).trans (l7 i hi)
theorem CI.frm (hI : CI G h D S) (hE : kd h' G.2.2.1.2.1 = 0) (hF : Fr h h' W) (hW : ∀ a, W a → ¬ WO D S a) : CI G h' D S := by
  have hx := fun a (ha : WO D S a) (hk : kd h a ≠ 0) => (hF a hk).1
  have hy := fun a (ha : WO D S a) (hk : kd h a ≠ 0) => (hF a hk).2 (fun z => hW a z ha)
  obtain ⟨⟨⟨a1, a2, a3, a4, a5, a6⟩, ⟨b1, b2, b3⟩, ⟨c1, c1'⟩, ⟨c2, c2'⟩, ⟨c3, c3'⟩, ⟨c4, c4'⟩, ⟨d1, d2, d3⟩, e1, e2, e3, e4⟩, ⟨p1, p2, p3, p4, p5, p6, p7, p8⟩, hH⟩ := hI
  have s0 := WO.s (D := D) (S := S) (i := 0) (by omega)
  have s1 := WO.s (D := D) (S := S) (i := 1) (by omega)
  have s3 := WO.s (D := D) (S := S) (i := 3) (by omega)
  have s6 := WO.s (D := D) (S := S) (i := 6) (by omega)
  have s7 := WO.s (D := D) (S := S) (i := 7) (by omega)
  have s8 := WO.s (D := D) (S := S) (i := 8) (by omega)
  have x0 := hx _ s0 (by omega)
  have y0 := hy _ s0 (by omega)
  have x1 := hx _ s1 (by omega)
  have y1 := hy _ s1 (by omega)
  have x3 := hx _ s3 (by omega)
  have y3 := hy _ s3 (by omega)
  have x6 := hx _ s6 (by omega)
  have y6 := hy _ s6 (by omega)
  have x7 := hx _ s7 (by omega)
  have y7 := hy _ s7 (by omega)
  have x8 := hx _ s8 (by omega)
  have nw : ∀ a, WO D S a → ¬ W a := fun a ha z => hW a z ha
  have gl : ∀ {i j cap n f}, i ≤ 11 → j ≤ 11 → Lst G h (D 0 i) (D 0 j) cap n f → Lst G h' (D 0 i) (D 0 j) cap n f := fun hi hj hL => hL.fr hE hF (nw _ (WO.s hi)) (nw _ (WO.s hj))
  have eA : ∀ r, r < 12 → HA h' D r := fun r hr => by
    obtain ⟨k, ⟨r5, r6, r7, r8, r12⟩, ⟨k4, l4⟩, ⟨k5, l5⟩, ⟨k6, l6⟩, ⟨k7, l7⟩⟩ := e2 r hr
    have z2 := hx _ (WO.h (D := D) (S := S) (t := 2) (by omega) hr) (by omega)
    have y2 := (hy _ (WO.h (D := D) (S := S) (t := 2) (by omega) hr) (by omega)).2.1
    have z4 := hx _ (WO.h (D := D) (S := S) (t := 4) (by omega) hr) (by omega)
    have z5 := hx _ (WO.h (D := D) (S := S) (t := 5) (by omega) hr) (by omega)
    have z6 := hx _ (WO.h (D := D) (S := S) (t := 6) (by omega) hr) (by omega)
    have z7 := hx _ (WO.h (D := D) (S := S) (t := 7) (by omega) hr) (by omega)
    exact ⟨z2.1.trans k, ⟨(y2 _ _).trans r5, (y2 _ _).trans r6, (y2 _ _).trans r7, (y2 _ _).trans r8, (y2 _ _).trans r12⟩, ⟨z4.1.trans k4, z4.2.trans l4⟩, ⟨z5.1.trans k5, z5.2.trans l5⟩, ⟨z6.1.trans k6, z6.2.trans l6⟩, ⟨z7.1.trans k7, z7.2.trans l7⟩⟩
  refine ⟨⟨⟨x0.1.trans a1, (y0.2.1 _ _).trans a2, (y0.2.1 _ _).trans a3, (y0.2.1 _ _).trans a4, (y0.2.1 _ _).trans a5, (y0.2.1 _ _).trans a6⟩, ⟨x1.1.trans b1, (y1.2.1 _ _).trans b2, (y1.2.1 _ _).trans b3⟩, ⟨x3.1.trans c1, x3.2.trans c1'⟩, ⟨x6.1.trans c2, x6.2.trans c2'⟩, ⟨x7.1.trans c3, x7.2.trans c3'⟩, ⟨x8.1.trans c4, x8.2.trans c4'⟩, ⟨gl (by omega) (by omega) d1, gl (by omega) (by omega) d2, gl (by omega) (by omega) d3⟩, fun b hb => ?_, eA, fun l hl => ?_, e4⟩, ⟨(y0.1 _ _).trans p1, (y0.1 _ _).trans p2, fun o ho => (y6.2.2.1 _).trans (p3 o ho), fun t ht => (y7.2.2.1 _).trans (p4 t ht), fun k hk => (y3.2.2.1 _).trans (p5 k hk), fun b hb => ?_, fun l hl => ?_, fun r hr => ?_⟩, fun r hr => ?_⟩
  · have k := e1 b hb
    exact (hx _ (WO.b hb) (by omega)).1.trans k
  · have k := e3 l hl
    exact (hx _ (WO.l hl) (by omega)).1.trans k
  · have k := e1 b hb
    have z := (hy _ (WO.b hb) (by omega)).1
    simp only [BD, z]
    exact p6 b hb
  · have k := e3 l hl
    have z := (hy _ (WO.l hl) (by omega)).1
    simp only [LD, z]
    exact p7 l hl
  · have k := (e2 r hr).1
    have z := (hy _ (WO.h (D := D) (S := S) (t := 2) (by omega) hr) (by omega)).1
    simp only [HD, z]
    exact p8 r hr
  · obtain ⟨k, -, ⟨k4, -⟩, ⟨k5, -⟩, ⟨k6, -⟩, ⟨k7, -⟩⟩ := e2 r hr
    have z := (hy _ (WO.h (D := D) (S := S) (t := 2) (by omega) hr) (by omega)).1
    have z4 := (hy _ (WO.h (D := D) (S := S) (t := 4) (by omega) hr) (by omega)).2.2.1
    have z5 := (hy _ (WO.h (D := D) (S := S) (t := 5) (by omega) hr) (by omega)).2.2.1
    have z6 := (hy _ (WO.h (D := D) (S := S) (t := 6) (by omega) hr) (by omega)).2.2.1
    have z7 := (hy _ (WO.h (D := D) (S := S) (t := 7) (by omega) hr) (by omega)).2.2.1
    simp only [CH, HM, HL, z, z4, z5, z6, z7]
    exact hH r hr
end OWN

