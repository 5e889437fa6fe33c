/-! ===== the class: new buildings ===== -/
/-- the class's world without its lists -/
def CA0 (h : Hp) (D : WD) (S : SS) : Prop := (kd h (D 0 0) = 6 ∧ fr h 5 0 (D 0 0) = some (D 0 1) ∧ fr h 5 1 (D 0 0) = some (D 0 4) ∧ fr h 5 2 (D 0 0) = some (D 0 5) ∧ fr h 5 3 (D 0 0) = some (D 0 6) ∧ fr h 5 4 (D 0 0) = some (D 0 7)) ∧
  (kd h (D 0 1) = 5 ∧ fr h 4 0 (D 0 1) = some (D 0 2) ∧ fr h 4 1 (D 0 1) = some (D 0 3)) ∧ (kd h (D 0 3) = 22 ∧ ln h (D 0 3) = 256) ∧ (kd h (D 0 6) = 21 ∧ ln h (D 0 6) = 8) ∧ (kd h (D 0 7) = 21 ∧ ln h (D 0 7) = 16) ∧ (kd h (D 0 8) = 21 ∧ ln h (D 0 8) = 256) ∧
  (∀ b, b < S.nb → kd h (D 1 b) = 2) ∧ (∀ r, r < 12 → HA h D r) ∧ (∀ l, l < S.nl → kd h (D 3 l) = 4)
section RAW
variable {G : GT} {h h' : Hp} {D : WD} {S : SS} {W : Nat → Prop}
theorem Lst.fr2 {a q cap n : Nat} {f : Nat → Nat} (hL : Lst G h a q cap n f) (hE : kd h' G.2.2.1.2.1 = 0) (hF : Fr h h' W) (ha : ¬ W a) (hq : 0 < cap → ¬ W q) : Lst G h' a q cap n f := by
  obtain ⟨l1, l2, l3, l4, l5, l6, l7⟩ := hL
  obtain ⟨⟨k1, -⟩, k2⟩ := hF a (by omega)
  obtain ⟨k3, k4, -, -, -⟩ := k2 ha
  refine ⟨k1.trans l1, (k3 _ _).trans l2, (k4 _ _).trans l3, l4, fun z => ⟨(l5 z).1, by rw [(l5 z).1]; exact hE⟩, fun z => ?_, fun i hi => ?_⟩
  · obtain ⟨e1, e2⟩ := l6 z
    obtain ⟨⟨j1, j2⟩, -⟩ := hF q (by omega)
    exact ⟨j1.trans e1, j2.trans e2⟩
  · obtain ⟨e1, e2⟩ := l6 (by omega)
    obtain ⟨-, j⟩ := hF q (by omega)
    exact ((j (hq (by omega))).2.2.2.2 i).trans (l7 i hi)
/-- lists and their rows may have changed -/
theorem CI.raw (hI : CI G h D S) (hF : Fr h h' W) (hW : ∀ a, W a → kd h a = 0 ∨ kd h a = 1 ∨ kd h a = 24) : CA0 h' D S ∧ CB h' D S ∧ ∀ r, r < 12 → CH h' D S r := by
  have hx := fun a (hk : kd h a ≠ 0) => (hF a hk).1
  have hy := fun a (hk : kd h a ≠ 0 ∧ kd h a ≠ 1 ∧ kd h a ≠ 24) => (hF a hk.1).2 (fun z => by have := hW a z; omega)
  obtain ⟨⟨⟨a1, a2, a3, a4, a5, a6⟩, ⟨b1, b2, b3⟩, ⟨c1, c1'⟩, ⟨c2, c2'⟩, ⟨c3, c3'⟩, ⟨c4, c4'⟩, -, e1, e2, e3, e4⟩, ⟨p1, p2, p3, p4, p5, p6, p7, p8⟩, hH⟩ := hI
  have x0 := hx (D 0 0) (by omega)
  have y0 := hy (D 0 0) (by omega)
  have x1 := hx (D 0 1) (by omega)
  have y1 := hy (D 0 1) (by omega)
  have x3 := hx (D 0 3) (by omega)
  have y3 := hy (D 0 3) (by omega)
  have x6 := hx (D 0 6) (by omega)
  have y6 := hy (D 0 6) (by omega)
  have x7 := hx (D 0 7) (by omega)
  have y7 := hy (D 0 7) (by omega)
  have x8 := hx (D 0 8) (by omega)
  have eA : ∀ r, r < 12 → HA h' D r := fun r hr => by
    obtain ⟨k, ⟨r5, r6, r7, r8, r12⟩, ⟨k4, l4⟩, ⟨k5, l5⟩, ⟨k6, l6⟩, ⟨k7, l7⟩⟩ := e2 r hr
    have z2 := hx (D 2 r) (by omega)
    have y2 := (hy (D 2 r) (by omega)).2.1
    have z4 := hx (D 4 r) (by omega)
    have z5 := hx (D 5 r) (by omega)
    have z6 := hx (D 6 r) (by omega)
    have z7 := hx (D 7 r) (by omega)
    exact ⟨z2.1.trans k, ⟨(y2 _ _).trans r5, (y2 _ _).trans r6, (y2 _ _).trans r7, (y2 _ _).trans r8, (y2 _ _).trans r12⟩, ⟨z4.1.trans k4, z4.2.trans l4⟩, ⟨z5.1.trans k5, z5.2.trans l5⟩, ⟨z6.1.trans k6, z6.2.trans l6⟩, ⟨z7.1.trans k7, z7.2.trans l7⟩⟩
  refine ⟨⟨⟨x0.1.trans a1, (y0.2.1 _ _).trans a2, (y0.2.1 _ _).trans a3, (y0.2.1 _ _).trans a4, (y0.2.1 _ _).trans a5, (y0.2.1 _ _).trans a6⟩, ⟨x1.1.trans b1, (y1.2.1 _ _).trans b2, (y1.2.1 _ _).trans b3⟩, ⟨x3.1.trans c1, x3.2.trans c1'⟩, ⟨x6.1.trans c2, x6.2.trans c2'⟩, ⟨x7.1.trans c3, x7.2.trans c3'⟩, ⟨x8.1.trans c4, x8.2.trans c4'⟩, fun b hb => ?_, eA, fun l hl => ?_⟩, ⟨(y0.1 _ _).trans p1, (y0.1 _ _).trans p2, fun o ho => (y6.2.2.1 _).trans (p3 o ho), fun t ht => (y7.2.2.1 _).trans (p4 t ht), fun k hk => (y3.2.2.1 _).trans (p5 k hk), fun b hb => ?_, fun l hl => ?_, fun r hr => ?_⟩, fun r hr => ?_⟩
  · have k := e1 b hb
    exact (hx _ (by omega)).1.trans k
  · have k := e3 l hl
    exact (hx _ (by omega)).1.trans k
  · have k := e1 b hb
    have z := (hy (D 1 b) (by omega)).1
    simp only [BD, z]
    exact p6 b hb
  · have k := e3 l hl
    have z := (hy (D 3 l) (by omega)).1
    simp only [LD, z]
    exact p7 l hl
  · have k := (e2 r hr).1
    have z := (hy (D 2 r) (by omega)).1
    simp only [HD, z]
    exact p8 r hr
  · obtain ⟨k, -, ⟨k4, -⟩, ⟨k5, -⟩, ⟨k6, -⟩, ⟨k7, -⟩⟩ := e2 r hr
    have z := (hy (D 2 r) (by omega)).1
    have z4 := (hy (D 4 r) (by omega)).2.2.1
    have z5 := (hy (D 5 r) (by omega)).2.2.1
    have z6 := (hy (D 6 r) (by omega)).2.2.1
    have z7 := (hy (D 7 r) (by omega)).2.2.1
    simp only [CH, HM, HL, z, z4, z5, z6, z7]
    exact hH r hr
/-- what is fresh was fresh before -/
theorem Fr.kz {a : Nat} (hF : Fr h h' W) (hz : kd h' a = 0) : kd h a = 0 := by
  rcases Nat.eq_zero_or_pos (kd h a) with q | q
  · exact q
  · have := (hF a (by omega)).1.1; omega
/-- a list's row -/
theorem Lst.kq {a q cap n : Nat} {f : Nat → Nat} (hL : Lst G h a q cap n f) : (0 < cap → kd h q = 24) ∧ (kd h q = 0 ∨ kd h q = 24) := by
  obtain ⟨l1, l2, l3, l4, l5, l6, l7⟩ := hL
  refine ⟨fun z => (l6 z).1, ?_⟩
  rcases Nat.eq_zero_or_pos cap with z | z
  · exact Or.inl (l5 z).2
  · exact Or.inr (l6 z).1
end RAW
/-- the world with one more building -/
def bD (D : WD) (n a q cap : Nat) : WD := fun t i => if t = 1 then (if i = n then a else D 1 i) else if t = 0 then (if i = 9 then q else D 0 i) else if t = 9 then (if i = 0 then cap else D 9 i) else D t i
section BDW
variable {D : WD} {n a q cap : Nat}
theorem bD_0 {i : Nat} (hi : i ≠ 9) : bD D n a q cap 0 i = D 0 i := by show (if i = 9 then q else D 0 i) = _; rw [if_neg hi]
theorem bD_09 : bD D n a q cap 0 9 = q := rfl
theorem bD_90 : bD D n a q cap 9 0 = cap := rfl
theorem bD_9 {i : Nat} (hi : i ≠ 0) : bD D n a q cap 9 i = D 9 i := by show (if i = 0 then cap else D 9 i) = _; rw [if_neg hi]
theorem bD_1n : bD D n a q cap 1 n = a := by show (if n = n then a else D 1 n) = _; rw [if_pos rfl]
theorem bD_1 {i : Nat} (hi : i ≠ n) : bD D n a q cap 1 i = D 1 i := by show (if i = n then a else D 1 i) = _; rw [if_neg hi]
theorem bD_1f : bD D n a q cap 1 = updL (D 1) n a := rfl
theorem bD_2 : bD D n a q cap 2 = D 2 := rfl
theorem bD_3 : bD D n a q cap 3 = D 3 := rfl
theorem bD_4 : bD D n a q cap 4 = D 4 := rfl
theorem bD_5 : bD D n a q cap 5 = D 5 := rfl
theorem bD_6 : bD D n a q cap 6 = D 6 := rfl
theorem bD_7 : bD D n a q cap 7 = D 7 := rfl
theorem bD_rk {t i : Nat} (h : RK t i) : bD D n a q cap t i = D t i := by
  rcases h with ⟨rfl, h1, h2⟩ | ⟨h1, h2, -⟩
  · exact bD_0 (by omega)
  · unfold bD
    rw [if_neg (by omega), if_neg (by omega), if_neg (by omega)]
end BDW
theorem isCov_aB {S : SS} {x y w d t o u v : Int} : isCov (S.aB (bS x y w d t o)) u v = if x ≤ u ∧ u < x + w ∧ y ≤ v ∧ v < y + d then true else isCov S u v := by
  have h1 : anyN (fun b => cov (S.aB (bS x y w d t o)) b u v) S.nb = isCov S u v := anyN_cg _ (fun i hi => by
    unfold cov
    simp only [bf_aB, show ¬ i = S.nb by omega, if_false])
  have h2 : cov (S.aB (bS x y w d t o)) S.nb u v = true ↔ (x ≤ u ∧ u < x + w ∧ y ≤ v ∧ v < y + d) := by
    rw [cov_cvx]
    unfold cvx
    simp only [bf_aB, if_true, bS, true_and]
  show (anyN (fun b => cov (S.aB (bS x y w d t o)) b u v) S.nb || cov (S.aB (bS x y w d t o)) S.nb u v) = _
  rw [h1]
  by_cases q : x ≤ u ∧ u < x + w ∧ y ≤ v ∧ v < y + d
  · rw [if_pos q, h2.mpr q, Bool.or_true]
  · rw [if_neg q, Bool.eq_false_iff.mpr (fun z => q (h2.mp z)), Bool.or_false]
/-- a new building's fields -/
def BN (h : Hp) (a n : Nat) (x y w d t o : Int) : Prop := kd h a = 2 ∧ fi h 1 0 a = i32 n ∧ fi h 1 1 a = i32 x ∧ fi h 1 2 a = i32 y ∧ fi h 1 3 a = i32 w ∧ fi h 1 4 a = i32 d ∧ fi h 1 5 a = i32 o ∧ fi h 1 6 a = i32 t ∧ fi h 1 7 a = i32 1
theorem CD_aB {G : GT} {g h1 h2 : Hp} {D : WD} {S : SS} {a q cap : Nat} {x y w d t o : Int} (hI : CI G g D S) (hE : kd h1 G.2.2.1.2.1 = 0) (hne : ∀ b, b < S.nb → D 1 b ≠ a) (hB : BN g a S.nb x y w d t o) (f : Fr g h1 (fun b => b = D 0 2 ∨ b = D 0 9)) (hq : q = D 0 9 ∧ 0 < D 9 0 ∨ kd g q = 0) (hL : Lst G h1 (D 0 2) q cap (S.nb + 1) (updL (D 1) S.nb a)) (hcap : 0 < cap) (s : SF h1 h2 (D 0 3)) (hc : ∀ c, c < 256 → ia h2 (D 0 3) c = if inP x y w d c then i32 1 else ia h1 (D 0 3) c) : CD G h2 (bD D S.nb a q cap) (S.aB (bS x y w d t o)) := by
  obtain ⟨d1, d2, d3⟩ := hI.1.2.2.2.2.2.2.1
  obtain ⟨e41, e42, e43, ⟨e441, e442, e443⟩, ⟨e451, e452, e453⟩, e46⟩ := hI.1.2.2.2.2.2.2.2.2.2.2
  have q9 := d1.kq
  have q10 := d2.kq
  have q11 := d3.kq
  have k2 := d1.1
  have k4 := d2.1
  have k5 := d3.1
  obtain ⟨⟨⟨a1, a2, a3, a4, a5, a6⟩, ⟨b1, b2, b3⟩, ⟨c1, c1'⟩, ⟨c2, c2'⟩, ⟨c3, c3'⟩, ⟨c4, c4'⟩, e1, e2, e3⟩, ⟨p1, p2, p3, p4, p5, p6, p7, p8⟩, -⟩ := hI.raw f (fun b hb => by
    rcases hb with rfl | rfl
    · exact Or.inr (Or.inl k2)
    · rcases q9.2 with z | z
      · exact Or.inl z
      · exact Or.inr (Or.inr z))
  have h10 : 0 < D 9 1 := by have := d2.2.2.2.1; omega
  have l4 : Lst G h1 (D 0 4) (D 0 10) (D 9 1) 12 (D 2) := d2.fr2 hE f (fun z => by
    rcases z with z | z
    · exact e441 z.symm
    · rw [z] at k4; omega) (fun _ z => by
    have y := q10.1 h10
    rcases z with z | z
    · rw [z] at y; omega
    · rcases Nat.eq_zero_or_pos (D 9 0) with v | v
      · have := (d1.2.2.2.2.1 v).2; rw [z] at y; omega
      · exact e451 v z.symm)
  have l5 : Lst G h1 (D 0 5) (D 0 11) (D 9 2) S.nl (D 3) := d3.fr2 hE f (fun z => by
    rcases z with z | z
    · exact e442 z.symm
    · rw [z] at k5; omega) (fun v z => by
    have y := q11.1 v
    rcases z with z | z
    · rw [z] at y; omega
    · rcases Nat.eq_zero_or_pos (D 9 0) with v' | v'
      · have := (d1.2.2.2.2.1 v').2; rw [z] at y; omega
      · exact e452 v' v z.symm)
  obtain ⟨g1, g2, g3, g4, g5, g6, g7⟩ := s
  obtain ⟨n0, n1, n2, n3, n4, n5, n6, n7, n8⟩ := hB
  have fa := f a (by omega)
  have fa' := (fa.2 (fun z => by
    rcases z with z | z
    · rw [z] at n0; omega
    · rw [z] at n0; rcases q9.2 with v | v <;> omega)).1
  have gl : ∀ {aa qq cc n f}, Lst G h1 aa qq cc n f → Lst G h2 aa qq cc n f := fun hL => Lst.eq hL (g1 _) (g2 _ _ _) (g3 _ _ _) (g1 _) (g4 _) (fun i => g7 _ i)
  have m6 : ¬ D 0 6 = D 0 3 := fun z => by rw [z] at c2; omega
  have m7 : ¬ D 0 7 = D 0 3 := fun z => by rw [z] at c3; omega
  have z0 : ∀ i, i ≠ 9 → bD D S.nb a q cap 0 i = D 0 i := fun i hi => bD_0 hi
  have x0 := z0 0 (by omega)
  have x1 := z0 1 (by omega)
  have x2 := z0 2 (by omega)
  have x3 := z0 3 (by omega)
  have x4 := z0 4 (by omega)
  have x5 := z0 5 (by omega)
  have x6 := z0 6 (by omega)
  have x7 := z0 7 (by omega)
  have x8 := z0 8 (by omega)
  have x10 := z0 10 (by omega)
  have x11 := z0 11 (by omega)
  have y1 : bD D S.nb a q cap 9 1 = D 9 1 := bD_9 (by omega)
  have y2 : bD D S.nb a q cap 9 2 = D 9 2 := bD_9 (by omega)
  have eN : (S.aB (bS x y w d t o)).nb = S.nb + 1 := rfl
  have eL : (S.aB (bS x y w d t o)).nl = S.nl := rfl
  have ef : (S.aB (bS x y w d t o)).lf = S.lf := rfl
  refine ⟨?_, ?_⟩
  · simp only [CA, HA, x0, x1, x2, x3, x4, x5, x6, x7, x8, bD_09, bD_90, x10, x11, y1, y2, bD_1f, bD_2, bD_3, bD_4, bD_5, bD_6, bD_7, g1, g3, g4, eN, eL]
    refine ⟨⟨a1, a2, a3, a4, a5, a6⟩, ⟨b1, b2, b3⟩, ⟨c1, c1'⟩, ⟨c2, c2'⟩, ⟨c3, c3'⟩, ⟨c4, c4'⟩, ⟨gl hL, gl l4, gl l5⟩, fun b hb => ?_, e2, e3, ?_⟩
    · unfold updL
      by_cases z : b = S.nb
      · rw [if_pos z]; exact fa.1.1.trans n0
      · rw [if_neg z]; exact e1 b (by omega)
    · refine ⟨fun b b' hb hb' => ?_, e42, e43, ?_, ?_, fun t i t' i' r1 r2 => ?_⟩
      · have hb2 : b < S.nb + 1 := hb
        have hb2' : b' < S.nb + 1 := hb'
        rw [bD_1f]
        unfold updL
        by_cases z : b = S.nb <;> by_cases z' : b' = S.nb
        · intro _; omega
        · rw [if_pos z, if_neg z']; exact fun v => absurd v.symm (hne b' (by omega))
        · rw [if_neg z, if_pos z']; exact fun v => absurd v (hne b (by omega))
        · rw [if_neg z, if_neg z']; exact e41 b b' (by omega) (by omega)
      · rw [x2, x4, x5]; exact ⟨e441, e442, e443⟩
      · rw [bD_90, bD_09, x10, x11, y2]
        rcases hq with ⟨rfl, v⟩ | v
        · exact ⟨fun _ => e451 v, fun _ => e452 v, e453⟩
        · refine ⟨fun _ z => ?_, fun _ u z => ?_, e453⟩
          · have := q10.1 h10; rw [← z] at this; omega
          · have := q11.1 u; rw [← z] at this; omega
      · rw [bD_rk r1, bD_rk r2]; exact e46 t i t' i' r1 r2
  · refine ⟨?_, ?_, fun o' ho => ?_, fun t' ht => ?_, fun k hk => ?_, fun b hb => ?_, fun l hl => ?_, fun r hr => ?_⟩
    · rw [x0, g2]; exact p1
    · rw [x0, g2]; exact p2
    · rw [x6, g5 _ _ m6]; exact p3 o' ho
    · rw [x7, g5 _ _ m7]; exact p4 t' ht
    · rw [x3, hc k hk, isCov_aB]
      by_cases z : inP x y w d k
      · have z' : x ≤ ((k % 16 : Nat) : Int) ∧ ((k % 16 : Nat) : Int) < x + w ∧ y ≤ ((k / 16 : Nat) : Int) ∧ ((k / 16 : Nat) : Int) < y + d := z
        rw [if_pos z, if_pos z', b2i_t rfl]
      · have z' : ¬ (x ≤ ((k % 16 : Nat) : Int) ∧ ((k % 16 : Nat) : Int) < x + w ∧ y ≤ ((k / 16 : Nat) : Int) ∧ ((k / 16 : Nat) : Int) < y + d) := z
        rw [if_neg z, if_neg z']
        exact p5 k hk
    · have hb' : b < S.nb + 1 := hb
      by_cases z : b = S.nb
      · subst z
        rw [bD_1n]
        simp only [BD, bf_aB, if_true, bS, g2, fa']
        exact ⟨n1, n2, n3, n4, n5, n6, n7, n8⟩
      · rw [bD_1 z]
        simp only [BD, bf_aB, z, if_false, g2]
        exact p6 b (by omega)
    · rw [bD_3]
      simp only [LD, g2, ef]
      exact p7 l hl
    · rw [bD_2]
      simp only [HD, g2]
      exact p8 r hr
theorem WO_bD {D : WD} {S : SS} {a q cap : Nat} {f : Nat → Int} {K : Nat → Prop} (ha : K a) (hq : q = D 0 9 ∨ K q) : ∀ b, WO (bD D S.nb a q cap) (S.aB f) b → WO D S b ∨ K b := fun b hb => by
  rcases hb with ⟨i, hi, e⟩ | ⟨i, hi, e⟩ | ⟨l, hl, e⟩ | ⟨t, r, ht, hr, e⟩
  · by_cases z : i = 9
    · subst z
      rw [bD_09] at e
      rcases hq with y | y
      · exact Or.inl (by rw [e, y]; exact WO.s hi)
      · exact Or.inr (by rw [e]; exact y)
    · rw [bD_0 z] at e
      exact Or.inl (by rw [e]; exact WO.s hi)
  · have hi' : i < S.nb + 1 := hi
    by_cases z : i = S.nb
    · subst z
      rw [bD_1n] at e
      exact Or.inr (by rw [e]; exact ha)
    · rw [bD_1 z] at e
      exact Or.inl (by rw [e]; exact WO.b (by omega))
  · exact Or.inl (by rw [e]; exact WO.l hl)
  · refine Or.inl ?_
    have : bD D S.nb a q cap t r = D t r := by
      unfold bD
      rw [if_neg (by omega), if_neg (by omega), if_neg (by omega)]
    rw [e, this]
    exact WO.h ht hr
/-! free cells -/
theorem frB_of {S : SS} {x y : Int} {w : Nat} (h0 : S.nb < 12) : ∀ n, (∀ j, j < n → isCov S (x + (j % w : Nat)) (y + (j / w : Nat)) = false) → frB S x y w n = true
  | 0, _ => by simp only [frB, decide_eq_true_eq]; exact h0
  | n + 1, h => by
    simp only [frB, Bool.and_eq_true, Bool.not_eq_true']
    exact ⟨frB_of h0 n (fun j hj => h j (by omega)), h n (by omega)⟩
theorem frB_iff {S : SS} {x y : Int} {w d : Nat} (h0 : S.nb < 12) (hn : BPn x y w d) : frB S x y w (w * d) = true ↔ ∀ c, c < 256 → inP x y w d c → isCov S (xC c) (yC c) = false := by
  obtain ⟨⟨x1, x2, x3, x4⟩, ⟨y1, y2, y3, y4⟩⟩ := hn
  constructor
  · intro hf c hc hp
    have hi := frB_i _ hf
    obtain ⟨g1, g2, g3, g4⟩ := hp
    obtain ⟨p, hp⟩ := Int.eq_ofNat_of_zero_le (show 0 ≤ xC c - x by omega)
    obtain ⟨q, hq⟩ := Int.eq_ofNat_of_zero_le (show 0 ≤ yC c - y by omega)
    have hpw : p < w := by omega
    have hqd : q < d := by omega
    have hj : q * w + p < w * d := by
      have : (q + 1) * w ≤ d * w := Nat.mul_le_mul_right w (by omega)
      rw [Nat.add_mul] at this
      rw [Nat.mul_comm w d]
      omega
    have h4 := hi (q * w + p) hj
    rw [show (q * w + p) % w = p by rw [Nat.mul_comm, Nat.mul_add_mod]; exact Nat.mod_eq_of_lt hpw, show (q * w + p) / w = q by rw [Nat.mul_comm, Nat.mul_add_div (by omega), Nat.div_eq_of_lt hpw, Nat.add_zero]] at h4
    rw [show x + (p : Int) = xC c by omega, show y + (q : Int) = yC c by omega] at h4
    exact h4
  · intro hf
    refine frB_of h0 _ (fun j hj => ?_)
    have b1 : j % w < w := Nat.mod_lt _ (by omega)
    have b2 : j / w < d := Nat.div_lt_of_lt_mul hj
    generalize j % w = p at b1 ⊢
    generalize j / w = q at b2 ⊢
    obtain ⟨c0, hc0⟩ := Int.eq_ofNat_of_zero_le (show 0 ≤ (x + (p : Int)) + 16 * (y + (q : Int)) by omega)
    obtain ⟨g1, g2, g3⟩ := cell_xy (u := x + (p : Int)) (v := y + (q : Int)) ⟨by omega, by omega⟩ ⟨by omega, by omega⟩ hc0
    have := hf c0 g1 ⟨by omega, by omega, by omega, by omega⟩
    rw [g2, g3] at this
    exact this

