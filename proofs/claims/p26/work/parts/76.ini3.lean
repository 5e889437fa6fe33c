/-! ===== the class's constructor: its world with n hours ===== -/
def RKn (n t i : Nat) : Prop := (t = 0 ∧ 6 ≤ i ∧ i ≤ 8) ∨ (4 ≤ t ∧ t ≤ 7 ∧ i < n)
def CQ (G : GT) (h0 g : Hp) (D : WD) (n : Nat) : Prop :=
  ((kd g (D 0 0) = 6 ∧ fr g 5 0 (D 0 0) = some (D 0 1) ∧ fr g 5 1 (D 0 0) = some (D 0 4) ∧ fr g 5 2 (D 0 0) = some (D 0 5) ∧ fr g 5 3 (D 0 0) = some (D 0 6) ∧ fr g 5 4 (D 0 0) = some (D 0 7)) ∧
  (kd g (D 0 1) = 5 ∧ fr g 4 0 (D 0 1) = some (D 0 2) ∧ fr g 4 1 (D 0 1) = some (D 0 3)) ∧ (kd g (D 0 3) = 22 ∧ ln g (D 0 3) = 256) ∧ (kd g (D 0 6) = 21 ∧ ln g (D 0 6) = 8) ∧ (kd g (D 0 7) = 21 ∧ ln g (D 0 7) = 16) ∧ (kd g (D 0 8) = 21 ∧ ln g (D 0 8) = 256)) ∧
  (Lst G g (D 0 2) (D 0 9) 0 0 (D 1) ∧ Lst G g (D 0 4) (D 0 10) (D 9 1) n (D 2) ∧ Lst G g (D 0 5) (D 0 11) 0 0 (D 3)) ∧ (∀ r, r < n → HA g D r) ∧
  ((∀ b b', b < n → b' < n → D 2 b = D 2 b' → b = b') ∧ (D 0 2 ≠ D 0 4 ∧ D 0 2 ≠ D 0 5 ∧ D 0 4 ≠ D 0 5) ∧ (D 9 0 = 0 ∧ D 9 2 = 0) ∧ ∀ t i t' i', RKn n t i → RKn n t' i' → D t i = D t' i' → t = t' ∧ i = i') ∧
  (fi g 5 5 (D 0 0) = i32 0 ∧ fi g 5 6 (D 0 0) = i32 0 ∧ (∀ o, o < 8 → ia g (D 0 6) o = i32 0) ∧ (∀ t, t < 16 → ia g (D 0 7) t = i32 0) ∧ (∀ k, k < 256 → ia g (D 0 3) k = i32 0) ∧ ∀ r, r < n → HD g (D 2 r) (SI 12) r ∧ fi g 2 4 (D 2 r) = i32 0 ∧ fi g 2 11 (D 2 r) = i32 0) ∧
  (kd h0 (D 0 0) = 6 ∧ Fr h0 g (fun a => a = D 0 0) ∧ (∀ i, 1 ≤ i → i ≤ 11 → kd h0 (D 0 i) = 0) ∧ ∀ t r, (t = 2 ∨ 4 ≤ t ∧ t ≤ 7) → r < n → kd h0 (D t r) = 0)
theorem CQ.fin {G : GT} {h0 g : Hp} {D : WD} (hC : CQ G h0 g D 12) : CI G g D (SI 12) ∧ Fr h0 g (fun a => a = D 0 0) ∧ ∀ a, WO D (SI 12) a → a = D 0 0 ∨ kd h0 a = 0 := by
  obtain ⟨⟨a1, a2, a3, a4, a5, a6⟩, ⟨d1, d2, d3⟩, eA, ⟨j1, j2, ⟨j3, j4⟩, j5⟩, ⟨p1, p2, p3, p4, p5, p6⟩, k0, f, z1, z2⟩ := hC
  have n0 : ∀ b, ¬ b < (SI 12).nb := fun b => Nat.not_lt_zero b
  have l0 : ∀ b, ¬ b < (SI 12).nl := fun b => Nat.not_lt_zero b
  have ne : ¬ i32 0 = i32 1 := by rw [i32_eq (by omega) (by omega)]; omega
  refine ⟨⟨⟨a1, a2, a3, a4, a5, a6, ⟨by rw [j3]; exact d1, d2, by rw [j4]; exact d3⟩, fun b hb => absurd hb (n0 b), eA, fun l hl => absurd hl (l0 l), fun b b' hb => absurd hb (n0 b), j1, fun b b' hb => absurd hb (l0 b), j2, ⟨fun z => absurd z (by omega), fun z => absurd z (by omega), fun z => absurd z (by omega)⟩, j5⟩, ⟨p1, p2, p3, p4, fun k hk => ?_, fun b hb => absurd hb (n0 b), fun l hl => absurd hl (l0 l), fun r hr => (p6 r hr).1⟩, fun r hr => ⟨Or.inl (p6 r hr).2.1, Or.inl (p6 r hr).2.2, fun y => absurd ((p6 r hr).2.1.symm.trans y) ne, fun y => absurd ((p6 r hr).2.2.symm.trans y) ne⟩⟩, f, fun a ha => ?_⟩
  · rw [p5 k hk, b2i_f (fun z => by cases z)]
  · rcases ha with ⟨i, hi, rfl⟩ | ⟨i, hi, rfl⟩ | ⟨i, hi, rfl⟩ | ⟨t, r, ht, hr, rfl⟩
    · rcases Nat.eq_zero_or_pos i with z | z
      · subst z; exact Or.inl rfl
      · exact Or.inr (z1 i z hi)
    · exact absurd hi (n0 i)
    · exact absurd hi (l0 i)
    · exact Or.inr (z2 t r ht hr)
/-- the world with one more hour -/
def hD (D : WD) (n a : Nat) (R : Nat → Nat) (q cap : Nat) : WD := fun t i => if t = 2 then (if i = n then a else D 2 i) else if t = 0 then (if i = 10 then q else D 0 i) else if t = 9 then (if i = 1 then cap else D 9 i) else if i = n then R t else D t i
section HDW
variable {D : WD} {n a q cap : Nat} {R : Nat → Nat}
theorem hD_0 {i : Nat} (hi : i ≠ 10) : hD D n a R q cap 0 i = D 0 i := by show (if i = 10 then q else D 0 i) = _; rw [if_neg hi]
theorem hD_010 : hD D n a R q cap 0 10 = q := rfl
theorem hD_91 : hD D n a R q cap 9 1 = cap := rfl
theorem hD_9 {i : Nat} (hi : i ≠ 1) : hD D n a R q cap 9 i = D 9 i := by show (if i = 1 then cap else D 9 i) = _; rw [if_neg hi]
theorem hD_2n : hD D n a R q cap 2 n = a := by show (if n = n then a else D 2 n) = _; rw [if_pos rfl]
theorem hD_2 {i : Nat} (hi : i ≠ n) : hD D n a R q cap 2 i = D 2 i := by show (if i = n then a else D 2 i) = _; rw [if_neg hi]
theorem hD_2f : hD D n a R q cap 2 = updL (D 2) n a := rfl
theorem hD_tn {t : Nat} (ht : 4 ≤ t ∧ t ≤ 7) : hD D n a R q cap t n = R t := by
  unfold hD
  rw [if_neg (by omega), if_neg (by omega), if_neg (by omega), if_pos rfl]
theorem hD_t {t i : Nat} (ht : 4 ≤ t ∧ t ≤ 7) (hi : i ≠ n) : hD D n a R q cap t i = D t i := by
  unfold hD
  rw [if_neg (by omega), if_neg (by omega), if_neg (by omega), if_neg hi]
end HDW
theorem CQ.s {G : GT} {h0 g h1 h2 : Hp} {D : WD} {n a q cap : Nat} {R : Nat → Nat} (hC : CQ G h0 g D n) (hn : n < 12) (ha : kd g a = 0) (f1 : HNew (newO g a 2) h1 a (D 0 8) n R) (f2 : Fr h1 h2 (fun b => b = D 0 4 ∨ b = D 0 10)) (hE : kd h2 G.2.2.1.2.1 = 0) (hq : q = D 0 10 ∧ 0 < D 9 1 ∨ kd h1 q = 0) (hL : Lst G h2 (D 0 4) q cap (n + 1) (updL (D 2) n a)) : CQ G h0 h2 (hD D n a R q cap) (n + 1) := by
  obtain ⟨⟨⟨a1, a1b, a1c, a1d, a1e, a1f⟩, ⟨a2, a2b, a2c⟩, ⟨a3, a3b⟩, ⟨a4, a4b⟩, ⟨a5, a5b⟩, ⟨a6, a6b⟩⟩, ⟨d1, d2, d3⟩, eA, ⟨j1, j2, ⟨j3, j4⟩, j5⟩, ⟨p1, p2, p3, p4, p5, p6⟩, k0, f, z1, z2⟩ := hC
  obtain ⟨g1, g2, g3, ⟨g4, g5, g6, g7, g8⟩, ⟨u0, u1, u2, u3, u4, u5⟩⟩ := f1
  have k2 := d1.1
  have k4 := d2.1
  have k5 := d3.1
  have q10 := d2.kq
  have e9 := (d1.2.2.2.2.1 rfl)
  have e11 := (d3.2.2.2.2.1 rfl)
  have fg1 : Fr g h1 (fun _ => False) := (Fr.nO ha).nw g1 (fun b e => Or.inr (e ▸ ha))
  have fg2 : Fr g h2 (fun b => b = D 0 4 ∨ b = D 0 10) := (fg1.up (fun _ z => z.elim)).tr f2
  have hx := fun b (hk : kd g b ≠ 0) => (fg2 b hk).1
  have hy := fun b (hk : kd g b ≠ 0 ∧ kd g b ≠ 1 ∧ kd g b ≠ 24) => (fg2 b hk.1).2 (fun z => by
    rcases z with z | z
    · rw [z] at hk; omega
    · rw [z] at hk; rcases q10.2 with y | y <;> omega)
  have ka : kd h1 a = 3 := by rw [(g1 a (by rw [kd_newO, if_pos rfl]; omega)).1.1, kd_newO, if_pos rfl]
  have hxa := (f2 a (by omega)).1
  have hya := (f2 a (by omega)).2 (fun z => by
    rcases z with z | z
    · rw [z] at ha; omega
    · rw [z] at ha ka
      rcases Nat.eq_zero_or_pos (D 9 1) with y | y
      · have := (d2.2.2.2.2.1 y).1
        have hE1 : kd h1 G.2.2.1.2.1 = 0 := f2.kz hE
        rw [← this] at hE1; omega
      · have := q10.1 y; omega)
  have fR : ∀ t, 4 ≤ t → t < 8 → (kd g (R t) = 0 ∧ R t ≠ a) := fun t t1 t2 => by
    obtain ⟨-, -, y⟩ := g2 t t1 t2
    rw [kd_newO] at y
    by_cases z : R t = a
    · rw [if_pos z] at y; omega
    · rw [if_neg z] at y; exact ⟨y, z⟩
  have hxR : ∀ t, 4 ≤ t → t < 8 → kd h2 (R t) = 21 ∧ ln h2 (R t) = hLn t := fun t t1 t2 => by
    obtain ⟨y1, y2, -⟩ := g2 t t1 t2
    have := (f2 (R t) (by omega)).1
    exact ⟨this.1.trans y1, this.2.trans y2⟩
  have fz : ∀ b, kd g b = 0 → b ≠ D 0 0 → kd h0 b = 0 := fun b hb _ => f.kz hb
  have na : a ≠ D 0 0 := fun z => by rw [z] at ha; omega
  have x0 : ∀ i, i ≠ 10 → hD D n a R q cap 0 i = D 0 i := fun i hi => hD_0 hi
  have v0 := x0 0 (by omega)
  have v1 := x0 1 (by omega)
  have v2 := x0 2 (by omega)
  have v3 := x0 3 (by omega)
  have v4 := x0 4 (by omega)
  have v5 := x0 5 (by omega)
  have v6 := x0 6 (by omega)
  have v7 := x0 7 (by omega)
  have v8 := x0 8 (by omega)
  have v9 := x0 9 (by omega)
  have v11 := x0 11 (by omega)
  have w0 : hD D n a R q cap 9 0 = D 9 0 := hD_9 (by omega)
  have w2 : hD D n a R q cap 9 2 = D 9 2 := hD_9 (by omega)
  have hq0 : q = D 0 10 ∨ kd g q = 0 := hq.elim (fun z => Or.inl z.1) (fun z => Or.inr (fg1.kz z))
  refine ⟨?_, ?_, fun r hr => ?_, ?_, ?_, ?_⟩
  · simp only [v0, v1, v2, v3, v4, v5, v6, v7, v8]
    have y0 := (hy (D 0 0) (by omega)).2.1
    have y1 := (hy (D 0 1) (by omega)).2.1
    exact ⟨⟨(hx _ (by omega)).1.trans a1, (y0 _ _).trans a1b, (y0 _ _).trans a1c, (y0 _ _).trans a1d, (y0 _ _).trans a1e, (y0 _ _).trans a1f⟩, ⟨(hx _ (by omega)).1.trans a2, (y1 _ _).trans a2b, (y1 _ _).trans a2c⟩, ⟨(hx _ (by omega)).1.trans a3, (hx _ (by omega)).2.trans a3b⟩, ⟨(hx _ (by omega)).1.trans a4, (hx _ (by omega)).2.trans a4b⟩, ⟨(hx _ (by omega)).1.trans a5, (hx _ (by omega)).2.trans a5b⟩, ⟨(hx _ (by omega)).1.trans a6, (hx _ (by omega)).2.trans a6b⟩⟩
  · simp only [v2, v4, v5, v9, v11, hD_010, hD_91, hD_2f]
    have m1 : Lst G h2 (D 0 2) (D 0 9) 0 0 (D 1) := d1.fr2 hE fg2 (fun z => by
      rcases z with z | z
      · exact j2.1 z
      · rw [z] at k2; rcases q10.2 with y | y <;> omega) (fun z => by omega)
    have m3 : Lst G h2 (D 0 5) (D 0 11) 0 0 (D 3) := d3.fr2 hE fg2 (fun z => by
      rcases z with z | z
      · exact j2.2.2 z.symm
      · rw [z] at k5; rcases q10.2 with y | y <;> omega) (fun z => by omega)
    exact ⟨⟨m1.1, m1.2.1, m1.2.2.1, m1.2.2.2.1, m1.2.2.2.2.1, m1.2.2.2.2.2.1, fun i hi => by omega⟩, hL, ⟨m3.1, m3.2.1, m3.2.2.1, m3.2.2.2.1, m3.2.2.2.2.1, m3.2.2.2.2.2.1, fun i hi => by omega⟩⟩
  · by_cases z : r = n
    · subst z
      have c4 := hxR 4 (by omega) (by omega)
      have c5 := hxR 5 (by omega) (by omega)
      have c6 := hxR 6 (by omega) (by omega)
      have c7 := hxR 7 (by omega) (by omega)
      simp only [HA, hD_2n, hD_tn (show 4 ≤ 4 ∧ 4 ≤ 7 by omega), hD_tn (show 4 ≤ 5 ∧ 5 ≤ 7 by omega), hD_tn (show 4 ≤ 6 ∧ 6 ≤ 7 by omega), hD_tn (show 4 ≤ 7 ∧ 7 ≤ 7 by omega), v8]
      exact ⟨hxa.1.trans ka, ⟨(hya.2.1 _ _).trans g4, (hya.2.1 _ _).trans g5, (hya.2.1 _ _).trans g6, (hya.2.1 _ _).trans g7, (hya.2.1 _ _).trans g8⟩, c4, c5, c6, c7⟩
    · obtain ⟨k, ⟨r5, r6, r7, r8, r12⟩, ⟨t4, l4⟩, ⟨t5, l5⟩, ⟨t6, l6⟩, ⟨t7, l7⟩⟩ := eA r (by omega)
      have yy := (hy (D 2 r) (by omega)).2.1
      simp only [HA, hD_2 z, hD_t (show 4 ≤ 4 ∧ 4 ≤ 7 by omega) z, hD_t (show 4 ≤ 5 ∧ 5 ≤ 7 by omega) z, hD_t (show 4 ≤ 6 ∧ 6 ≤ 7 by omega) z, hD_t (show 4 ≤ 7 ∧ 7 ≤ 7 by omega) z, v8]
      exact ⟨(hx _ (by omega)).1.trans k, ⟨(yy _ _).trans r5, (yy _ _).trans r6, (yy _ _).trans r7, (yy _ _).trans r8, (yy _ _).trans r12⟩, ⟨(hx _ (by omega)).1.trans t4, (hx _ (by omega)).2.trans l4⟩, ⟨(hx _ (by omega)).1.trans t5, (hx _ (by omega)).2.trans l5⟩, ⟨(hx _ (by omega)).1.trans t6, (hx _ (by omega)).2.trans l6⟩, ⟨(hx _ (by omega)).1.trans t7, (hx _ (by omega)).2.trans l7⟩⟩
  · have kD2 : ∀ r, r < n → kd g (D 2 r) = 3 := fun r hr => (eA r hr).1
    have kRK : ∀ t i, RKn n t i → kd g (D t i) = 21 := fun t i ht => by
      rcases ht with ⟨rfl, h1, h2⟩ | ⟨h1, h2, h3⟩
      · rcases (show i = 6 ∨ i = 7 ∨ i = 8 by omega) with rfl | rfl | rfl <;> assumption
      · obtain ⟨k, -, ⟨t4, -⟩, ⟨t5, -⟩, ⟨t6, -⟩, ⟨t7, -⟩⟩ := eA i h3
        rcases (show t = 4 ∨ t = 5 ∨ t = 6 ∨ t = 7 by omega) with rfl | rfl | rfl | rfl <;> assumption
    have cs : ∀ t i, RKn (n + 1) t i → (RKn n t i ∧ hD D n a R q cap t i = D t i) ∨ (4 ≤ t ∧ t ≤ 7 ∧ i = n ∧ hD D n a R q cap t i = R t) := fun t i ht => by
      rcases ht with ⟨rfl, h1, h2⟩ | ⟨h1, h2, h3⟩
      · exact Or.inl ⟨Or.inl ⟨rfl, h1, h2⟩, hD_0 (by omega)⟩
      · by_cases z : i = n
        · subst z; exact Or.inr ⟨h1, h2, rfl, hD_tn ⟨h1, h2⟩⟩
        · exact Or.inl ⟨Or.inr ⟨h1, h2, by omega⟩, hD_t ⟨h1, h2⟩ z⟩
    refine ⟨fun b b' hb hb' => ?_, by rw [v2, v4, v5]; exact j2, by rw [w0, w2]; exact ⟨j3, j4⟩, fun t i t' i' r1 r2 e => ?_⟩
    · rw [hD_2f]
      unfold updL
      by_cases y : b = n <;> by_cases y' : b' = n
      · intro _; omega
      · rw [if_pos y, if_neg y']; intro e; have := kD2 b' (by omega); rw [← e] at this; omega
      · rw [if_neg y, if_pos y']; intro e; have := kD2 b (by omega); rw [e] at this; omega
      · rw [if_neg y, if_neg y']; exact j1 b b' (by omega) (by omega)
    · rcases cs t i r1 with ⟨s1, s2⟩ | ⟨s1, s2, s3, s4⟩ <;> rcases cs t' i' r2 with ⟨s1', s2'⟩ | ⟨s1', s2', s3', s4'⟩
      · rw [s2, s2'] at e; exact j5 t i t' i' s1 s1' e
      · rw [s2, s4'] at e; have y := kRK t i s1; rw [e, (fR t' s1' (by omega)).1] at y; omega
      · rw [s4, s2'] at e; have y := kRK t' i' s1'; rw [← e, (fR t s1 (by omega)).1] at y; omega
      · rw [s4, s4'] at e
        exact ⟨g3 t t' s1 (by omega) s1' (by omega) e, by omega⟩
  · simp only [v0, v3, v6, v7]
    have y0 := (hy (D 0 0) (by omega)).1
    refine ⟨(y0 _ _).trans p1, (y0 _ _).trans p2, fun o ho => ((hy (D 0 6) (by omega)).2.2.1 _).trans (p3 o ho), fun t ht => ((hy (D 0 7) (by omega)).2.2.1 _).trans (p4 t ht), fun k hk => ((hy (D 0 3) (by omega)).2.2.1 _).trans (p5 k hk), fun r hr => ?_⟩
    by_cases z : r = n
    · subst z
      have e : ∀ k, (SI 12).sn r k = sun0 r k := fun k => by
        show (if r < 12 then sun0 r k else 0) = _
        rw [if_pos hn]
      rw [hD_2n]
      simp only [HD, hya.1, e]
      exact ⟨⟨u0, u1, u2, u3⟩, u4, u5⟩
    · have yy := (hy (D 2 r) (by have := (eA r (by omega)).1; omega)).1
      rw [hD_2 z]
      simp only [HD, yy]
      exact p6 r (by omega)
  · refine ⟨by rw [v0]; exact k0, ?_, fun i h1 h2 => ?_, fun t r ht hr => ?_⟩
    · rw [v0]
      refine f.nw fg2 (fun b e => ?_)
      rcases e with e | e
      · exact Or.inr (by rw [e]; exact z1 4 (by omega) (by omega))
      · exact Or.inr (by rw [e]; exact z1 10 (by omega) (by omega))
    · by_cases z : i = 10
      · subst z
        rw [hD_010]
        rcases hq0 with y | y
        · rw [y]; exact z1 10 (by omega) (by omega)
        · exact f.kz y
      · rw [hD_0 z]; exact z1 i h1 h2
    · by_cases z : r = n
      · subst z
        rcases ht with rfl | ht
        · rw [hD_2n]; exact f.kz ha
        · rw [hD_tn ht]; exact f.kz (fR t ht.1 (by omega)).1
      · rcases ht with rfl | ht
        · rw [hD_2 z]; exact z2 2 r (Or.inl rfl) (by omega)
        · rw [hD_t ht z]; exact z2 t r (Or.inr ht) (by omega)

