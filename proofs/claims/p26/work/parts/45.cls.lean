/-! ===== the class: its world. D tag index: 0 single ones (0 the registry, 1 the square, 2 4 5 lists of buildings, hours, leases, 3 the covered row, 6 got, 7 paid, 8 steps, 9 10 11 the lists' arrays), 1 buildings, 2 hours, 3 leases, 4 5 6 7 an hour's holder, layers, areas, given; 9: lengths of the lists' arrays ===== -/
abbrev WD : Type := Nat → Nat → Nat
/-- rows of ints -/
def RK (t i : Nat) : Prop := (t = 0 ∧ 6 ≤ i ∧ i ≤ 8) ∨ (4 ≤ t ∧ t ≤ 7 ∧ i < 12)
def CJ (D : WD) (S : SS) : Prop := (∀ b b', b < S.nb → b' < S.nb → D 1 b = D 1 b' → b = b') ∧ (∀ b b', b < 12 → b' < 12 → D 2 b = D 2 b' → b = b') ∧ (∀ b b', b < S.nl → b' < S.nl → D 3 b = D 3 b' → b = b') ∧
  (D 0 2 ≠ D 0 4 ∧ D 0 2 ≠ D 0 5 ∧ D 0 4 ≠ D 0 5) ∧ ((0 < D 9 0 → D 0 9 ≠ D 0 10) ∧ (0 < D 9 0 → 0 < D 9 2 → D 0 9 ≠ D 0 11) ∧ (0 < D 9 2 → D 0 11 ≠ D 0 10)) ∧ ∀ t i t' i', RK t i → RK t' i' → D t i = D t' i' → t = t' ∧ i = i'
/-- an hour's things -/
def HA (h : Hp) (D : WD) (r : Nat) : Prop := kd h (D 2 r) = 3 ∧ (fr h 2 5 (D 2 r) = some (D 4 r) ∧ fr h 2 6 (D 2 r) = some (D 5 r) ∧ fr h 2 7 (D 2 r) = some (D 0 8) ∧ fr h 2 8 (D 2 r) = some (D 6 r) ∧ fr h 2 12 (D 2 r) = some (D 7 r)) ∧
  (kd h (D 4 r) = 21 ∧ ln h (D 4 r) = 256) ∧ (kd h (D 5 r) = 21 ∧ ln h (D 5 r) = 256) ∧ (kd h (D 6 r) = 21 ∧ ln h (D 6 r) = 12) ∧ (kd h (D 7 r) = 21 ∧ ln h (D 7 r) = 40)
def CA (G : GT) (h : Hp) (D : WD) (S : SS) : Prop := (kd h (D 0 0) = 6 ∧ fr h 5 0 (D 0 0) = some (D 0 1) ∧ fr h 5 1 (D 0 0) = some (D 0 4) ∧ fr h 5 2 (D 0 0) = some (D 0 5) ∧ fr h 5 3 (D 0 0) = some (D 0 6) ∧ fr h 5 4 (D 0 0) = some (D 0 7)) ∧
  (kd h (D 0 1) = 5 ∧ fr h 4 0 (D 0 1) = some (D 0 2) ∧ fr h 4 1 (D 0 1) = some (D 0 3)) ∧ (kd h (D 0 3) = 22 ∧ ln h (D 0 3) = 256) ∧ (kd h (D 0 6) = 21 ∧ ln h (D 0 6) = 8) ∧ (kd h (D 0 7) = 21 ∧ ln h (D 0 7) = 16) ∧ (kd h (D 0 8) = 21 ∧ ln h (D 0 8) = 256) ∧
  (Lst G h (D 0 2) (D 0 9) (D 9 0) S.nb (D 1) ∧ Lst G h (D 0 4) (D 0 10) (D 9 1) 12 (D 2) ∧ Lst G h (D 0 5) (D 0 11) (D 9 2) S.nl (D 3)) ∧ (∀ b, b < S.nb → kd h (D 1 b) = 2) ∧ (∀ r, r < 12 → HA h D r) ∧ (∀ l, l < S.nl → kd h (D 3 l) = 4) ∧ CJ D S
/-- a building, a lease, an hour's sun -/
def BD (h : Hp) (a : Nat) (S : SS) (b : Nat) : Prop := fi h 1 0 a = i32 b ∧ fi h 1 1 a = i32 (S.bf b 0) ∧ fi h 1 2 a = i32 (S.bf b 1) ∧ fi h 1 3 a = i32 (S.bf b 2) ∧ fi h 1 4 a = i32 (S.bf b 3) ∧ fi h 1 5 a = i32 (S.bf b 5) ∧ fi h 1 6 a = i32 (S.bf b 4) ∧ fi h 1 7 a = i32 (S.bf b 6)
def LD (h : Hp) (a : Nat) (S : SS) (l : Nat) : Prop := fi h 3 0 a = i32 l ∧ fi h 3 1 a = i32 (S.lf l 0) ∧ fi h 3 2 a = i32 (S.lf l 1) ∧ fi h 3 3 a = i32 (S.lf l 2) ∧ fi h 3 4 a = i32 (S.lf l 3) ∧ fi h 3 5 a = i32 (S.lf l 4) ∧ fi h 3 6 a = i32 (S.lf l 5) ∧ fi h 3 7 a = i32 (S.lf l 6) ∧ fi h 3 8 a = i32 (S.lf l 7) ∧ fi h 3 9 a = i32 (S.lf l 8)
def HD (h : Hp) (a : Nat) (S : SS) (r : Nat) : Prop := fi h 2 0 a = i32 r ∧ fi h 2 1 a = i32 (S.sn r 0) ∧ fi h 2 2 a = i32 (S.sn r 1) ∧ fi h 2 3 a = i32 (S.sn r 2)
def CB (h : Hp) (D : WD) (S : SS) : Prop := fi h 5 5 (D 0 0) = i32 S.dy ∧ fi h 5 6 (D 0 0) = i32 S.ev ∧ (∀ o, o < 8 → ia h (D 0 6) o = i32 (S.gt o)) ∧ (∀ t, t < 16 → ia h (D 0 7) t = i32 (S.pd t)) ∧
  (∀ k, k < 256 → ia h (D 0 3) k = b2i (isCov S (k % 16 : Nat) (k / 16 : Nat) = true)) ∧ (∀ b, b < S.nb → BD h (D 1 b) S b) ∧ (∀ l, l < S.nl → LD h (D 3 l) S l) ∧ (∀ r, r < 12 → HD h (D 2 r) S r)
/-- an hour measured, allotted -/
def HM (h : Hp) (D : WD) (S : SS) (r : Nat) : Prop := (∀ k, k < 256 → ia h (D 4 r) k = i32 (bel S r k) ∧ ia h (D 5 r) k = i32 (shd S r k)) ∧ (∀ b, b < 12 → ia h (D 6 r) b = i32 (area S b r)) ∧ fi h 2 9 (D 2 r) = i32 (hrT S r 0) ∧ fi h 2 10 (D 2 r) = i32 (hrT S r 1)
def HL (h : Hp) (D : WD) (S : SS) (r : Nat) : Prop := (∀ l, l < S.nl → ia h (D 7 r) l = i32 (gts S l r)) ∧ fi h 2 13 (D 2 r) = i32 (hrT S r 2) ∧ fi h 2 14 (D 2 r) = i32 (hrT S r 3)
def CH (h : Hp) (D : WD) (S : SS) (r : Nat) : Prop := (fi h 2 4 (D 2 r) = i32 0 ∨ fi h 2 4 (D 2 r) = i32 1) ∧ (fi h 2 11 (D 2 r) = i32 0 ∨ fi h 2 11 (D 2 r) = i32 1) ∧ (fi h 2 4 (D 2 r) = i32 1 → HM h D S r) ∧ (fi h 2 11 (D 2 r) = i32 1 → fi h 2 4 (D 2 r) = i32 1 ∧ HL h D S r)
def CI (G : GT) (h : Hp) (D : WD) (S : SS) : Prop := CA G h D S ∧ CB h D S ∧ ∀ r, r < 12 → CH h D S r
/-- only hour r's own rows and numbers have changed -/
def FH (h h' : Hp) (D : WD) (r : Nat) : Prop := (∀ a, kd h' a = kd h a) ∧ (∀ c k a, ¬ (c = 2 ∧ a = D 2 r ∧ (k = 4 ∨ k = 9 ∨ k = 10 ∨ k = 11 ∨ k = 13 ∨ k = 14)) → fi h' c k a = fi h c k a) ∧ (∀ c k a, fr h' c k a = fr h c k a) ∧ (∀ a, ln h' a = ln h a) ∧
  (∀ a i, a ≠ D 0 8 → a ≠ D 4 r → a ≠ D 5 r → a ≠ D 6 r → a ≠ D 7 r → ia h' a i = ia h a i) ∧ (∀ a i, ja h' a i = ja h a i) ∧ (∀ a i, ra h' a i = ra h a i)
theorem FH.rf {h : Hp} {D : WD} {r : Nat} : FH h h D r := ⟨fun _ => rfl, fun _ _ _ _ => rfl, fun _ _ _ => rfl, fun _ => rfl, fun _ _ _ _ _ _ _ => rfl, fun _ _ => rfl, fun _ _ => rfl⟩
theorem FH.tr {h h' h'' : Hp} {D : WD} {r : Nat} (f : FH h h' D r) (g : FH h' h'' D r) : FH h h'' D r := ⟨fun a => (g.1 a).trans (f.1 a), fun c k a q => (g.2.1 c k a q).trans (f.2.1 c k a q), fun c k a => (g.2.2.1 c k a).trans (f.2.2.1 c k a), fun a => (g.2.2.2.1 a).trans (f.2.2.2.1 a), fun a i q1 q2 q3 q4 q5 => (g.2.2.2.2.1 a i q1 q2 q3 q4 q5).trans (f.2.2.2.2.1 a i q1 q2 q3 q4 q5), fun a i => (g.2.2.2.2.2.1 a i).trans (f.2.2.2.2.2.1 a i), fun a i => (g.2.2.2.2.2.2 a i).trans (f.2.2.2.2.2.2 a i)⟩
theorem FH.sI {h : Hp} {D : WD} {r k : Nat} {v : Int32} (hk : k = 4 ∨ k = 9 ∨ k = 10 ∨ k = 11 ∨ k = 13 ∨ k = 14) : FH h (setI h 2 k (D 2 r) v) D r := ⟨fun _ => rfl, fun c k' a q => by rw [fi_setI, if_neg (fun z => q ⟨z.1, z.2.2, by rw [z.2.1]; exact hk⟩)], fun _ _ _ => rfl, fun _ => rfl, fun _ _ _ _ _ _ _ => rfl, fun _ _ => rfl, fun _ _ => rfl⟩
theorem FH.sA {h : Hp} {D : WD} {r a i : Nat} {v : Int32} (ha : a = D 0 8 ∨ a = D 4 r ∨ a = D 5 r ∨ a = D 6 r ∨ a = D 7 r) : FH h (setIA h a i v) D r := ⟨fun _ => rfl, fun _ _ _ _ => rfl, fun _ _ _ => rfl, fun _ => rfl, fun a' i' q1 q2 q3 q4 q5 => by rw [ia_setIA, if_neg (fun z => by have e := z.1; subst e; omega)], fun _ _ => rfl, fun _ _ => rfl⟩
theorem CA.fh {G : GT} {h h' : Hp} {D : WD} {S : SS} {r : Nat} (hA : CA G h D S) (f : FH h h' D r) : CA G h' D S := by
  obtain ⟨g1, g2, g3, g4, g5, g6, g7⟩ := f
  obtain ⟨⟨a1, a2, a3, a4, a5, a6⟩, ⟨b1, b2, b3⟩, c1, c2, c3, c4, ⟨d1, d2, d3⟩, e1, e2, e3, e4⟩ := hA
  have gl : ∀ {a q cap n f}, Lst G h a q cap n f → Lst G h' a q cap n f := fun hL => hL.eq (g1 _) (g2 _ _ _ (by omega)) (g3 _ _ _) (g1 _) (g4 _) (fun i => g7 _ i)
  simp only [CA, HA, g1, g3, g4]
  exact ⟨⟨a1, a2, a3, a4, a5, a6⟩, ⟨b1, b2, b3⟩, c1, c2, c3, c4, ⟨gl d1, gl d2, gl d3⟩, e1, e2, e3, e4⟩
theorem CB.fh {G : GT} {h h' : Hp} {D : WD} {S : SS} {r : Nat} (hB : CB h D S) (hA : CA G h D S) (hr : r < 12) (f : FH h h' D r) : CB h' D S := by
  obtain ⟨g1, g2, g3, g4, g5, g6, g7⟩ := f
  obtain ⟨⟨a1, a2, a3, a4, a5, a6⟩, ⟨b1, b2, b3⟩, c1, c2, c3, c4, ⟨d1, d2, d3⟩, e1, e2, e3, e4⟩ := hA
  obtain ⟨p1, p2, p3, p4, p5, p6, p7, p8⟩ := hB
  have hJ := e4.2.2.2.2.2
  have n6 : ∀ t i, RK 0 6 → RK t i → t ≠ 0 ∨ i ≠ 6 → D 0 6 ≠ D t i := fun t i q1 q2 q3 q4 => by have := hJ 0 6 t i q1 q2 q4; omega
  have n7 : ∀ t i, RK 0 7 → RK t i → t ≠ 0 ∨ i ≠ 7 → D 0 7 ≠ D t i := fun t i q1 q2 q3 q4 => by have := hJ 0 7 t i q1 q2 q4; omega
  have r6 : RK 0 6 := Or.inl (by omega)
  have r7 : RK 0 7 := Or.inl (by omega)
  have r8 : RK 0 8 := Or.inl (by omega)
  have rt : ∀ t, 4 ≤ t → t ≤ 7 → RK t r := fun t h1 h2 => Or.inr ⟨h1, h2, hr⟩
  have h2 := e2 r hr
  have n3 : ∀ a, kd h a = 21 → D 0 3 ≠ a := fun a h1 h2 => by rw [← h2, c1.1] at h1; cases h1
  refine ⟨(g2 _ _ _ (by omega)).trans p1, (g2 _ _ _ (by omega)).trans p2, fun o ho => ?_, fun t ht => ?_, fun k hk => ?_, fun b hb => ?_, fun l hl => ?_, fun r' hr' => ?_⟩
  · rw [g5 _ _ (n6 _ _ r6 r8 (by omega)) (n6 _ _ r6 (rt 4 (by omega) (by omega)) (by omega)) (n6 _ _ r6 (rt 5 (by omega) (by omega)) (by omega)) (n6 _ _ r6 (rt 6 (by omega) (by omega)) (by omega)) (n6 _ _ r6 (rt 7 (by omega) (by omega)) (by omega))]
    exact p3 o ho
  · rw [g5 _ _ (n7 _ _ r7 r8 (by omega)) (n7 _ _ r7 (rt 4 (by omega) (by omega)) (by omega)) (n7 _ _ r7 (rt 5 (by omega) (by omega)) (by omega)) (n7 _ _ r7 (rt 6 (by omega) (by omega)) (by omega)) (n7 _ _ r7 (rt 7 (by omega) (by omega)) (by omega))]
    exact p4 t ht
  · rw [g5 _ _ (n3 _ c4.1) (n3 _ h2.2.2.1.1) (n3 _ h2.2.2.2.1.1) (n3 _ h2.2.2.2.2.1.1) (n3 _ h2.2.2.2.2.2.1)]
    exact p5 k hk
  · have q := fun k => g2 1 k (D 1 b) (by omega)
    simp only [BD, q]
    exact p6 b hb
  · have q := fun k => g2 3 k (D 3 l) (by omega)
    simp only [LD, q]
    exact p7 l hl
  · obtain ⟨q1, q2, q3, q4⟩ := p8 r' hr'
    exact ⟨(g2 _ _ _ (by omega)).trans q1, (g2 _ _ _ (by omega)).trans q2, (g2 _ _ _ (by omega)).trans q3, (g2 _ _ _ (by omega)).trans q4⟩
theorem CH.fh {G : GT} {h h' : Hp} {D : WD} {S : SS} {r r' : Nat} (hH : CH h D S r') (hA : CA G h D S) (hr : r < 12) (hr' : r' < 12) (ne : r' ≠ r) (f : FH h h' D r) : CH h' D S r' := by
  obtain ⟨g1, g2, g3, g4, g5, g6, g7⟩ := f
  obtain ⟨⟨a1, a2, a3, a4, a5, a6⟩, ⟨b1, b2, b3⟩, c1, c2, c3, c4, ⟨d1, d2, d3⟩, e1, e2, e3, e4⟩ := hA
  have hJ := e4.2.2.2.2.2
  have n2 : D 2 r' ≠ D 2 r := fun q => ne (e4.2.1 r' r hr' hr q)
  have gf : ∀ k, fi h' 2 k (D 2 r') = fi h 2 k (D 2 r') := fun k => g2 _ _ _ (fun q => n2 q.2.1)
  have r8 : RK 0 8 := Or.inl (by omega)
  have ga : ∀ t, 4 ≤ t → t ≤ 7 → ∀ i, ia h' (D t r') i = ia h (D t r') i := fun t h1 h2 i => by
    have rt : RK t r' := Or.inr ⟨h1, h2, hr'⟩
    have nt : ∀ t', 4 ≤ t' → t' ≤ 7 → D t r' ≠ D t' r := fun t' q1 q2 q => ne (hJ t r' t' r rt (Or.inr ⟨q1, q2, hr⟩) q).2
    exact g5 _ _ (fun q => by have := hJ t r' 0 8 rt r8 q; omega) (nt 4 (by omega) (by omega)) (nt 5 (by omega) (by omega)) (nt 6 (by omega) (by omega)) (nt 7 (by omega) (by omega))
  simp only [CH, HM, HL, gf, ga 4 (by omega) (by omega), ga 5 (by omega) (by omega), ga 6 (by omega) (by omega), ga 7 (by omega) (by omega)]
  exact hH
theorem CI.fh {G : GT} {h h' : Hp} {D : WD} {S : SS} {r : Nat} (hI : CI G h D S) (hr : r < 12) (f : FH h h' D r) (hH : CH h' D S r) : CI G h' D S :=
  ⟨hI.1.fh f, hI.2.1.fh hI.1 hr f, fun r' hr' => if q : r' = r then q ▸ hH else (hI.2.2 r' hr').fh hI.1 hr hr' q f⟩

