/-! ===== the class and the law's square side by side ===== -/
theorem CI.kz {G : GT} {h : Hp} {D : WD} {S : SS} (hI : CI G h D S) {a : Nat} (ha : WO D S a) : kd h a ≠ 0 ∨ a = G.2.2.1.2.1 := by
  obtain ⟨⟨⟨a1, -⟩, ⟨b1, -⟩, ⟨c1, -⟩, ⟨c2, -⟩, ⟨c3, -⟩, ⟨c4, -⟩, ⟨d1, d2, d3⟩, e1, e2, e3, e4⟩, -, -⟩ := hI
  have lst : ∀ {x q cap n f}, Lst G h x q cap n f → kd h q ≠ 0 ∨ q = G.2.2.1.2.1 := fun {x q cap n f} hL => by
    rcases Nat.eq_zero_or_pos cap with z | z
    · exact Or.inr (hL.2.2.2.2.1 z).1
    · exact Or.inl (by rw [(hL.2.2.2.2.2.1 z).1]; omega)
  rcases ha with ⟨i, hi, rfl⟩ | ⟨i, hi, rfl⟩ | ⟨i, hi, rfl⟩ | ⟨t, r, ht, hr, rfl⟩
  · rcases (show i = 0 ∨ i = 1 ∨ i = 2 ∨ i = 3 ∨ i = 4 ∨ i = 5 ∨ i = 6 ∨ i = 7 ∨ i = 8 ∨ i = 9 ∨ i = 10 ∨ i = 11 by omega) with rfl | rfl | rfl | rfl | rfl | rfl | rfl | rfl | rfl | rfl | rfl | rfl
    · exact Or.inl (by rw [a1]; omega)
    · exact Or.inl (by rw [b1]; omega)
    · exact Or.inl (by rw [d1.1]; omega)
    · exact Or.inl (by rw [c1]; omega)
    · exact Or.inl (by rw [d2.1]; omega)
    · exact Or.inl (by rw [d3.1]; omega)
    · exact Or.inl (by rw [c2]; omega)
    · exact Or.inl (by rw [c3]; omega)
    · exact Or.inl (by rw [c4]; omega)
    · exact lst d1
    · exact lst d2
    · exact lst d3
  · exact Or.inl (by rw [e1 i hi]; omega)
  · exact Or.inl (by rw [e3 i hi]; omega)
  · obtain ⟨k, -, ⟨k4, -⟩, ⟨k5, -⟩, ⟨k6, -⟩, ⟨k7, -⟩⟩ := e2 r hr
    rcases (show t = 2 ∨ t = 4 ∨ t = 5 ∨ t = 6 ∨ t = 7 by omega) with rfl | rfl | rfl | rfl | rfl
    · exact Or.inl (by rw [k]; omega)
    · exact Or.inl (by rw [k4]; omega)
    · exact Or.inl (by rw [k5]; omega)
    · exact Or.inl (by rw [k6]; omega)
    · exact Or.inl (by rw [k7]; omega)
/-- no cells -/
def hp0 : Hp := (fun _ => 0, fun _ _ _ => 0, fun _ _ _ => none, fun _ => 0, fun _ _ => 0, fun _ _ => 0, fun _ _ => none)
theorem kd_hp0 (a : Nat) : kd hp0 a = 0 := rfl
/-- a row in the making: fresh against h, its ints f -/
def RQ (h g : Hp) (q n : Nat) (f : Nat → Int32) : Prop := kd h q = 0 ∧ Fr h g (fun _ => False) ∧ kd g q = 21 ∧ ln g q = n ∧ ∀ k, ia g q k = f k
theorem RQ.nw {h : Hp} {q n : Nat} (hq : kd h q = 0) : RQ h (newA h q 21 n) q n (fun _ => 0) := ⟨hq, Fr.nA hq, by rw [kd_newA, if_pos rfl], by rw [ln_newA, if_pos rfl], fun k => by rw [ia_newA, if_pos rfl]⟩
theorem RQ.st {h g : Hp} {q n i : Nat} {v : Int32} {f : Nat → Int32} (H : RQ h g q n f) : RQ h (setIA g q i v) q n (fun k => if k = i then v else f k) := by
  obtain ⟨h0, h1, h2, h3, h4⟩ := H
  refine ⟨h0, h1.nw (W2 := fun x => x = q) (Fr.sA rfl) (fun x e => Or.inr (e ▸ h0)), h2, h3, fun k => ?_⟩
  rw [ia_setIA]
  show _ = if k = i then v else f k
  by_cases e : k = i
  · rw [if_pos ⟨rfl, e⟩, if_pos e]
  · rw [if_neg (fun z => e z.2), if_neg e, h4]
def BJ (G : GT) (h : Hp) (D : WD) (T : TT) (S : SS) : Prop := CI G h D S ∧ SQ h T S ∧ ∀ a, SA T S a → ¬ WO D S a
theorem SQ.ka {h : Hp} {T : TT} {S : SS} (hq : SQ h T S) {a : Nat} (ha : SA T S a) : kd h a ≠ 0 := by
  rcases ha with ha | ⟨r, hr, e⟩
  · exact hq.kn ha
  · obtain ⟨-, ⟨m1, m2, m3, m4, m5⟩, -⟩ := hq
    rcases e with e | e
    · rw [e, (m4.2.2 r hr).2.1]; omega
    · rw [e, (m5.2.2 r hr).2.1]; omega
/-- the class changes: what it writes is its own -/
theorem BJ.cl {G : GT} {h h' : Hp} {D D' : WD} {T : TT} {S S' : SS} (J : BJ G h D T S) (f : Fr h h' (WO D S)) (w : ∀ a, WO D' S' a → WO D S a ∨ kd h a = 0) (hI : CI G h' D' S') : SQ h' T S ∧ ∀ a, SA T S a → ¬ WO D' S' a := by
  obtain ⟨-, hS, hd⟩ := J
  refine ⟨hS.fr f (fun a ha => hd a (Or.inl ha)), fun a ha z => ?_⟩
  rcases w a z with q | q
  · exact hd a ha q
  · exact hS.ka ha q
/-- a row that is new at h is none of the class's -/
theorem CI.nq {G : GT} {h : Hp} {D : WD} {S : SS} (hI : CI G h D S) {q : Nat} (hq : kd h q = 0) (hn : q ≠ G.2.2.1.2.1) : ¬ WO D S q := fun z => by
  rcases hI.kz z with e | e
  · exact e hq
  · exact hn e
/-! a new sun row -/
def Ts (T : TT) (r q : Nat) : TT := fun t i => if t = 1 ∧ i = r then q else T t i
theorem SQ_s {g : Hp} {T : TT} {S : SS} {r q : Nat} {x y l : Int} (hS : SQ g T S) (hr : r < 12) (hq : kd g q = 0) : SQ (setRA (R3 g q (i32 x) (i32 y) (i32 l)) (T 0 1) r (some q)) (Ts T r q) (S.uS r (sS x y l)) := by
  obtain ⟨r1, r2, r3, r4, r5, r6⟩ := R3_f (g := g) (v0 := i32 x) (v1 := i32 y) (v2 := i32 l) (W := fun _ => False) hq
  have hS2 := hS.fr r1 (fun _ _ z => z)
  have hqT : ∀ a, SA T S a → a ≠ q := fun a ha e => hS.ka ha (e ▸ hq)
  generalize R3 g q (i32 x) (i32 y) (i32 l) = g2 at *
  obtain ⟨⟨k0, s2, s3, s4, s7, s8⟩, ⟨⟨k1, l1, m1⟩, m2, m3, m4, m5⟩, v1, v2, n1, n2, n3⟩ := hS2
  have t0 : ∀ i, Ts T r q 0 i = T 0 i := fun i => if_neg (by omega)
  have t2 : Ts T r q 2 = T 2 := funext fun i => if_neg (by omega)
  have t3 : Ts T r q 3 = T 3 := funext fun i => if_neg (by omega)
  have t4 : Ts T r q 4 = T 4 := funext fun i => if_neg (by omega)
  have t5 : Ts T r q 5 = T 5 := funext fun i => if_neg (by omega)
  have hmr : ∀ {j n k B}, j ≤ 5 → j ≠ 1 → MR g2 (T 0 j) n k B → MR (setRA g2 (T 0 1) r (some q)) (T 0 j) n k B := fun {j n k B} hj hj1 hm => hm.fr (W := fun a => a = T 0 1) (Fr.sRA rfl) (fun z => hj1 (n3 j 1 hj (by omega) z))
  refine ⟨by simp only [t0]; exact ⟨k0, s2, s3, s4, s7, s8⟩, ?_, fun i hi => ?_, ?_, fun i j hi hj => ?_, by rw [t2, t4, t5]; exact n2, by simp only [t0]; exact n3⟩
  · simp only [t0, t2, t3, t4, t5]
    refine ⟨⟨k1, l1, fun i hi => ?_⟩, hmr (by omega) (by omega) m2, hmr (by omega) (by omega) m3, hmr (by omega) (by omega) m4, hmr (by omega) (by omega) m5⟩
    unfold Ts
    rw [ra_setRA]
    by_cases e : i = r
    · rw [if_pos ⟨rfl, e⟩, if_pos ⟨rfl, e⟩]
      exact ⟨rfl, r2, r3⟩
    · rw [if_neg (fun z => e z.2), if_neg (fun z => e z.2)]
      exact m1 i hi
  · rw [sn_uS, sn_uS, sn_uS]
    unfold Ts
    by_cases e : i = r
    · rw [if_pos ⟨rfl, e⟩, if_pos e, if_pos e, if_pos e]
      exact ⟨r4, r5, r6⟩
    · rw [if_neg (fun z => e z.2), if_neg e, if_neg e, if_neg e]
      exact v1 i hi
  · rw [t2]
    exact v2
  · rw [t4, t5]
    unfold Ts
    by_cases e : i = r
    · rw [if_pos ⟨rfl, e⟩]
      exact ⟨fun z => hqT _ (Or.inr (yr4 hj)) z.symm, fun z => hqT _ (Or.inr (yr5 hj)) z.symm⟩
    · rw [if_neg (fun z => e z.2)]
      exact n1 i j hi hj
theorem SA_s {T : TT} {S : SS} {r q : Nat} {f : Nat → Int} {a : Nat} (ha : SA (Ts T r q) (S.uS r f) a) : SA T S a ∨ a = q := by
  have t0 : ∀ i, Ts T r q 0 i = T 0 i := fun i => if_neg (by omega)
  have t2 : ∀ i, Ts T r q 2 i = T 2 i := fun i => if_neg (by omega)
  have t4 : ∀ i, Ts T r q 4 i = T 4 i := fun i => if_neg (by omega)
  have t5 : ∀ i, Ts T r q 5 i = T 5 i := fun i => if_neg (by omega)
  rcases ha with (⟨i, hi, rfl⟩ | ⟨i, hi, rfl⟩ | ⟨b, hb, rfl⟩) | ⟨i, hi, z | z⟩
  · exact Or.inl (Or.inl (Or.inl ⟨i, hi, t0 i⟩))
  · by_cases e : i = r
    · exact Or.inr (if_pos ⟨rfl, e⟩)
    · exact Or.inl (Or.inl (Or.inr (Or.inl ⟨i, hi, if_neg (fun z => e z.2)⟩)))
  · exact Or.inl (Or.inl (Or.inr (Or.inr ⟨b, hb, t2 b⟩)))
  · exact Or.inl (Or.inr ⟨i, hi, Or.inl (z.trans (t4 i))⟩)
  · exact Or.inl (Or.inr ⟨i, hi, Or.inr (z.trans (t5 i))⟩)
/-! a new building row, in a longer row -/
def Tb (T : TT) (n a q : Nat) : TT := fun t i => if t = 0 ∧ i = 2 then a else if t = 2 ∧ i = n then q else T t i
/-- g: the longer row a is made; its last one is q -/
theorem SQ_b {g : Hp} {T : TT} {S : SS} {a q : Nat} {f : Nat → Int} (hS : SQ g T S) (haT : ∀ i, i ≤ 5 → T 0 i ≠ a) (hqT : ∀ i, i < 12 → T 4 i ≠ q ∧ T 5 i ≠ q) (ka : kd g a = 25) (la : ln g a = S.nb + 1) (hr : ∀ i, i < S.nb → ra g a i = ra g (T 0 2) i) (hr2 : ra g a S.nb = some q)
    (kq : kd g q = 21) (lq : ln g q = 7) (hv : ∀ k, k < 7 → ia g q k = i32 (f k)) : SQ (setR g 6 3 (T 0 0) (some a)) (Tb T S.nb a q) (S.aB f) := by
  obtain ⟨⟨k0, s2, s3, s4, s7, s8⟩, ⟨m1, ⟨k2, l2, m2⟩, m3, m4, m5⟩, v1, v2, n1, n2, n3⟩ := hS
  have t0 : ∀ i, i ≠ 2 → Tb T S.nb a q 0 i = T 0 i := fun i hi => (if_neg (fun z => hi z.2)).trans (if_neg (by omega))
  have t02 : Tb T S.nb a q 0 2 = a := if_pos ⟨rfl, rfl⟩
  have t1 : Tb T S.nb a q 1 = T 1 := funext fun i => (if_neg (by omega)).trans (if_neg (by omega))
  have t3 : Tb T S.nb a q 3 = T 3 := funext fun i => (if_neg (by omega)).trans (if_neg (by omega))
  have t4 : Tb T S.nb a q 4 = T 4 := funext fun i => (if_neg (by omega)).trans (if_neg (by omega))
  have t5 : Tb T S.nb a q 5 = T 5 := funext fun i => (if_neg (by omega)).trans (if_neg (by omega))
  have t2 : ∀ i, i ≠ S.nb → Tb T S.nb a q 2 i = T 2 i := fun i hi => (if_neg (by omega)).trans (if_neg (fun z => hi z.2))
  have t2n : Tb T S.nb a q 2 S.nb = q := (if_neg (by omega)).trans (if_pos ⟨rfl, rfl⟩)
  have hmr : ∀ {x n k B}, MR g x n k B → MR (setR g 6 3 (T 0 0) (some a)) x n k B := fun hm => hm
  have hnb : (S.aB f).nb = S.nb + 1 := rfl
  refine ⟨⟨by rw [t0 0 (by omega)]; exact k0, ?_, ?_, ?_, ?_, ?_⟩, ⟨by rw [t0 1 (by omega), t1]; exact hmr m1, ?_, by rw [t0 3 (by omega), t3]; exact hmr m3, by rw [t0 4 (by omega), t4]; exact hmr m4, by rw [t0 5 (by omega), t5]; exact hmr m5⟩, by rw [t1]; exact v1, fun b hb => ?_, by rw [t1, t4, t5]; exact n1, fun b i hb hi => ?_, fun i j hi hj z => ?_⟩
  · rw [t0 0 (by omega), t0 1 (by omega), fr_setR, if_neg (by omega)]; exact s2
  · rw [t0 0 (by omega), t02, fr_setR, if_pos ⟨rfl, rfl, rfl⟩]
  · rw [t0 0 (by omega), t0 3 (by omega), fr_setR, if_neg (by omega)]; exact s4
  · rw [t0 0 (by omega), t0 4 (by omega), fr_setR, if_neg (by omega)]; exact s7
  · rw [t0 0 (by omega), t0 5 (by omega), fr_setR, if_neg (by omega)]; exact s8
  · rw [t02]
    refine ⟨ka, la, fun i hi => ?_⟩
    by_cases e : i = S.nb
    · rw [e, t2n]; exact ⟨hr2, kq, lq⟩
    · rw [t2 i e]
      have hi' : i < S.nb := by omega
      exact ⟨(hr i hi').trans (m2 i hi').1, (m2 i hi').2⟩
  · simp only [bf_aB, ia_setR]
    by_cases e : b = S.nb
    · subst e
      rw [t2n]
      simp only [if_true]
      exact ⟨hv 0 (by omega), hv 1 (by omega), hv 2 (by omega), hv 3 (by omega), hv 4 (by omega), hv 6 (by omega)⟩
    · rw [t2 b e]
      simp only [e, if_false]
      exact v2 b (by omega)
  · rw [t4, t5]
    by_cases e : b = S.nb
    · rw [e, t2n]; exact ⟨fun z => (hqT i hi).1 z.symm, fun z => (hqT i hi).2 z.symm⟩
    · rw [t2 b e]; exact n2 b i (by omega) hi
  · by_cases e1 : i = 2 <;> by_cases e2 : j = 2
    · omega
    · rw [e1, t02, t0 j e2] at z; exact absurd z.symm (haT j hj)
    · rw [e2, t02, t0 i e1] at z; exact absurd z (haT i hi)
    · rw [t0 i e1, t0 j e2] at z; exact n3 i j hi hj z
theorem SA_b {T : TT} {S : SS} {x q : Nat} {f : Nat → Int} {a : Nat} (ha : SA (Tb T S.nb x q) (S.aB f) a) : SA T S a ∨ a = q ∨ a = x := by
  have t0 : ∀ i, i ≠ 2 → Tb T S.nb x q 0 i = T 0 i := fun i hi => (if_neg (fun z => hi z.2)).trans (if_neg (by omega))
  have t02 : Tb T S.nb x q 0 2 = x := if_pos ⟨rfl, rfl⟩
  have t1 : ∀ i, Tb T S.nb x q 1 i = T 1 i := fun i => (if_neg (by omega)).trans (if_neg (by omega))
  have t4 : ∀ i, Tb T S.nb x q 4 i = T 4 i := fun i => (if_neg (by omega)).trans (if_neg (by omega))
  have t5 : ∀ i, Tb T S.nb x q 5 i = T 5 i := fun i => (if_neg (by omega)).trans (if_neg (by omega))
  have t2 : ∀ i, i ≠ S.nb → Tb T S.nb x q 2 i = T 2 i := fun i hi => (if_neg (by omega)).trans (if_neg (fun z => hi z.2))
  have t2n : Tb T S.nb x q 2 S.nb = q := (if_neg (by omega)).trans (if_pos ⟨rfl, rfl⟩)
  rcases ha with (⟨i, hi, rfl⟩ | ⟨i, hi, rfl⟩ | ⟨b, hb, rfl⟩) | ⟨i, hi, z | z⟩
  · by_cases e : i = 2
    · rw [e, t02]; exact Or.inr (Or.inr rfl)
    · exact Or.inl (Or.inl (Or.inl ⟨i, hi, t0 i e⟩))
  · exact Or.inl (Or.inl (Or.inr (Or.inl ⟨i, hi, t1 i⟩)))
  · by_cases e : b = S.nb
    · rw [e, t2n]; exact Or.inr (Or.inl rfl)
    · have hb' : b < S.nb + 1 := hb
      exact Or.inl (Or.inl (Or.inr (Or.inr ⟨b, by omega, t2 b e⟩)))
  · exact Or.inl (Or.inr ⟨i, hi, Or.inl (z.trans (t4 i))⟩)
  · exact Or.inl (Or.inr ⟨i, hi, Or.inr (z.trans (t5 i))⟩)
/-! a new lease row, in a longer row -/
def Tl (T : TT) (n a q : Nat) : TT := fun t i => if t = 0 ∧ i = 3 then a else if t = 3 ∧ i = n then q else T t i
theorem SQ_l {g : Hp} {T : TT} {S : SS} {a q : Nat} {f : Nat → Int} (hS : SQ g T S) (haT : ∀ i, i ≤ 5 → T 0 i ≠ a) (ka : kd g a = 25) (la : ln g a = S.nl + 1) (hr : ∀ i, i < S.nl → ra g a i = ra g (T 0 3) i) (hr2 : ra g a S.nl = some q)
    (kq : kd g q = 21) (lq : ln g q = 9) : SQ (setR g 6 4 (T 0 0) (some a)) (Tl T S.nl a q) (S.aL f) := by
  obtain ⟨⟨k0, s2, s3, s4, s7, s8⟩, ⟨m1, m2, ⟨k3, l3, m3⟩, m4, m5⟩, v1, v2, n1, n2, n3⟩ := hS
  have t0 : ∀ i, i ≠ 3 → Tl T S.nl a q 0 i = T 0 i := fun i hi => (if_neg (fun z => hi z.2)).trans (if_neg (by omega))
  have t03 : Tl T S.nl a q 0 3 = a := if_pos ⟨rfl, rfl⟩
  have t1 : Tl T S.nl a q 1 = T 1 := funext fun i => (if_neg (by omega)).trans (if_neg (by omega))
  have t2 : Tl T S.nl a q 2 = T 2 := funext fun i => (if_neg (by omega)).trans (if_neg (by omega))
  have t4 : Tl T S.nl a q 4 = T 4 := funext fun i => (if_neg (by omega)).trans (if_neg (by omega))
  have t5 : Tl T S.nl a q 5 = T 5 := funext fun i => (if_neg (by omega)).trans (if_neg (by omega))
  have t3 : ∀ i, i ≠ S.nl → Tl T S.nl a q 3 i = T 3 i := fun i hi => (if_neg (by omega)).trans (if_neg (fun z => hi z.2))
  have t3n : Tl T S.nl a q 3 S.nl = q := (if_neg (by omega)).trans (if_pos ⟨rfl, rfl⟩)
  have hmr : ∀ {x n k B}, MR g x n k B → MR (setR g 6 4 (T 0 0) (some a)) x n k B := fun hm => hm
  have hnl : (S.aL f).nl = S.nl + 1 := rfl
  refine ⟨⟨by rw [t0 0 (by omega)]; exact k0, ?_, ?_, ?_, ?_, ?_⟩, ⟨by rw [t0 1 (by omega), t1]; exact hmr m1, by rw [t0 2 (by omega), t2]; exact hmr m2, ?_, by rw [t0 4 (by omega), t4]; exact hmr m4, by rw [t0 5 (by omega), t5]; exact hmr m5⟩, by rw [t1]; exact v1, by rw [t2]; exact v2, by rw [t1, t4, t5]; exact n1, by rw [t2, t4, t5]; exact n2, fun i j hi hj z => ?_⟩
  · rw [t0 0 (by omega), t0 1 (by omega), fr_setR, if_neg (by omega)]; exact s2
  · rw [t0 0 (by omega), t0 2 (by omega), fr_setR, if_neg (by omega)]; exact s3
  · rw [t0 0 (by omega), t03, fr_setR, if_pos ⟨rfl, rfl, rfl⟩]
  · rw [t0 0 (by omega), t0 4 (by omega), fr_setR, if_neg (by omega)]; exact s7
  · rw [t0 0 (by omega), t0 5 (by omega), fr_setR, if_neg (by omega)]; exact s8
  · rw [t03]
    refine ⟨ka, la, fun i hi => ?_⟩
    by_cases e : i = S.nl
    · rw [e, t3n]; exact ⟨hr2, kq, lq⟩
    · rw [t3 i e]
      have hi' : i < S.nl := by omega
      exact ⟨(hr i hi').trans (m3 i hi').1, (m3 i hi').2⟩
  · by_cases e1 : i = 3 <;> by_cases e2 : j = 3
    · omega
    · rw [e1, t03, t0 j e2] at z; exact absurd z.symm (haT j hj)
    · rw [e2, t03, t0 i e1] at z; exact absurd z (haT i hi)
    · rw [t0 i e1, t0 j e2] at z; exact n3 i j hi hj z
theorem SA_l {T : TT} {S : SS} {x q : Nat} {f : Nat → Int} {a : Nat} (ha : SA (Tl T S.nl x q) (S.aL f) a) : SA T S a ∨ a = x := by
  have t0 : ∀ i, i ≠ 3 → Tl T S.nl x q 0 i = T 0 i := fun i hi => (if_neg (fun z => hi z.2)).trans (if_neg (by omega))
  have t03 : Tl T S.nl x q 0 3 = x := if_pos ⟨rfl, rfl⟩
  have t1 : ∀ i, Tl T S.nl x q 1 i = T 1 i := fun i => (if_neg (by omega)).trans (if_neg (by omega))
  have t2 : ∀ i, Tl T S.nl x q 2 i = T 2 i := fun i => (if_neg (by omega)).trans (if_neg (by omega))
  have t4 : ∀ i, Tl T S.nl x q 4 i = T 4 i := fun i => (if_neg (by omega)).trans (if_neg (by omega))
  have t5 : ∀ i, Tl T S.nl x q 5 i = T 5 i := fun i => (if_neg (by omega)).trans (if_neg (by omega))
  rcases ha with (⟨i, hi, rfl⟩ | ⟨i, hi, rfl⟩ | ⟨b, hb, rfl⟩) | ⟨i, hi, z | z⟩
  · by_cases e : i = 3
    · rw [e, t03]; exact Or.inr rfl
    · exact Or.inl (Or.inl (Or.inl ⟨i, hi, t0 i e⟩))
  · exact Or.inl (Or.inl (Or.inr (Or.inl ⟨i, hi, t1 i⟩)))
  · exact Or.inl (Or.inl (Or.inr (Or.inr ⟨b, hb, t2 b⟩)))
  · exact Or.inl (Or.inr ⟨i, hi, Or.inl (z.trans (t4 i))⟩)
  · exact Or.inl (Or.inr ⟨i, hi, Or.inr (z.trans (t5 i))⟩)
/-! ===== pure: what the square's steps keep ===== -/
def BK (S : SS) : Prop := LI S ∧ S.dy = 0 ∧ S.ev = 0
theorem BK_I : BK (SI 12) := ⟨⟨WF_SI 12, fun l hl => absurd hl (Nat.not_lt_zero l), fun b hb => absurd hb (Nat.not_lt_zero b), rfl, rfl, rfl⟩, rfl, rfl⟩
theorem BK_s {S : SS} {r : Nat} {x y l : Int} (h : BK S) (hr : r < 12) (hv : vsC x y l) : BK (S.uS r (sS x y l)) := by
  obtain ⟨⟨hW, hw, hb, h6, hg, hp⟩, hd, he⟩ := h
  refine ⟨⟨?_, hw, hb, h6, hg, hp⟩, hd, he⟩
  obtain ⟨a1, a2, a3, a4, a5, a6, a7, a8⟩ := hW
  obtain ⟨c1, c2, c3, c4⟩ := hv
  refine ⟨a1, a2, a3, a4, fun i hi => ?_, a6, a7, a8⟩
  simp only [sn_uS]
  by_cases e : i = r
  · simp only [e, if_true]
    show -1 ≤ x ∧ x ≤ 1 ∧ -1 ≤ y ∧ y ≤ 1 ∧ 0 ≤ l ∧ 0 ≤ l ∧ l ≤ 6
    omega
  · simp only [e, if_false]
    exact a5 i hi
theorem BK_b {S : SS} {x y t o : Int} {w d : Nat} (h : BK S) (hv : vbC x y w d t o) (hf : frB S x y w (w * d) = true) : BK (S.aB (bS x y w d t o)) := by
  obtain ⟨⟨hW, hw, hb, h6, hg, hp⟩, hd, he⟩ := h
  refine ⟨⟨WF_aB hW hv hf, hw, fun b hb' => ?_, h6, hg, hp⟩, hd, he⟩
  rw [bf_aB]
  have hb2 : b < S.nb + 1 := hb'
  by_cases e : b = S.nb
  · rw [if_pos e]; rfl
  · rw [if_neg e]; exact hb b (by omega)
theorem BK_l {S : SS} {b t f l c p : Int} (h : BK S) (hb : 0 ≤ b ∧ b < S.nb) (hv : vlC t f l c p) (hn : S.nl < 40) : BK (S.aL (lS b t f l c p)) := by
  obtain ⟨⟨hW, hw, hs, h6, hg, hp⟩, hd, he⟩ := h
  have e : ∀ k, sumN (fun i => (S.aL (lS b t f l c p)).lf i k) S.nl = sumN (fun i => S.lf i k) S.nl := fun k => sumN_congr _ (fun i hi => by rw [lf_aL, if_neg (by omega)])
  have e2 : ∀ k, (S.aL (lS b t f l c p)).lf S.nl k = lS b t f l c p k := fun k => by rw [lf_aL, if_pos rfl]
  have e6 : lS b t f l c p 6 = 1 := rfl
  have e7 : lS b t f l c p 7 = 0 := rfl
  have e8 : lS b t f l c p 8 = 0 := rfl
  refine ⟨⟨WF_aL hW hb hv hn, fun i hi => ?_, hs, ?_, hg, ?_⟩, hd, he⟩
  · have hi2 : i < S.nl + 1 := hi
    rw [lf_aL, lf_aL]
    by_cases z : i = S.nl
    · rw [if_pos z, if_pos z, e7]; omega
    · rw [if_neg z, if_neg z]; exact hw i (by omega)
  · show sumN (fun i => (S.aL (lS b t f l c p)).lf i 6) S.nl + (S.aL (lS b t f l c p)).lf S.nl 6 = ((S.nl + 1 : Nat) : Int) - S.ev
    rw [e, e2, e6]; omega
  · show _ = sumN (fun i => (S.aL (lS b t f l c p)).lf i 8) S.nl + (S.aL (lS b t f l c p)).lf S.nl 8
    rw [e, e2, e8]
    show sumN S.pd 16 = _
    omega
/-- apart from building b -/
def dis (S : SS) (x y : Int) (w d : Nat) (b : Nat) : Prop := x + w ≤ S.bf b 0 ∨ S.bf b 0 + S.bf b 2 ≤ x ∨ y + d ≤ S.bf b 1 ∨ S.bf b 1 + S.bf b 3 ≤ y
theorem frB_dis {S : SS} {x y : Int} {w d : Nat} (hn : S.nb < 12) (hw : 0 < w) (h : ∀ b, b < S.nb → dis S x y w d b) : ∀ n, n ≤ w * d → frB S x y w n = true := by
  intro n
  induction n with
  | zero => intro _; simpa [frB] using hn
  | succ n ih =>
    intro hnd
    have h1 : n % w < w := Nat.mod_lt _ hw
    have h2 : n / w < d := (Nat.div_lt_iff_lt_mul hw).mpr (by rw [Nat.mul_comm]; omega)
    have h3 : isCov S (x + (n % w : Nat)) (y + (n / w : Nat)) = false := by
      generalize n % w = u at *
      generalize n / w = v at *
      unfold isCov
      refine anyN_f _ (fun b hb => ?_)
      have hd := h b hb
      unfold dis at hd
      unfold cov
      rw [decide_eq_false_iff_not]
      rintro ⟨-, c1, c2, c3, c4⟩
      omega
    show (frB S x y w n && ! isCov S (x + (n % w : Nat)) (y + (n / w : Nat))) = true
    rw [ih (by omega), h3]
    rfl
