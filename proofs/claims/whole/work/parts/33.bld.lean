/-! ===== what is left as it was: all but the rows and objects of W ===== -/
def Fr (h h' : Hp) (W : Nat → Prop) : Prop := ∀ a, kd h a ≠ 0 → (kd h' a = kd h a ∧ ln h' a = ln h a) ∧ (¬ W a → (∀ c k, fi h' c k a = fi h c k a) ∧ (∀ c k, fr h' c k a = fr h c k a) ∧ (∀ i, ia h' a i = ia h a i) ∧ (∀ i, ja h' a i = ja h a i) ∧ ∀ i, ra h' a i = ra h a i)
section FR
variable {h h' h'' : Hp} {W W' : Nat → Prop}
theorem Fr.rf : Fr h h W := fun _ _ => ⟨⟨rfl, rfl⟩, fun _ => ⟨fun _ _ => rfl, fun _ _ => rfl, fun _ => rfl, fun _ => rfl, fun _ => rfl⟩⟩
theorem Fr.tr (f : Fr h h' W) (g : Fr h' h'' W) : Fr h h'' W := fun a ha => by
  obtain ⟨⟨f1, f2⟩, f3⟩ := f a ha
  obtain ⟨⟨g1, g2⟩, g3⟩ := g a (by rw [f1]; exact ha)
  refine ⟨⟨g1.trans f1, g2.trans f2⟩, fun hw => ?_⟩
  obtain ⟨p1, p2, p3, p4, p5⟩ := f3 hw
  obtain ⟨q1, q2, q3, q4, q5⟩ := g3 hw
  exact ⟨fun c k => (q1 c k).trans (p1 c k), fun c k => (q2 c k).trans (p2 c k), fun i => (q3 i).trans (p3 i), fun i => (q4 i).trans (p4 i), fun i => (q5 i).trans (p5 i)⟩
theorem Fr.up (f : Fr h h' W) (hw : ∀ a, W a → W' a) : Fr h h' W' := fun a ha => ⟨(f a ha).1, fun q => (f a ha).2 (fun z => q (hw a z))⟩
theorem Fr.sI {c k a : Nat} {v : Int32} (ha : W a) : Fr h (setI h c k a v) W := fun b _ => ⟨⟨rfl, rfl⟩, fun q => have e : b ≠ a := fun z => q (z ▸ ha); ⟨fun c k => by rw [fi_setI, if_neg (fun z => e z.2.2)], fun _ _ => rfl, fun _ => rfl, fun _ => rfl, fun _ => rfl⟩⟩
theorem Fr.sR {c k a : Nat} {v : Option Nat} (ha : W a) : Fr h (setR h c k a v) W := fun b _ => ⟨⟨rfl, rfl⟩, fun q => have e : b ≠ a := fun z => q (z ▸ ha); ⟨fun _ _ => rfl, fun c k => by rw [fr_setR, if_neg (fun z => e z.2.2)], fun _ => rfl, fun _ => rfl, fun _ => rfl⟩⟩
theorem Fr.sA {a i : Nat} {v : Int32} (ha : W a) : Fr h (setIA h a i v) W := fun b _ => ⟨⟨rfl, rfl⟩, fun q => have e : b ≠ a := fun z => q (z ▸ ha); ⟨fun _ _ => rfl, fun _ _ => rfl, fun i => by rw [ia_setIA, if_neg (fun z => e z.1)], fun _ => rfl, fun _ => rfl⟩⟩
theorem Fr.sL {a i : Nat} {v : Int64} (ha : W a) : Fr h (setLA h a i v) W := fun b _ => ⟨⟨rfl, rfl⟩, fun q => have e : b ≠ a := fun z => q (z ▸ ha); ⟨fun _ _ => rfl, fun _ _ => rfl, fun _ => rfl, fun i => by rw [ja_setLA, if_neg (fun z => e z.1)], fun _ => rfl⟩⟩
theorem Fr.sRA {a i : Nat} {v : Option Nat} (ha : W a) : Fr h (setRA h a i v) W := fun b _ => ⟨⟨rfl, rfl⟩, fun q => have e : b ≠ a := fun z => q (z ▸ ha); ⟨fun _ _ => rfl, fun _ _ => rfl, fun _ => rfl, fun _ => rfl, fun i => by rw [ra_setRA, if_neg (fun z => e z.1)]⟩⟩
theorem Fr.cI {a0 a sp dp n : Nat} (ha : W a) : Fr h (cpIA h a0 a sp dp n) W := fun b _ => ⟨⟨rfl, rfl⟩, fun q => have e : b ≠ a := fun z => q (z ▸ ha); ⟨fun _ _ => rfl, fun _ _ => rfl, fun i => by rw [ia_cpIA, if_neg (fun z => e z.1)], fun _ => rfl, fun _ => rfl⟩⟩
theorem Fr.cR {a0 a sp dp n : Nat} (ha : W a) : Fr h (cpRA h a0 a sp dp n) W := fun b _ => ⟨⟨rfl, rfl⟩, fun q => have e : b ≠ a := fun z => q (z ▸ ha); ⟨fun _ _ => rfl, fun _ _ => rfl, fun _ => rfl, fun _ => rfl, fun i => by rw [ra_cpRA, if_neg (fun z => e z.1)]⟩⟩
theorem Fr.nA {a t n : Nat} (h0 : kd h a = 0) : Fr h (newA h a t n) W := fun b hb => by
  have e : b ≠ a := fun z => hb (z ▸ h0)
  refine ⟨⟨by rw [kd_newA, if_neg e], by rw [ln_newA, if_neg e]⟩, fun _ => ⟨fun _ _ => rfl, fun _ _ => rfl, fun i => by rw [ia_newA, if_neg e], fun i => by rw [ja_newA, if_neg e], fun i => by rw [ra_newA, if_neg e]⟩⟩
theorem Fr.nO {a c : Nat} (h0 : kd h a = 0) : Fr h (newO h a c) W := fun b hb => by
  have e : b ≠ a := fun z => hb (z ▸ h0)
  refine ⟨⟨by rw [kd_newO, if_neg e], rfl⟩, fun _ => ⟨fun c k => by rw [fi_newO, if_neg e], fun c k => by rw [fr_newO, if_neg e], fun _ => rfl, fun _ => rfl, fun _ => rfl⟩⟩
/-- what was fresh before: rows made since may be forgotten -/
theorem Fr.nw {W2 : Nat → Prop} (f : Fr h h' W) (g : Fr h' h'' W2) (hw : ∀ a, W2 a → W a ∨ kd h a = 0) : Fr h h'' W := fun a ha => by
  obtain ⟨⟨f1, f2⟩, f3⟩ := f a ha
  obtain ⟨⟨g1, g2⟩, g3⟩ := g a (by rw [f1]; exact ha)
  refine ⟨⟨g1.trans f1, g2.trans f2⟩, fun hn => ?_⟩
  obtain ⟨p1, p2, p3, p4, p5⟩ := f3 hn
  obtain ⟨q1, q2, q3, q4, q5⟩ := g3 (fun z => (hw a z).elim hn ha)
  exact ⟨fun c k => (q1 c k).trans (p1 c k), fun c k => (q2 c k).trans (p2 c k), fun i => (q3 i).trans (p3 i), fun i => (q4 i).trans (p4 i), fun i => (q5 i).trans (p5 i)⟩
end FR
/-- the reference's own -/
def WM (m : Nat) (A : Nat → Nat) : Nat → Prop := fun a => a = m ∨ ∃ k, (5 ≤ k ∧ k ≤ 11) ∧ a = A k
theorem WM.m {m : Nat} {A : Nat → Nat} : WM m A m := Or.inl rfl
theorem WM.r {m : Nat} {A : Nat → Nat} {k : Nat} (h : 5 ≤ k ∧ k ≤ 11) : WM m A (A k) := Or.inr ⟨k, h, rfl⟩
theorem MFr.fr {h h' : Hp} {m : Nat} {A : Nat → Nat} (f : MFr h h' A) : Fr h h' (WM m A) := fun a _ => by
  obtain ⟨g1, g2, g3, g4, g5, g6, g7⟩ := f
  refine ⟨⟨g1 a, g4 a⟩, fun q => ⟨fun c k => g2 c k a, fun c k => g3 c k a, fun i => g5 a i (fun z => q (z ▸ WM.r (by omega))) (fun z => q (z ▸ WM.r (by omega))), fun i => g6 a i, fun i => g7 a i⟩⟩
theorem MD.ex {h : Hp} {m : Nat} {A : Nat → Nat} {S : SS} (hM : MD h m A S) {a : Nat} (ha : WM m A a) : kd h a ≠ 0 := by
  obtain ⟨⟨hk, hA, hJ⟩, -⟩ := hM
  rcases ha with rfl | ⟨k, h1, rfl⟩
  · omega
  · have := (hA k h1.1 h1.2).2.1; omega
/-- another's changes -/
theorem MD.fr {h h' : Hp} {m : Nat} {A : Nat → Nat} {S : SS} {W : Nat → Prop} (hM : MD h m A S) (f : Fr h h' W) (hW : ∀ a, W a → ¬ WM m A a) : MD h' m A S := by
  have hx := fun a ha => f a (hM.ex (a := a) ha)
  have hy := fun a (ha : WM m A a) => (hx a ha).2 (fun z => hW a z ha)
  obtain ⟨⟨hk, hA, hJ⟩, fd, fe, fb, fl, hB, hL, hN, hG, hP⟩ := hM
  refine ⟨⟨(hx m WM.m).1.1.trans hk, fun k h1 h2 => ?_, hJ⟩, ((hy m WM.m).1 _ _).trans fd, ((hy m WM.m).1 _ _).trans fe, ((hy m WM.m).1 _ _).trans fb, ((hy m WM.m).1 _ _).trans fl, fun b k h1 h2 => ?_, fun l k h1 h2 => ?_, fun r k h1 h2 => ?_, fun o h1 => ?_, fun t h1 => ?_⟩
  · obtain ⟨q1, q2, q3⟩ := hA k h1 h2
    have hz := (hx (A k) (WM.r ⟨h1, h2⟩)).1
    exact ⟨((hy m WM.m).2.1 _ _).trans q1, hz.1.trans q2, hz.2.trans q3⟩
  · rw [(hy (A 5) (WM.r (by omega))).2.2.1]; exact hB b k h1 h2
  · rw [(hy (A 6) (WM.r (by omega))).2.2.1]; exact hL l k h1 h2
  · rw [(hy (A 7) (WM.r (by omega))).2.2.1]; exact hN r k h1 h2
  · rw [(hy (A 8) (WM.r (by omega))).2.2.1]; exact hG o h1
  · rw [(hy (A 9) (WM.r (by omega))).2.2.1]; exact hP t h1
theorem MC.fr {h h' : Hp} {m : Nat} {A : Nat → Nat} {S : SS} {W : Nat → Prop} (hC : MC h A S) (hM : MD h m A S) (f : Fr h h' W) (hW : ∀ a, W a → ¬ WM m A a) : MC h' A S := by
  have hy := fun a (ha : WM m A a) => (f a (hM.ex (a := a) ha)).2 (fun z => hW a z ha)
  intro r c hr hc
  rw [(hy (A 10) (WM.r (by omega))).2.2.1, (hy (A 11) (WM.r (by omega))).2.2.1]
  exact hC r c hr hc
theorem SS_ext {S T : SS} (h1 : S.nb = T.nb) (h2 : S.nl = T.nl) (h3 : ∀ b k, S.bf b k = T.bf b k) (h4 : ∀ b k, S.lf b k = T.lf b k) (h5 : ∀ b k, S.sn b k = T.sn b k) (h6 : ∀ o, S.gt o = T.gt o) (h7 : ∀ o, S.pd o = T.pd o) (h8 : S.dy = T.dy) (h9 : S.ev = T.ev) : S = T := by
  obtain ⟨s1, s2, s3, s4, s5, s6, s7, s8, s9⟩ := S
  obtain ⟨t1, t2, t3, t4, t5, t6, t7, t8, t9⟩ := T
  have e1 : s1 = t1 := h1
  have e2 : s2 = t2 := h2
  have e3 : s3 = t3 := funext (fun b => funext (fun k => h3 b k))
  have e4 : s4 = t4 := funext (fun b => funext (fun k => h4 b k))
  have e5 : s5 = t5 := funext (fun b => funext (fun k => h5 b k))
  have e6 : s6 = t6 := funext h6
  have e7 : s7 = t7 := funext h7
  have e8 : s8 = t8 := h8
  have e9 : s9 = t9 := h9
  subst e1 e2 e3 e4 e5 e6 e7 e8 e9
  rfl
/-! ===== the reference: build ===== -/
def SS.aB (S : SS) (f : Nat → Int) : SS := (S.nb + 1, S.nl, fun b k => if b = S.nb then f k else S.bf b k, S.2.2.2)
def bS (x y w d t o : Int) : Nat → Int
  | 0 => x
  | 1 => y
  | 2 => w
  | 3 => d
  | 4 => t
  | 5 => o
  | _ => 1
theorem bf_aB {S : SS} {f : Nat → Int} {b k : Nat} : (S.aB f).bf b k = if b = S.nb then f k else S.bf b k := rfl
/-- is there room for a building, and are the first n of its cells free -/
def frB (S : SS) (x y : Int) (w : Nat) : Nat → Bool
  | 0 => decide (S.nb < 12)
  | n + 1 => frB S x y w n && ! isCov S (x + (n % w : Nat)) (y + (n / w : Nat))
def vbC (x y w d t o : Int) : Prop := (1 ≤ w ∧ w ≤ 6) ∧ (1 ≤ d ∧ d ≤ 6) ∧ (0 ≤ x ∧ x ≤ 16 - w) ∧ (0 ≤ y ∧ y ≤ 16 - d) ∧ (1 ≤ t ∧ t ≤ 9) ∧ (0 ≤ o ∧ o ≤ 7)
theorem MD_fs {h : Hp} {m : Nat} {A : Nat → Nat} {S : SS} {a i : Nat} {v : Int32} (hM : MD h m A S) (ha : ∀ k, 5 ≤ k → k ≤ 11 → a ≠ A k) (hm : a ≠ m) : MD (setIA h a i v) m A S :=
  hM.fr (W := fun b => b = a) (Fr.sA rfl) (fun b e z => by subst e; rcases z with z | ⟨k, z1, z2⟩; exact hm z; exact ha k z1.1 z1.2 z2)
theorem MD_aB {h : Hp} {m : Nat} {A : Nat → Nat} {S : SS} {a : Nat} {f : Nat → Int} (hM : MD h m A S) (hf : ∀ k, k < 7 → ia h a k = i32 (f k)) : MD (setI (cpIA h a (A 5) 0 (7 * S.nb) 7) 6 3 m (i32 ((S.nb : Int) + 1))) m A (S.aB f) := by
  obtain ⟨⟨hk', hA, hJ⟩, fd, fe, fb, fl, hB, hL, hN, hG, hP⟩ := hM
  have n6 : ∀ i, 5 ≤ i → i ≤ 11 → i ≠ 5 → A i ≠ A 5 := fun i h1 h2 h3 h4 => h3 (hJ i 5 h1 h2 (by omega) (by omega) h4)
  refine ⟨⟨hk', hA, hJ⟩, ?_, ?_, ?_, ?_, fun l' k' hl' hk' => ?_, fun b q hb hq => ?_, fun r q hr hq => ?_, fun o ho => ?_, fun t ht => ?_⟩
  · rw [fi_setI, if_neg (by omega)]; exact fd
  · rw [fi_setI, if_neg (by omega)]; exact fe
  · rw [fi_setI, if_pos ⟨rfl, rfl, rfl⟩]; rfl
  · rw [fi_setI, if_neg (by omega)]; exact fl
  · rw [ia_setI, ia_cpIA, bf_aB]
    have hl2 : l' < S.nb + 1 := hl'
    by_cases e : l' = S.nb
    · rw [if_pos ⟨rfl, by omega⟩, if_pos e, ← hf k' hk']
      congr 1; omega
    · rw [if_neg (by omega), if_neg e]; exact hB l' k' (by omega) hk'
  · rw [ia_setI, ia_cpIA, if_neg (fun z => n6 6 (by omega) (by omega) (by omega) z.1)]; exact hL b q hb hq
  · rw [ia_setI, ia_cpIA, if_neg (fun z => n6 7 (by omega) (by omega) (by omega) z.1)]; exact hN r q hr hq
  · rw [ia_setI, ia_cpIA, if_neg (fun z => n6 8 (by omega) (by omega) (by omega) z.1)]; exact hG o ho
  · rw [ia_setI, ia_cpIA, if_neg (fun z => n6 9 (by omega) (by omega) (by omega) z.1)]; exact hP t ht
theorem frB_0 {S : SS} {x y : Int} {w : Nat} : ∀ n, frB S x y w n = true → S.nb < 12
  | 0, h => by simpa [frB] using h
  | n + 1, h => frB_0 (x := x) (y := y) (w := w) n (by simp only [frB, Bool.and_eq_true] at h; exact h.1)
theorem frB_i {S : SS} {x y : Int} {w : Nat} : ∀ n, frB S x y w n = true → ∀ j, j < n → isCov S (x + (j % w : Nat)) (y + (j / w : Nat)) = false
  | 0, _, j, hj => by omega
  | n + 1, h, j, hj => by
    simp only [frB, Bool.and_eq_true, Bool.not_eq_true'] at h
    rcases Nat.lt_or_ge j n with q | q
    · exact frB_i n h.1 j q
    · rw [show j = n by omega]; exact h.2
theorem anyN_e {p : Nat → Bool} : ∀ n, anyN p n = false → ∀ i, i < n → p i = false
  | 0, _, i, hi => by omega
  | n + 1, h, i, hi => by
    simp only [anyN, Bool.or_eq_false_iff] at h
    rcases Nat.lt_or_ge i n with q | q
    · exact anyN_e n h.1 i q
    · rw [show i = n by omega]; exact h.2
theorem WF_aB {S : SS} {x y t o : Int} {w d : Nat} (hW : WF S) (hv : vbC x y w d t o) (hf : frB S x y w (w * d) = true) : WF (S.aB (bS x y w d t o)) := by
  obtain ⟨a1, a2, a3, a4, a5, a6, a7, a8⟩ := hW
  obtain ⟨v1, v2, v3, v4, v5, v6⟩ := hv
  have hn := frB_0 _ hf
  have hi := frB_i _ hf
  have hc : ∀ b u v, b ≠ S.nb → cov (S.aB (bS x y w d t o)) b u v = cov S b u v := fun b u v e => by unfold cov; simp only [bf_aB, e, if_false]
  have hx : ∀ u v b, cov (S.aB (bS x y w d t o)) S.nb u v = true → b < S.nb → cov S b u v = true → False := fun u v b h1 h2 h3 => by
    unfold cov at h1
    simp only [bf_aB, if_true, bS, decide_eq_true_eq] at h1
    obtain ⟨-, g1, g2, g3, g4⟩ := h1
    obtain ⟨p, hp⟩ := Int.eq_ofNat_of_zero_le (show 0 ≤ u - x by omega)
    obtain ⟨q, hq⟩ := Int.eq_ofNat_of_zero_le (show 0 ≤ v - y by omega)
    have hpw : p < w := by omega
    have hqd : q < d := by omega
    have hj : q * w + p < w * d := by
      have : (q + 1) * w ≤ d * w := Nat.mul_le_mul_right w (by omega)
      rw [Nat.add_mul] at this
      rw [Nat.mul_comm w d]
      omega
    have h4 := hi (q * w + p) hj
    rw [show (q * w + p) % w = p by rw [Nat.mul_comm, Nat.mul_add_mod]; exact Nat.mod_eq_of_lt hpw, show (q * w + p) / w = q by rw [Nat.mul_comm, Nat.mul_add_div (by omega), Nat.div_eq_of_lt hpw, Nat.add_zero]] at h4
    rw [show x + (p : Int) = u by omega, show y + (q : Int) = v by omega] at h4
    have h5 := anyN_e _ h4 b h2
    rw [h3] at h5
    cases h5
  refine ⟨hn, a2, fun b hb => ?_, fun l hl => ?_, a5, a6, a7, fun b1 b2 u v h1 h2 h3 h4 => ?_⟩
  · simp only [bf_aB]
    have hb' : b < S.nb + 1 := hb
    by_cases e : b = S.nb
    · have q : bS x y w d t o 0 = x ∧ bS x y w d t o 1 = y ∧ bS x y w d t o 2 = w ∧ bS x y w d t o 3 = d ∧ bS x y w d t o 4 = t ∧ bS x y w d t o 5 = o ∧ bS x y w d t o 6 = 1 := ⟨rfl, rfl, rfl, rfl, rfl, rfl, rfl⟩
      simp only [e, if_true, q, or_true, and_true]; omega
    · simp only [e, if_false]; exact a3 b (by omega)
  · have h1 := a4 l hl
    have e1 : (S.aB (bS x y w d t o)).lf l = S.lf l := rfl
    have e2 : (S.aB (bS x y w d t o)).nb = S.nb + 1 := rfl
    rw [e1, e2]
    omega
  · have h1' : b1 < S.nb + 1 := h1
    have h2' : b2 < S.nb + 1 := h2
    by_cases e1 : b1 = S.nb <;> by_cases e2 : b2 = S.nb
    · omega
    · subst e1
      rw [hc b2 u v e2] at h4
      exact (hx u v b2 h3 (by omega) h4).elim
    · subst e2
      rw [hc b1 u v e1] at h3
      exact (hx u v b1 h4 (by omega) h3).elim
    · rw [hc b1 u v e1] at h3
      rw [hc b2 u v e2] at h4
      exact a8 b1 b2 u v (by omega) (by omega) h3 h4
/-- a state-changing call's answer: what is left alone, the new state, no exception -/
def nxt (h : Hp) (m : Nat) (A : Nat → Nat) (S' : SS) (Q : Option Value → Hp → Prop) (v : Int) : Prop := ∀ h', Fr h h' (WM m A) → fi h' 6 0 m = i32 0 → MD h' m A S' → MC h' A S' → Q (some (.int (i32 v))) h'
def ct_X5_build (A : Nat → Nat) (S : SS) : Ct := fun As h Q _ => sR As fun m r => sI r fun x r => sI r fun y r => sI r fun w r => sI r fun d r => sI r fun t r => sI r fun o r => s0 r (MD h m A S ∧ MC h A S ∧ (vbC x.toInt y.toInt w.toInt d.toInt t.toInt o.toInt ∧ frB S x.toInt y.toInt (tn w) (tn w * tn d) = true → nxt (t0 h m) m A (S.aB (bS x.toInt y.toInt w.toInt d.toInt t.toInt o.toInt)) Q S.nb) ∧ (¬ vbC x.toInt y.toInt w.toInt d.toInt t.toInt o.toInt → Q (some (.int (i32 0))) (tX h m 1)) ∧ (vbC x.toInt y.toInt w.toInt d.toInt t.toInt o.toInt ∧ ¬ frB S x.toInt y.toInt (tn w) (tn w * tn d) = true → Q (some (.int (i32 0))) (tX h m 2)))
def ce_X5_build (A : Nat → Nat) (S : SS) : CE := (0, yX5_build, MX5_build, 6, 7, 1, 7, ct_X5_build A S)
set_option maxRecDepth 100000 in
set_option maxHeartbeats 4000000 in
theorem tl_X5_build (G : GT) {A : Nat → Nat} {S : SS} (hW : WF S) {h : Hp} {m : Nat} {Ls : Ls} {o2 o3 o4 o5 o6 o7 o8 o9 : Option Value} {Q : Option Value → Hp → Prop} {QX : String → Hp → Prop} (hM : MD h m A S) (hq : ∀ h', MFr h h' A → MC h' A S → Q (some (.int (i32 ((S.nb : Int) - 1)))) h') :
    Wp G MX5_build false 7 Q QX 223 [some (.ref m), o2, o3, o4, o5, o6, o7, o8, o9] [] h (0, 0) := by
  have hM0 := hM
  obtain ⟨⟨hk, hA, hJ⟩, fd, fe, fb, fl, hB, hL, hN, hG, hP⟩ := hM0
  obtain ⟨a5, k5, l5⟩ := hA 5 (by omega) (by omega)
  obtain ⟨a6, k6, l6⟩ := hA 6 (by omega) (by omega)
  obtain ⟨a7, k7, l7⟩ := hA 7 (by omega) (by omega)
  obtain ⟨a8, k8, l8⟩ := hA 8 (by omega) (by omega)
  obtain ⟨a9, k9, l9⟩ := hA 9 (by omega) (by omega)
  obtain ⟨a10, k10, l10⟩ := hA 10 (by omega) (by omega)
  obtain ⟨a11, k11, l11⟩ := hA 11 (by omega) (by omega)
  simp only [mLen] at l5 l6 l7 l8 l9 l10 l11
  refine wpW (cs := [(39, ce_X5_isIn), (67, ce_X5_fail), (60, ce_X5_coveredBy A S), (71, ce_ci), (77, ce_X5_castAll A S)]) (stop := [227]) (n := 200) (env_cons (ceS (by decide +kernel) ⟨by decide, by decide, by decide +kernel⟩ (by decide) (ok_X5_isIn G)) (env_cons (ceV (by decide +kernel) ⟨by decide, by decide, by decide +kernel⟩ (by decide) rfl (ok_X5_fail G)) (env_cons (ceV (by decide +kernel) ⟨by decide, by decide, by decide +kernel⟩ (by decide) rfl (ok_X5_coveredBy G A S hW)) (env_cons (ce_ciOK (by decide +kernel)) (env_cons (ceV (by decide +kernel) ⟨by decide, by decide, by decide +kernel⟩ (by decide) rfl (ok_X5_castAll G A S hW)) (env_nil0 (env_hh rfl))))))) ?_
  simp only [↓wpN_S, ↓step_u, ↓stC_s, stC_s, ↓stF_u, stF_u, ↓stepI, lenI, ↓kN_u, isS, ↓gI_0, ↓gI_S, ↓gL_0, ↓gL_S, ↓gD_0, ↓gD_S, ↓gR_0, ↓gR_S, ↓sI_c, ↓sL_c, ↓sD_c, ↓sR_c, ↓s1_r, ↓s1_i, ↓vR_r, ↓vR_n, ↓s0_n, s0_n, ↓oR_u, ↓sP_u, ↓sPa_0, ↓sPa_S, ↓lkC_c, ↓callK_u, ↓cQ_s, ↓cQ_n, putL, putW, clr, kil, catS, catN, refF, booF, finF, nF, nmOf_0, nmOf_1, nmOf_2, nmOf_3, nmOf_4, nmOf_5, nmOf_6, nmOf_50, nmOf_51, nmOf_52, ↓reduceIte, reduceIte, Bool.false_eq_true, eq_self, true_or, or_true, true_and, and_true, false_or, or_false, Nat.reduceAdd, Nat.reduceSub, Nat.reduceEqDiff, Nat.reduceLT, Nat.reduceLeDiff, reduceCtorEq, true_implies, List.length_cons, List.length_nil, List.replicate, List.cons_append, List.nil_append, mrt_X5_build, mhh_X5_build, mow_X5_build, mnl_X5_build, DX5_build_0, DX5_build_1, DX5_build_2, DX5_build_5, DX5_build_6, DX5_build_7, DX5_build_9, DX5_build_12, DX5_build_15, DX5_build_17, DX5_build_18, DX5_build_20, DX5_build_23, DX5_build_26, DX5_build_27, DX5_build_28, DX5_build_30, DX5_build_31, DX5_build_32, DX5_build_35, DX5_build_38, DX5_build_39, DX5_build_40, DX5_build_42, DX5_build_44, DX5_build_45, DX5_build_48, DX5_build_51, DX5_build_53, DX5_build_54, DX5_build_56, DX5_build_59, DX5_build_62, DX5_build_64, DX5_build_65, DX5_build_67, DX5_build_70, DX5_build_73, DX5_build_74, DX5_build_75, DX5_build_78, DX5_build_79, DX5_build_80, DX5_build_83, DX5_build_85, DX5_build_88, DX5_build_89, DX5_build_92, DX5_build_93, DX5_build_95, DX5_build_96, DX5_build_98, DX5_build_100, DX5_build_101, DX5_build_103, DX5_build_104, DX5_build_107, DX5_build_109, DX5_build_112, DX5_build_113, DX5_build_114, DX5_build_116, DX5_build_117, DX5_build_118, DX5_build_119, DX5_build_120, DX5_build_122, DX5_build_123, DX5_build_124, DX5_build_125, DX5_build_128, DX5_build_129, DX5_build_132, DX5_build_133, DX5_build_136, DX5_build_137, DX5_build_139, DX5_build_142, DX5_build_145, DX5_build_147, DX5_build_150, DX5_build_151, DX5_build_152, DX5_build_155, DX5_build_156, DX5_build_158, DX5_build_160, DX5_build_161, DX5_build_162, DX5_build_163, DX5_build_164, DX5_build_165, DX5_build_166, DX5_build_167, DX5_build_168, DX5_build_169, DX5_build_170, DX5_build_171, DX5_build_172, DX5_build_173, DX5_build_174, DX5_build_176, DX5_build_177, DX5_build_178, DX5_build_179, DX5_build_181, DX5_build_182, DX5_build_183, DX5_build_184, DX5_build_186, DX5_build_187, DX5_build_188, DX5_build_190, DX5_build_191, DX5_build_192, DX5_build_194, DX5_build_196, DX5_build_197, DX5_build_198, DX5_build_201, DX5_build_203, DX5_build_204, DX5_build_207, DX5_build_208, DX5_build_210, DX5_build_213, DX5_build_214, DX5_build_215, DX5_build_218, DX5_build_219, DX5_build_220, DX5_build_223, DX5_build_224, DX5_build_227, DX5_build_228, DX5_build_231, DX5_build_232, DX5_build_233, ce_X5_isIn, ↓ct_X5_isIn, ycl_X5_isIn, ce_X5_fail, ↓ct_X5_fail, ycl_X5_fail, ce_X5_coveredBy, ↓ct_X5_coveredBy, ycl_X5_coveredBy, ce_ci, ce_X5_castAll, ↓ct_X5_castAll, ycl_X5_castAll, cX_nil mhh_X5_build]
  simp only [hM, hk, fd, fe, fb, fl, a5, k5, l5, a6, k6, l6, a7, k7, l7, a8, k8, l8, a9, k9, l9, a10, k10, l10, a11, k11, l11, true_and, and_true, Option.some.injEq, exists_eq_left', nmOf_0, nmOf_1, nmOf_2, nmOf_3, nmOf_4, nmOf_5, nmOf_6, Nat.add_sub_cancel, Nat.reduceSub, Nat.reduceLT, Nat.reduceEqDiff, ne_eq, not_false_eq_true]
  refine fun h' g1 g2 => ?_
  replace hM := g1.md hM
  replace hq := hq h' g1 g2
  obtain ⟨⟨hk, hA, hJ⟩, fd, fe, fb, fl, hB, hL, hN, hG, hP⟩ := hM
  refine wpW (cs := [(39, ce_X5_isIn), (67, ce_X5_fail), (60, ce_X5_coveredBy A S), (71, ce_ci), (77, ce_X5_castAll A S)]) (stop := [100]) (n := 200) (env_cons (ceS (by decide +kernel) ⟨by decide, by decide, by decide +kernel⟩ (by decide) (ok_X5_isIn G)) (env_cons (ceV (by decide +kernel) ⟨by decide, by decide, by decide +kernel⟩ (by decide) rfl (ok_X5_fail G)) (env_cons (ceV (by decide +kernel) ⟨by decide, by decide, by decide +kernel⟩ (by decide) rfl (ok_X5_coveredBy G A S hW)) (env_cons (ce_ciOK (by decide +kernel)) (env_cons (ceV (by decide +kernel) ⟨by decide, by decide, by decide +kernel⟩ (by decide) rfl (ok_X5_castAll G A S hW)) (env_nil0 (env_hh rfl))))))) ?_
  simp only [↓wpN_S, ↓step_u, ↓stC_s, stC_s, ↓stF_u, stF_u, ↓stepI, lenI, ↓kN_u, isS, ↓gI_0, ↓gI_S, ↓gL_0, ↓gL_S, ↓gD_0, ↓gD_S, ↓gR_0, ↓gR_S, ↓sI_c, ↓sL_c, ↓sD_c, ↓sR_c, ↓s1_r, ↓s1_i, ↓vR_r, ↓vR_n, ↓s0_n, s0_n, ↓oR_u, ↓sP_u, ↓sPa_0, ↓sPa_S, ↓lkC_c, ↓callK_u, ↓cQ_s, ↓cQ_n, putL, putW, clr, kil, catS, catN, refF, booF, finF, nF, nmOf_0, nmOf_1, nmOf_2, nmOf_3, nmOf_4, nmOf_5, nmOf_6, nmOf_50, nmOf_51, nmOf_52, ↓reduceIte, reduceIte, Bool.false_eq_true, eq_self, true_or, or_true, true_and, and_true, false_or, or_false, Nat.reduceAdd, Nat.reduceSub, Nat.reduceEqDiff, Nat.reduceLT, Nat.reduceLeDiff, reduceCtorEq, true_implies, List.length_cons, List.length_nil, List.replicate, List.cons_append, List.nil_append, mrt_X5_build, mhh_X5_build, mow_X5_build, mnl_X5_build, DX5_build_0, DX5_build_1, DX5_build_2, DX5_build_5, DX5_build_6, DX5_build_7, DX5_build_9, DX5_build_12, DX5_build_15, DX5_build_17, DX5_build_18, DX5_build_20, DX5_build_23, DX5_build_26, DX5_build_27, DX5_build_28, DX5_build_30, DX5_build_31, DX5_build_32, DX5_build_35, DX5_build_38, DX5_build_39, DX5_build_40, DX5_build_42, DX5_build_44, DX5_build_45, DX5_build_48, DX5_build_51, DX5_build_53, DX5_build_54, DX5_build_56, DX5_build_59, DX5_build_62, DX5_build_64, DX5_build_65, DX5_build_67, DX5_build_70, DX5_build_73, DX5_build_74, DX5_build_75, DX5_build_78, DX5_build_79, DX5_build_80, DX5_build_83, DX5_build_85, DX5_build_88, DX5_build_89, DX5_build_92, DX5_build_93, DX5_build_95, DX5_build_96, DX5_build_98, DX5_build_100, DX5_build_101, DX5_build_103, DX5_build_104, DX5_build_107, DX5_build_109, DX5_build_112, DX5_build_113, DX5_build_114, DX5_build_116, DX5_build_117, DX5_build_118, DX5_build_119, DX5_build_120, DX5_build_122, DX5_build_123, DX5_build_124, DX5_build_125, DX5_build_128, DX5_build_129, DX5_build_132, DX5_build_133, DX5_build_136, DX5_build_137, DX5_build_139, DX5_build_142, DX5_build_145, DX5_build_147, DX5_build_150, DX5_build_151, DX5_build_152, DX5_build_155, DX5_build_156, DX5_build_158, DX5_build_160, DX5_build_161, DX5_build_162, DX5_build_163, DX5_build_164, DX5_build_165, DX5_build_166, DX5_build_167, DX5_build_168, DX5_build_169, DX5_build_170, DX5_build_171, DX5_build_172, DX5_build_173, DX5_build_174, DX5_build_176, DX5_build_177, DX5_build_178, DX5_build_179, DX5_build_181, DX5_build_182, DX5_build_183, DX5_build_184, DX5_build_186, DX5_build_187, DX5_build_188, DX5_build_190, DX5_build_191, DX5_build_192, DX5_build_194, DX5_build_196, DX5_build_197, DX5_build_198, DX5_build_201, DX5_build_203, DX5_build_204, DX5_build_207, DX5_build_208, DX5_build_210, DX5_build_213, DX5_build_214, DX5_build_215, DX5_build_218, DX5_build_219, DX5_build_220, DX5_build_223, DX5_build_224, DX5_build_227, DX5_build_228, DX5_build_231, DX5_build_232, DX5_build_233, ce_X5_isIn, ↓ct_X5_isIn, ycl_X5_isIn, ce_X5_fail, ↓ct_X5_fail, ycl_X5_fail, ce_X5_coveredBy, ↓ct_X5_coveredBy, ycl_X5_coveredBy, ce_ci, ce_X5_castAll, ↓ct_X5_castAll, ycl_X5_castAll, cX_nil mhh_X5_build]
  simp (disch := omega) only [i32_lit, i32_neg, i32_add, i32_mul, i32_sub, i32_nI, i32_lt, i32_le, i32_eq, inR_i, i32_clamp, i32_div, i32_max, i32_min, ite_max, ite_min, b2i_0, b2i_1, b2i_01, i32_toInt, tn_i, Int.toNat_natCast, em_t, true_and, and_true, Int.reduceToNat, Int.reduceLE, Int.reduceLT, Int.reduceAdd, Int.reduceMul, Int.reduceSub, Int.reduceNeg, Int.reduceEq, true_implies, not_true_eq_false, false_implies, not_false_eq_true, hk, fb]
  exact hq
set_option maxRecDepth 100000 in
set_option maxHeartbeats 4000000 in
theorem lp_X5_build (G : GT) {A : Nat → Nat} {S : SS} (hW : WF S) {h : Hp} {m w d : Nat} {x y t o : Int} {Q : Option Value → Hp → Prop} {QX : String → Hp → Prop} (hv : vbC x y w d t o) (hM : MD h m A S)
    (hz : ∀ Ls, lsub [some (.ref m), some (.int (i32 x)), some (.int (i32 y)), some (.int (i32 w)), some (.int (i32 d)), some (.int (i32 t)), some (.int (i32 o)), some (.int (b2i (frB S x y w (w * d) = true))), none] Ls → Wp G MX5_build false 7 Q QX 145 Ls [] h (1, 7)) :
    ∀ k n : Nat, n + k = w * d → ∀ v, v = b2i (frB S x y w n = true) → Wp G MX5_build false 7 Q QX 98 [some (.ref m), some (.int (i32 x)), some (.int (i32 y)), some (.int (i32 w)), some (.int (i32 d)), some (.int (i32 t)), some (.int (i32 o)), some (.int v), some (.int (i32 n))] [] h (1, 7) := by
  obtain ⟨v1, v2, v3, v4, v5, v6⟩ := hv
  have hwd : w * d ≤ 6 * 6 := Nat.mul_le_mul (by omega) (by omega)
  have ewd : (w : Int) * d = ((w * d : Nat) : Int) := by rw [Int.natCast_mul]
  have hnb := hW.1
  have hM0 := hM
  obtain ⟨⟨hk, hA, hJ⟩, fd, fe, fb, fl, hB, hL, hN, hG, hP⟩ := hM0
  obtain ⟨a5, k5, l5⟩ := hA 5 (by omega) (by omega)
  obtain ⟨a6, k6, l6⟩ := hA 6 (by omega) (by omega)
  obtain ⟨a7, k7, l7⟩ := hA 7 (by omega) (by omega)
  obtain ⟨a8, k8, l8⟩ := hA 8 (by omega) (by omega)
  obtain ⟨a9, k9, l9⟩ := hA 9 (by omega) (by omega)
  obtain ⟨a10, k10, l10⟩ := hA 10 (by omega) (by omega)
  obtain ⟨a11, k11, l11⟩ := hA 11 (by omega) (by omega)
  simp only [mLen] at l5 l6 l7 l8 l9 l10 l11
  intro k
  induction k with
  | zero =>
    intro n hn v ev
    subst ev
    refine wpW (cs := [(39, ce_X5_isIn), (67, ce_X5_fail), (60, ce_X5_coveredBy A S), (71, ce_ci), (77, ce_X5_castAll A S)]) (stop := [98, 145]) (n := 200) (env_cons (ceS (by decide +kernel) ⟨by decide, by decide, by decide +kernel⟩ (by decide) (ok_X5_isIn G)) (env_cons (ceV (by decide +kernel) ⟨by decide, by decide, by decide +kernel⟩ (by decide) rfl (ok_X5_fail G)) (env_cons (ceV (by decide +kernel) ⟨by decide, by decide, by decide +kernel⟩ (by decide) rfl (ok_X5_coveredBy G A S hW)) (env_cons (ce_ciOK (by decide +kernel)) (env_cons (ceV (by decide +kernel) ⟨by decide, by decide, by decide +kernel⟩ (by decide) rfl (ok_X5_castAll G A S hW)) (env_nil0 (env_hh rfl))))))) ?_
    simp only [↓wpN_S, ↓step_u, ↓stC_s, stC_s, ↓stF_u, stF_u, ↓stepI, lenI, ↓kN_u, isS, ↓gI_0, ↓gI_S, ↓gL_0, ↓gL_S, ↓gD_0, ↓gD_S, ↓gR_0, ↓gR_S, ↓sI_c, ↓sL_c, ↓sD_c, ↓sR_c, ↓s1_r, ↓s1_i, ↓vR_r, ↓vR_n, ↓s0_n, s0_n, ↓oR_u, ↓sP_u, ↓sPa_0, ↓sPa_S, ↓lkC_c, ↓callK_u, ↓cQ_s, ↓cQ_n, putL, putW, clr, kil, catS, catN, refF, booF, finF, nF, nmOf_0, nmOf_1, nmOf_2, nmOf_3, nmOf_4, nmOf_5, nmOf_6, nmOf_50, nmOf_51, nmOf_52, ↓reduceIte, reduceIte, Bool.false_eq_true, eq_self, true_or, or_true, true_and, and_true, false_or, or_false, Nat.reduceAdd, Nat.reduceSub, Nat.reduceEqDiff, Nat.reduceLT, Nat.reduceLeDiff, reduceCtorEq, true_implies, List.length_cons, List.length_nil, List.replicate, List.cons_append, List.nil_append, mrt_X5_build, mhh_X5_build, mow_X5_build, mnl_X5_build, DX5_build_0, DX5_build_1, DX5_build_2, DX5_build_5, DX5_build_6, DX5_build_7, DX5_build_9, DX5_build_12, DX5_build_15, DX5_build_17, DX5_build_18, DX5_build_20, DX5_build_23, DX5_build_26, DX5_build_27, DX5_build_28, DX5_build_30, DX5_build_31, DX5_build_32, DX5_build_35, DX5_build_38, DX5_build_39, DX5_build_40, DX5_build_42, DX5_build_44, DX5_build_45, DX5_build_48, DX5_build_51, DX5_build_53, DX5_build_54, DX5_build_56, DX5_build_59, DX5_build_62, DX5_build_64, DX5_build_65, DX5_build_67, DX5_build_70, DX5_build_73, DX5_build_74, DX5_build_75, DX5_build_78, DX5_build_79, DX5_build_80, DX5_build_83, DX5_build_85, DX5_build_88, DX5_build_89, DX5_build_92, DX5_build_93, DX5_build_95, DX5_build_96, DX5_build_98, DX5_build_100, DX5_build_101, DX5_build_103, DX5_build_104, DX5_build_107, DX5_build_109, DX5_build_112, DX5_build_113, DX5_build_114, DX5_build_116, DX5_build_117, DX5_build_118, DX5_build_119, DX5_build_120, DX5_build_122, DX5_build_123, DX5_build_124, DX5_build_125, DX5_build_128, DX5_build_129, DX5_build_132, DX5_build_133, DX5_build_136, DX5_build_137, DX5_build_139, DX5_build_142, DX5_build_145, DX5_build_147, DX5_build_150, DX5_build_151, DX5_build_152, DX5_build_155, DX5_build_156, DX5_build_158, DX5_build_160, DX5_build_161, DX5_build_162, DX5_build_163, DX5_build_164, DX5_build_165, DX5_build_166, DX5_build_167, DX5_build_168, DX5_build_169, DX5_build_170, DX5_build_171, DX5_build_172, DX5_build_173, DX5_build_174, DX5_build_176, DX5_build_177, DX5_build_178, DX5_build_179, DX5_build_181, DX5_build_182, DX5_build_183, DX5_build_184, DX5_build_186, DX5_build_187, DX5_build_188, DX5_build_190, DX5_build_191, DX5_build_192, DX5_build_194, DX5_build_196, DX5_build_197, DX5_build_198, DX5_build_201, DX5_build_203, DX5_build_204, DX5_build_207, DX5_build_208, DX5_build_210, DX5_build_213, DX5_build_214, DX5_build_215, DX5_build_218, DX5_build_219, DX5_build_220, DX5_build_223, DX5_build_224, DX5_build_227, DX5_build_228, DX5_build_231, DX5_build_232, DX5_build_233, ce_X5_isIn, ↓ct_X5_isIn, ycl_X5_isIn, ce_X5_fail, ↓ct_X5_fail, ycl_X5_fail, ce_X5_coveredBy, ↓ct_X5_coveredBy, ycl_X5_coveredBy, ce_ci, ce_X5_castAll, ↓ct_X5_castAll, ycl_X5_castAll, cX_nil mhh_X5_build]
    simp (disch := omega) only [i32_lit, i32_neg, i32_add, i32_mul, i32_sub, i32_nI, i32_lt, i32_le, i32_eq, inR_i, i32_clamp, i32_div, i32_max, i32_min, ite_max, ite_min, b2i_0, b2i_1, b2i_01, i32_toInt, tn_i, Int.toNat_natCast, em_t, true_and, and_true, Int.reduceToNat, Int.reduceLE, Int.reduceLT, Int.reduceAdd, Int.reduceMul, Int.reduceSub, Int.reduceNeg, Int.reduceEq, true_implies, not_true_eq_false, false_implies, not_false_eq_true, hM, hk, fd, fe, fb, fl, a5, k5, l5, a6, k6, l6, a7, k7, l7, a8, k8, l8, a9, k9, l9, a10, k10, l10, a11, k11, l11, true_and, and_true, Option.some.injEq, exists_eq_left', nmOf_0, nmOf_1, nmOf_2, nmOf_3, nmOf_4, nmOf_5, nmOf_6, Nat.add_sub_cancel, Nat.reduceSub, Nat.reduceLT, Nat.reduceEqDiff, ne_eq, not_false_eq_true, ewd]
    refine ⟨fun _ => hz _ ?_, fun h1 => by omega⟩
    rw [show n = w * d by omega]
    simp [lsub]
  | succ k ih =>
    intro n hn v ev
    subst ev
    have e1 : (n : Int) - n / w * w = ((n % w : Nat) : Int) := by rw [Int.natCast_emod, Int.emod_def, Int.mul_comm]
    have e2 : (n : Int) / w = ((n / w : Nat) : Int) := by rw [Int.natCast_ediv]
    refine wpW (cs := [(39, ce_X5_isIn), (67, ce_X5_fail), (60, ce_X5_coveredBy A S), (71, ce_ci), (77, ce_X5_castAll A S)]) (stop := [98, 145]) (n := 200) (env_cons (ceS (by decide +kernel) ⟨by decide, by decide, by decide +kernel⟩ (by decide) (ok_X5_isIn G)) (env_cons (ceV (by decide +kernel) ⟨by decide, by decide, by decide +kernel⟩ (by decide) rfl (ok_X5_fail G)) (env_cons (ceV (by decide +kernel) ⟨by decide, by decide, by decide +kernel⟩ (by decide) rfl (ok_X5_coveredBy G A S hW)) (env_cons (ce_ciOK (by decide +kernel)) (env_cons (ceV (by decide +kernel) ⟨by decide, by decide, by decide +kernel⟩ (by decide) rfl (ok_X5_castAll G A S hW)) (env_nil0 (env_hh rfl))))))) ?_
    simp only [↓wpN_S, ↓step_u, ↓stC_s, stC_s, ↓stF_u, stF_u, ↓stepI, lenI, ↓kN_u, isS, ↓gI_0, ↓gI_S, ↓gL_0, ↓gL_S, ↓gD_0, ↓gD_S, ↓gR_0, ↓gR_S, ↓sI_c, ↓sL_c, ↓sD_c, ↓sR_c, ↓s1_r, ↓s1_i, ↓vR_r, ↓vR_n, ↓s0_n, s0_n, ↓oR_u, ↓sP_u, ↓sPa_0, ↓sPa_S, ↓lkC_c, ↓callK_u, ↓cQ_s, ↓cQ_n, putL, putW, clr, kil, catS, catN, refF, booF, finF, nF, nmOf_0, nmOf_1, nmOf_2, nmOf_3, nmOf_4, nmOf_5, nmOf_6, nmOf_50, nmOf_51, nmOf_52, ↓reduceIte, reduceIte, Bool.false_eq_true, eq_self, true_or, or_true, true_and, and_true, false_or, or_false, Nat.reduceAdd, Nat.reduceSub, Nat.reduceEqDiff, Nat.reduceLT, Nat.reduceLeDiff, reduceCtorEq, true_implies, List.length_cons, List.length_nil, List.replicate, List.cons_append, List.nil_append, mrt_X5_build, mhh_X5_build, mow_X5_build, mnl_X5_build, DX5_build_0, DX5_build_1, DX5_build_2, DX5_build_5, DX5_build_6, DX5_build_7, DX5_build_9, DX5_build_12, DX5_build_15, DX5_build_17, DX5_build_18, DX5_build_20, DX5_build_23, DX5_build_26, DX5_build_27, DX5_build_28, DX5_build_30, DX5_build_31, DX5_build_32, DX5_build_35, DX5_build_38, DX5_build_39, DX5_build_40, DX5_build_42, DX5_build_44, DX5_build_45, DX5_build_48, DX5_build_51, DX5_build_53, DX5_build_54, DX5_build_56, DX5_build_59, DX5_build_62, DX5_build_64, DX5_build_65, DX5_build_67, DX5_build_70, DX5_build_73, DX5_build_74, DX5_build_75, DX5_build_78, DX5_build_79, DX5_build_80, DX5_build_83, DX5_build_85, DX5_build_88, DX5_build_89, DX5_build_92, DX5_build_93, DX5_build_95, DX5_build_96, DX5_build_98, DX5_build_100, DX5_build_101, DX5_build_103, DX5_build_104, DX5_build_107, DX5_build_109, DX5_build_112, DX5_build_113, DX5_build_114, DX5_build_116, DX5_build_117, DX5_build_118, DX5_build_119, DX5_build_120, DX5_build_122, DX5_build_123, DX5_build_124, DX5_build_125, DX5_build_128, DX5_build_129, DX5_build_132, DX5_build_133, DX5_build_136, DX5_build_137, DX5_build_139, DX5_build_142, DX5_build_145, DX5_build_147, DX5_build_150, DX5_build_151, DX5_build_152, DX5_build_155, DX5_build_156, DX5_build_158, DX5_build_160, DX5_build_161, DX5_build_162, DX5_build_163, DX5_build_164, DX5_build_165, DX5_build_166, DX5_build_167, DX5_build_168, DX5_build_169, DX5_build_170, DX5_build_171, DX5_build_172, DX5_build_173, DX5_build_174, DX5_build_176, DX5_build_177, DX5_build_178, DX5_build_179, DX5_build_181, DX5_build_182, DX5_build_183, DX5_build_184, DX5_build_186, DX5_build_187, DX5_build_188, DX5_build_190, DX5_build_191, DX5_build_192, DX5_build_194, DX5_build_196, DX5_build_197, DX5_build_198, DX5_build_201, DX5_build_203, DX5_build_204, DX5_build_207, DX5_build_208, DX5_build_210, DX5_build_213, DX5_build_214, DX5_build_215, DX5_build_218, DX5_build_219, DX5_build_220, DX5_build_223, DX5_build_224, DX5_build_227, DX5_build_228, DX5_build_231, DX5_build_232, DX5_build_233, ce_X5_isIn, ↓ct_X5_isIn, ycl_X5_isIn, ce_X5_fail, ↓ct_X5_fail, ycl_X5_fail, ce_X5_coveredBy, ↓ct_X5_coveredBy, ycl_X5_coveredBy, ce_ci, ce_X5_castAll, ↓ct_X5_castAll, ycl_X5_castAll, cX_nil mhh_X5_build]
    simp (disch := omega) only [i32_lit, i32_neg, i32_add, i32_mul, i32_sub, i32_nI, i32_lt, i32_le, i32_eq, inR_i, i32_clamp, i32_div, i32_max, i32_min, ite_max, ite_min, b2i_0, b2i_1, b2i_01, i32_toInt, tn_i, Int.toNat_natCast, em_t, true_and, and_true, Int.reduceToNat, Int.reduceLE, Int.reduceLT, Int.reduceAdd, Int.reduceMul, Int.reduceSub, Int.reduceNeg, Int.reduceEq, true_implies, not_true_eq_false, false_implies, not_false_eq_true, hM, hk, fd, fe, fb, fl, a5, k5, l5, a6, k6, l6, a7, k7, l7, a8, k8, l8, a9, k9, l9, a10, k10, l10, a11, k11, l11, true_and, and_true, Option.some.injEq, exists_eq_left', nmOf_0, nmOf_1, nmOf_2, nmOf_3, nmOf_4, nmOf_5, nmOf_6, Nat.add_sub_cancel, Nat.reduceSub, Nat.reduceLT, Nat.reduceEqDiff, ne_eq, not_false_eq_true, ewd]
    refine ⟨fun h1 => by omega, fun _ => ⟨fun h2 => ?_, fun h2 => ⟨by omega, by omega, fun v hv => ?_⟩⟩⟩
    · rw [show (n : Int) + 1 = ((n + 1 : Nat) : Int) by omega]
      exact ih (n + 1) (by omega) _ (b2i_f (fun q => h2 (by simp only [frB, Bool.and_eq_true] at q; exact q.1))).symm
    · have b1 : n % w < w := Nat.mod_lt _ (by omega)
      have b2 : n / w ≤ n := Nat.div_le_self n w
      have c1 : inB (x + ((n % w : Nat) : Int)) := by
        generalize n % w = z at b1 ⊢
        omega
      have c2 : inB (y + ((n / w : Nat) : Int)) := by
        generalize n / w = z at b2 ⊢
        omega
      rw [e1, e2, i32_toInt c1, i32_toInt c2] at hv
      rw [show (n : Int) + 1 = ((n + 1 : Nat) : Int) by omega]
      rcases hv with ⟨rfl, hv⟩ | ⟨g1, g2, hv⟩
      · refine ⟨fun q => absurd rfl q, fun _ => ?_⟩
        exact ih (n + 1) (by omega) _ (b2i_t (by simp only [frB, hv, Classical.not_not.mp h2]; rfl)).symm
      · refine ⟨fun _ => ?_, fun q => ?_⟩
        · exact ih (n + 1) (by omega) _ (b2i_f (fun q => by simp only [frB, hv, Bool.not_true, Bool.and_false] at q; cases q)).symm
        · rw [i32_eq (by omega) (by omega)] at q
          omega
set_option maxRecDepth 100000 in
set_option maxHeartbeats 4000000 in
theorem tl_X5_build160 (G : GT) {A : Nat → Nat} {S : SS} (hW : WF S) {h : Hp} {m a w d : Nat} {x y t o : Int} {v7 : Int32} {o8 : Option Value} {Q : Option Value → Hp → Prop} {QX : String → Hp → Prop} (hv : vbC x y w d t o) (hr : frB S x y w (w * d) = true) (hM : MD h m A S) (hC : MC h A S) (h0 : kd h a = 0) (hf : fi h 6 0 m = i32 0) (hq : nxt h m A (S.aB (bS x y w d t o)) Q S.nb) :
    Wp G MX5_build false 7 Q QX 160 [some (.ref m), some (.int (i32 x)), some (.int (i32 y)), some (.int (i32 w)), some (.int (i32 d)), some (.int (i32 t)), some (.int (i32 o)), some (.int v7), o8] [.ref a] (newA h a 21 7) (0, 0) := by
  have hnb := frB_0 _ hr
  have f1 : Fr h (newA h a 21 7) (WM m A) := Fr.nA h0
  have hM1 := hM.fr (W := fun _ => False) (Fr.nA (t := 21) (n := 7) h0) (fun _ q => q.elim)
  have hC1 := hC.fr hM (W := fun _ => False) (Fr.nA (t := 21) (n := 7) h0) (fun _ q => q.elim)
  have hwa : ¬ WM m A a := fun z => hM.ex z h0
  have ha : ∀ k, 5 ≤ k → k ≤ 11 → a ≠ A k := fun k h1 h2 e => hwa (e ▸ WM.r ⟨h1, h2⟩)
  have hm : a ≠ m := fun e => hwa (e ▸ WM.m)
  have hg : ∀ b, b = a → WM m A b ∨ kd h b = 0 := fun b e => Or.inr (e ▸ h0)
  have ka : kd (newA h a 21 7) a = 21 := by rw [kd_newA, if_pos rfl]
  have la : ln (newA h a 21 7) a = 7 := by rw [ln_newA, if_pos rfl]
  have hf1 : fi (newA h a 21 7) 6 0 m = i32 0 := hf
  clear hM hC
  have hM := hM1
  have hC := hC1
  clear hM1 hC1
  generalize newA h a 21 7 = g at *
  have hM0 := hM
  obtain ⟨⟨hk, hA, hJ⟩, fd, fe, fb, fl, hB, hL, hN, hG, hP⟩ := hM0
  obtain ⟨a5, k5, l5⟩ := hA 5 (by omega) (by omega)
  obtain ⟨a6, k6, l6⟩ := hA 6 (by omega) (by omega)
  obtain ⟨a7, k7, l7⟩ := hA 7 (by omega) (by omega)
  obtain ⟨a8, k8, l8⟩ := hA 8 (by omega) (by omega)
  obtain ⟨a9, k9, l9⟩ := hA 9 (by omega) (by omega)
  obtain ⟨a10, k10, l10⟩ := hA 10 (by omega) (by omega)
  obtain ⟨a11, k11, l11⟩ := hA 11 (by omega) (by omega)
  simp only [mLen] at l5 l6 l7 l8 l9 l10 l11
  refine wpW (cs := [(39, ce_X5_isIn), (67, ce_X5_fail), (60, ce_X5_coveredBy A S), (71, ce_ci), (77, ce_X5_castAll A S)]) (stop := [223]) (n := 200) (env_cons (ceS (by decide +kernel) ⟨by decide, by decide, by decide +kernel⟩ (by decide) (ok_X5_isIn G)) (env_cons (ceV (by decide +kernel) ⟨by decide, by decide, by decide +kernel⟩ (by decide) rfl (ok_X5_fail G)) (env_cons (ceV (by decide +kernel) ⟨by decide, by decide, by decide +kernel⟩ (by decide) rfl (ok_X5_coveredBy G A S hW)) (env_cons (ce_ciOK (by decide +kernel)) (env_cons (ceV (by decide +kernel) ⟨by decide, by decide, by decide +kernel⟩ (by decide) rfl (ok_X5_castAll G A S hW)) (env_nil0 (env_hh rfl))))))) ?_
  simp only [↓wpN_S, ↓step_u, ↓stC_s, stC_s, ↓stF_u, stF_u, ↓stepI, lenI, ↓kN_u, isS, ↓gI_0, ↓gI_S, ↓gL_0, ↓gL_S, ↓gD_0, ↓gD_S, ↓gR_0, ↓gR_S, ↓sI_c, ↓sL_c, ↓sD_c, ↓sR_c, ↓s1_r, ↓s1_i, ↓vR_r, ↓vR_n, ↓s0_n, s0_n, ↓oR_u, ↓sP_u, ↓sPa_0, ↓sPa_S, ↓lkC_c, ↓callK_u, ↓cQ_s, ↓cQ_n, putL, putW, clr, kil, catS, catN, refF, booF, finF, nF, nmOf_0, nmOf_1, nmOf_2, nmOf_3, nmOf_4, nmOf_5, nmOf_6, nmOf_50, nmOf_51, nmOf_52, ↓reduceIte, reduceIte, Bool.false_eq_true, eq_self, true_or, or_true, true_and, and_true, false_or, or_false, Nat.reduceAdd, Nat.reduceSub, Nat.reduceEqDiff, Nat.reduceLT, Nat.reduceLeDiff, reduceCtorEq, true_implies, List.length_cons, List.length_nil, List.replicate, List.cons_append, List.nil_append, mrt_X5_build, mhh_X5_build, mow_X5_build, mnl_X5_build, DX5_build_0, DX5_build_1, DX5_build_2, DX5_build_5, DX5_build_6, DX5_build_7, DX5_build_9, DX5_build_12, DX5_build_15, DX5_build_17, DX5_build_18, DX5_build_20, DX5_build_23, DX5_build_26, DX5_build_27, DX5_build_28, DX5_build_30, DX5_build_31, DX5_build_32, DX5_build_35, DX5_build_38, DX5_build_39, DX5_build_40, DX5_build_42, DX5_build_44, DX5_build_45, DX5_build_48, DX5_build_51, DX5_build_53, DX5_build_54, DX5_build_56, DX5_build_59, DX5_build_62, DX5_build_64, DX5_build_65, DX5_build_67, DX5_build_70, DX5_build_73, DX5_build_74, DX5_build_75, DX5_build_78, DX5_build_79, DX5_build_80, DX5_build_83, DX5_build_85, DX5_build_88, DX5_build_89, DX5_build_92, DX5_build_93, DX5_build_95, DX5_build_96, DX5_build_98, DX5_build_100, DX5_build_101, DX5_build_103, DX5_build_104, DX5_build_107, DX5_build_109, DX5_build_112, DX5_build_113, DX5_build_114, DX5_build_116, DX5_build_117, DX5_build_118, DX5_build_119, DX5_build_120, DX5_build_122, DX5_build_123, DX5_build_124, DX5_build_125, DX5_build_128, DX5_build_129, DX5_build_132, DX5_build_133, DX5_build_136, DX5_build_137, DX5_build_139, DX5_build_142, DX5_build_145, DX5_build_147, DX5_build_150, DX5_build_151, DX5_build_152, DX5_build_155, DX5_build_156, DX5_build_158, DX5_build_160, DX5_build_161, DX5_build_162, DX5_build_163, DX5_build_164, DX5_build_165, DX5_build_166, DX5_build_167, DX5_build_168, DX5_build_169, DX5_build_170, DX5_build_171, DX5_build_172, DX5_build_173, DX5_build_174, DX5_build_176, DX5_build_177, DX5_build_178, DX5_build_179, DX5_build_181, DX5_build_182, DX5_build_183, DX5_build_184, DX5_build_186, DX5_build_187, DX5_build_188, DX5_build_190, DX5_build_191, DX5_build_192, DX5_build_194, DX5_build_196, DX5_build_197, DX5_build_198, DX5_build_201, DX5_build_203, DX5_build_204, DX5_build_207, DX5_build_208, DX5_build_210, DX5_build_213, DX5_build_214, DX5_build_215, DX5_build_218, DX5_build_219, DX5_build_220, DX5_build_223, DX5_build_224, DX5_build_227, DX5_build_228, DX5_build_231, DX5_build_232, DX5_build_233, ce_X5_isIn, ↓ct_X5_isIn, ycl_X5_isIn, ce_X5_fail, ↓ct_X5_fail, ycl_X5_fail, ce_X5_coveredBy, ↓ct_X5_coveredBy, ycl_X5_coveredBy, ce_ci, ce_X5_castAll, ↓ct_X5_castAll, ycl_X5_castAll, cX_nil mhh_X5_build]
  simp (disch := omega) only [i32_lit, i32_neg, i32_add, i32_mul, i32_sub, i32_nI, i32_lt, i32_le, i32_eq, inR_i, i32_clamp, i32_div, i32_max, i32_min, ite_max, ite_min, b2i_0, b2i_1, b2i_01, i32_toInt, tn_i, Int.toNat_natCast, em_t, true_and, and_true, Int.reduceToNat, Int.reduceLE, Int.reduceLT, Int.reduceAdd, Int.reduceMul, Int.reduceSub, Int.reduceNeg, Int.reduceEq, true_implies, not_true_eq_false, false_implies, not_false_eq_true, hM, hk, fd, fe, fb, fl, a5, k5, l5, a6, k6, l6, a7, k7, l7, a8, k8, l8, a9, k9, l9, a10, k10, l10, a11, k11, l11, true_and, and_true, Option.some.injEq, exists_eq_left', nmOf_0, nmOf_1, nmOf_2, nmOf_3, nmOf_4, nmOf_5, nmOf_6, Nat.add_sub_cancel, Nat.reduceSub, Nat.reduceLT, Nat.reduceEqDiff, ne_eq, not_false_eq_true, kd_setI, fi_setI, fr_setI, ln_setI, ia_setI, ja_setI, ra_setI, kd_setR, fi_setR, fr_setR, ln_setR, ia_setR, ja_setR, ra_setR, kd_setIA, fi_setIA, fr_setIA, ln_setIA, ia_setIA, ja_setIA, ra_setIA, kd_setLA, fi_setLA, fr_setLA, ln_setLA, ia_setLA, ja_setLA, ra_setLA, kd_setRA, fi_setRA, fr_setRA, ln_setRA, ia_setRA, ja_setRA, ra_setRA, kd_cpRA, fi_cpRA, fr_cpRA, ln_cpRA, ia_cpRA, ja_cpRA, ra_cpRA, kd_cpIA, fi_cpIA, fr_cpIA, ln_cpIA, ia_cpIA, ja_cpIA, ra_cpIA, kd_newO, fi_newO, fr_newO, ln_newO, ia_newO, ja_newO, ra_newO, kd_newA, fi_newA, fr_newA, ln_newA, ia_newA, ja_newA, ra_newA, ka, la]
  repeat (refine ⟨by omega, ?_⟩)
  rw [show (7 * (S.nb : Int)).toNat = 7 * S.nb by omega]
  have e0 : (i32 0).toNatClampNeg = 0 := rfl
  have hbs : ∀ k, k < 7 → ia (setIA (setIA (setIA (setIA (setIA (setIA (setIA g a 0 (i32 x)) a 1 (i32 y)) a 2 (i32 w)) a 3 (i32 d)) a 4 (i32 t)) a 5 (i32 o)) a 6 (i32 1)) a k = i32 (bS x y w d t o k) := fun k hk => by
    rcases (show k = 0 ∨ k = 1 ∨ k = 2 ∨ k = 3 ∨ k = 4 ∨ k = 5 ∨ k = 6 by omega) with rfl | rfl | rfl | rfl | rfl | rfl | rfl <;> simp [ia_setIA, bS]
  refine tl_X5_build (S := S.aB (bS x y w d t o)) (Ls := []) G (WF_aB hW hv hr) (MD_aB (f := bS x y w d t o) (MD_fs (MD_fs (MD_fs (MD_fs (MD_fs (MD_fs (MD_fs hM ha hm) ha hm) ha hm) ha hm) ha hm) ha hm) ha hm) (fun k hk => hbs k hk)) (fun h' g1 g2 => ?_)
  · have e : (((S.aB (bS x y w d t o)).nb : Int) - 1) = S.nb := by
      show ((S.nb + 1 : Nat) : Int) - 1 = S.nb
      omega
    rw [e] at *
    refine hq h' ?_ ((g1.2.1 _ _ _).trans hf1) (g1.md (MD_aB (f := bS x y w d t o) (MD_fs (MD_fs (MD_fs (MD_fs (MD_fs (MD_fs (MD_fs hM ha hm) ha hm) ha hm) ha hm) ha hm) ha hm) ha hm) (fun k hk => hbs k hk))) g2
    refine f1.nw (W2 := fun b => WM m A b ∨ b = a) (Fr.tr ?_ (g1.fr.up fun _ => Or.inl)) (fun b hb => hb.elim Or.inl (hg b))
    refine Fr.tr ?_ (Fr.sI (Or.inl WM.m))
    refine Fr.tr ?_ (Fr.cI (Or.inl (WM.r (by omega))))
    repeat (first | exact Fr.rf | refine Fr.tr ?_ (Fr.sA (Or.inr rfl)))
set_option maxRecDepth 100000 in
set_option maxHeartbeats 4000000 in
theorem tl_X5_build145 (G : GT) {A : Nat → Nat} {S : SS} (hW : WF S) {h : Hp} {m w d : Nat} {x y t o : Int} {o8 : Option Value} {Q : Option Value → Hp → Prop} {QX : String → Hp → Prop} (hv : vbC x y w d t o) (hM : MD h m A S) (hC : MC h A S) (hf : fi h 6 0 m = i32 0) (hq : frB S x y w (w * d) = true → nxt h m A (S.aB (bS x y w d t o)) Q S.nb) (hq2 : ¬ frB S x y w (w * d) = true → Q (some (.int (i32 0))) (setI h 6 0 m (i32 2))) :
    Wp G MX5_build false 7 Q QX 145 [some (.ref m), some (.int (i32 x)), some (.int (i32 y)), some (.int (i32 w)), some (.int (i32 d)), some (.int (i32 t)), some (.int (i32 o)), some (.int (b2i (frB S x y w (w * d) = true))), o8] [] h (1, 7) := by
  have hM0 := hM
  obtain ⟨⟨hk, hA, hJ⟩, fd, fe, fb, fl, hB, hL, hN, hG, hP⟩ := hM0
  obtain ⟨a5, k5, l5⟩ := hA 5 (by omega) (by omega)
  obtain ⟨a6, k6, l6⟩ := hA 6 (by omega) (by omega)
  obtain ⟨a7, k7, l7⟩ := hA 7 (by omega) (by omega)
  obtain ⟨a8, k8, l8⟩ := hA 8 (by omega) (by omega)
  obtain ⟨a9, k9, l9⟩ := hA 9 (by omega) (by omega)
  obtain ⟨a10, k10, l10⟩ := hA 10 (by omega) (by omega)
  obtain ⟨a11, k11, l11⟩ := hA 11 (by omega) (by omega)
  simp only [mLen] at l5 l6 l7 l8 l9 l10 l11
  refine wpW (cs := [(39, ce_X5_isIn), (67, ce_X5_fail), (60, ce_X5_coveredBy A S), (71, ce_ci), (77, ce_X5_castAll A S)]) (stop := [160]) (n := 200) (env_cons (ceS (by decide +kernel) ⟨by decide, by decide, by decide +kernel⟩ (by decide) (ok_X5_isIn G)) (env_cons (ceV (by decide +kernel) ⟨by decide, by decide, by decide +kernel⟩ (by decide) rfl (ok_X5_fail G)) (env_cons (ceV (by decide +kernel) ⟨by decide, by decide, by decide +kernel⟩ (by decide) rfl (ok_X5_coveredBy G A S hW)) (env_cons (ce_ciOK (by decide +kernel)) (env_cons (ceV (by decide +kernel) ⟨by decide, by decide, by decide +kernel⟩ (by decide) rfl (ok_X5_castAll G A S hW)) (env_nil0 (env_hh rfl))))))) ?_
  simp only [↓wpN_S, ↓step_u, ↓stC_s, stC_s, ↓stF_u, stF_u, ↓stepI, lenI, ↓kN_u, isS, ↓gI_0, ↓gI_S, ↓gL_0, ↓gL_S, ↓gD_0, ↓gD_S, ↓gR_0, ↓gR_S, ↓sI_c, ↓sL_c, ↓sD_c, ↓sR_c, ↓s1_r, ↓s1_i, ↓vR_r, ↓vR_n, ↓s0_n, s0_n, ↓oR_u, ↓sP_u, ↓sPa_0, ↓sPa_S, ↓lkC_c, ↓callK_u, ↓cQ_s, ↓cQ_n, putL, putW, clr, kil, catS, catN, refF, booF, finF, nF, nmOf_0, nmOf_1, nmOf_2, nmOf_3, nmOf_4, nmOf_5, nmOf_6, nmOf_50, nmOf_51, nmOf_52, ↓reduceIte, reduceIte, Bool.false_eq_true, eq_self, true_or, or_true, true_and, and_true, false_or, or_false, Nat.reduceAdd, Nat.reduceSub, Nat.reduceEqDiff, Nat.reduceLT, Nat.reduceLeDiff, reduceCtorEq, true_implies, List.length_cons, List.length_nil, List.replicate, List.cons_append, List.nil_append, mrt_X5_build, mhh_X5_build, mow_X5_build, mnl_X5_build, DX5_build_0, DX5_build_1, DX5_build_2, DX5_build_5, DX5_build_6, DX5_build_7, DX5_build_9, DX5_build_12, DX5_build_15, DX5_build_17, DX5_build_18, DX5_build_20, DX5_build_23, DX5_build_26, DX5_build_27, DX5_build_28, DX5_build_30, DX5_build_31, DX5_build_32, DX5_build_35, DX5_build_38, DX5_build_39, DX5_build_40, DX5_build_42, DX5_build_44, DX5_build_45, DX5_build_48, DX5_build_51, DX5_build_53, DX5_build_54, DX5_build_56, DX5_build_59, DX5_build_62, DX5_build_64, DX5_build_65, DX5_build_67, DX5_build_70, DX5_build_73, DX5_build_74, DX5_build_75, DX5_build_78, DX5_build_79, DX5_build_80, DX5_build_83, DX5_build_85, DX5_build_88, DX5_build_89, DX5_build_92, DX5_build_93, DX5_build_95, DX5_build_96, DX5_build_98, DX5_build_100, DX5_build_101, DX5_build_103, DX5_build_104, DX5_build_107, DX5_build_109, DX5_build_112, DX5_build_113, DX5_build_114, DX5_build_116, DX5_build_117, DX5_build_118, DX5_build_119, DX5_build_120, DX5_build_122, DX5_build_123, DX5_build_124, DX5_build_125, DX5_build_128, DX5_build_129, DX5_build_132, DX5_build_133, DX5_build_136, DX5_build_137, DX5_build_139, DX5_build_142, DX5_build_145, DX5_build_147, DX5_build_150, DX5_build_151, DX5_build_152, DX5_build_155, DX5_build_156, DX5_build_158, DX5_build_160, DX5_build_161, DX5_build_162, DX5_build_163, DX5_build_164, DX5_build_165, DX5_build_166, DX5_build_167, DX5_build_168, DX5_build_169, DX5_build_170, DX5_build_171, DX5_build_172, DX5_build_173, DX5_build_174, DX5_build_176, DX5_build_177, DX5_build_178, DX5_build_179, DX5_build_181, DX5_build_182, DX5_build_183, DX5_build_184, DX5_build_186, DX5_build_187, DX5_build_188, DX5_build_190, DX5_build_191, DX5_build_192, DX5_build_194, DX5_build_196, DX5_build_197, DX5_build_198, DX5_build_201, DX5_build_203, DX5_build_204, DX5_build_207, DX5_build_208, DX5_build_210, DX5_build_213, DX5_build_214, DX5_build_215, DX5_build_218, DX5_build_219, DX5_build_220, DX5_build_223, DX5_build_224, DX5_build_227, DX5_build_228, DX5_build_231, DX5_build_232, DX5_build_233, ce_X5_isIn, ↓ct_X5_isIn, ycl_X5_isIn, ce_X5_fail, ↓ct_X5_fail, ycl_X5_fail, ce_X5_coveredBy, ↓ct_X5_coveredBy, ycl_X5_coveredBy, ce_ci, ce_X5_castAll, ↓ct_X5_castAll, ycl_X5_castAll, cX_nil mhh_X5_build]
  simp (disch := omega) only [i32_lit, i32_neg, i32_add, i32_mul, i32_sub, i32_nI, i32_lt, i32_le, i32_eq, inR_i, i32_clamp, i32_div, i32_max, i32_min, ite_max, ite_min, b2i_0, b2i_1, b2i_01, i32_toInt, tn_i, Int.toNat_natCast, em_t, true_and, and_true, Int.reduceToNat, Int.reduceLE, Int.reduceLT, Int.reduceAdd, Int.reduceMul, Int.reduceSub, Int.reduceNeg, Int.reduceEq, true_implies, not_true_eq_false, false_implies, not_false_eq_true, hM, hk, fd, fe, fb, fl, a5, k5, l5, a6, k6, l6, a7, k7, l7, a8, k8, l8, a9, k9, l9, a10, k10, l10, a11, k11, l11, true_and, and_true, Option.some.injEq, exists_eq_left', nmOf_0, nmOf_1, nmOf_2, nmOf_3, nmOf_4, nmOf_5, nmOf_6, Nat.add_sub_cancel, Nat.reduceSub, Nat.reduceLT, Nat.reduceEqDiff, ne_eq, not_false_eq_true]
  exact ⟨fun h1 => ⟨by omega, by omega, fun a h0 _ => tl_X5_build160 G hW hv (Classical.not_not.mp h1) hM hC h0 hf (hq (Classical.not_not.mp h1))⟩, hq2⟩
set_option maxRecDepth 100000 in
set_option maxHeartbeats 4000000 in
theorem ok_X5_build (G : GT) (A : Nat → Nat) (S : SS) (hW : WF S) : OKm G yX5_build MX5_build 7 1 7 (ct_X5_build A S) := by
  refine mkOK (ini := false) (by decide) rfl (by first | exact fun _ => rfl | (intro hh; cases hh)) (fun As h Q QX hc => ?_)
  replace hc := sR_e hc; obtain ⟨m, r, rfl, hc⟩ := hc
  replace hc := sI_e hc; obtain ⟨x, r, rfl, hc⟩ := hc
  replace hc := sI_e hc; obtain ⟨y, r, rfl, hc⟩ := hc
  replace hc := sI_e hc; obtain ⟨w, r, rfl, hc⟩ := hc
  replace hc := sI_e hc; obtain ⟨d, r, rfl, hc⟩ := hc
  replace hc := sI_e hc; obtain ⟨t, r, rfl, hc⟩ := hc
  replace hc := sI_e hc; obtain ⟨o, r, rfl, hc⟩ := hc
  replace hc := s0_e hc; obtain ⟨rfl, hc⟩ := hc
  obtain ⟨xV, hxV, rfl⟩ := i32_all x
  obtain ⟨yV, hyV, rfl⟩ := i32_all y
  obtain ⟨wV, hwV, rfl⟩ := i32_all w
  obtain ⟨dV, hdV, rfl⟩ := i32_all d
  obtain ⟨tV, htV, rfl⟩ := i32_all t
  obtain ⟨oV, hoV, rfl⟩ := i32_all o
  simp only [i32_toInt hxV, i32_toInt hyV, i32_toInt hwV, tn_i hwV, i32_toInt hdV, tn_i hdV, i32_toInt htV, i32_toInt hoV] at hc
  obtain ⟨hM, hC, hv, hf⟩ := hc
  have hk := hM.1.1
  replace hM : MD (t0 h m) m A S := MD_s0 hM
  replace hC : MC (t0 h m) A S := hC
  have hf0 : fi (t0 h m) 6 0 m = i32 0 := by unfold t0; rw [fi_setI, if_pos ⟨rfl, rfl, rfl⟩]; rfl
  refine ⟨Nat.le_of_ble_eq_true rfl, ?_⟩
  simp only [ent, entL, catN, List.length_cons, List.length_nil, List.replicate, List.cons_append, List.nil_append, reduceIte, Nat.reduceEqDiff,  Nat.reduceAdd, Nat.reduceSub, mnl_X5_build]
  refine wpW (cs := [(39, ce_X5_isIn), (67, ce_X5_fail), (60, ce_X5_coveredBy A S), (71, ce_ci), (77, ce_X5_castAll A S)]) (stop := [5]) (n := 200) (env_cons (ceS (by decide +kernel) ⟨by decide, by decide, by decide +kernel⟩ (by decide) (ok_X5_isIn G)) (env_cons (ceV (by decide +kernel) ⟨by decide, by decide, by decide +kernel⟩ (by decide) rfl (ok_X5_fail G)) (env_cons (ceV (by decide +kernel) ⟨by decide, by decide, by decide +kernel⟩ (by decide) rfl (ok_X5_coveredBy G A S hW)) (env_cons (ce_ciOK (by decide +kernel)) (env_cons (ceV (by decide +kernel) ⟨by decide, by decide, by decide +kernel⟩ (by decide) rfl (ok_X5_castAll G A S hW)) (env_nil0 (env_hh rfl))))))) ?_
  simp only [↓wpN_S, ↓step_u, ↓stC_s, stC_s, ↓stF_u, stF_u, ↓stepI, lenI, ↓kN_u, isS, ↓gI_0, ↓gI_S, ↓gL_0, ↓gL_S, ↓gD_0, ↓gD_S, ↓gR_0, ↓gR_S, ↓sI_c, ↓sL_c, ↓sD_c, ↓sR_c, ↓s1_r, ↓s1_i, ↓vR_r, ↓vR_n, ↓s0_n, s0_n, ↓oR_u, ↓sP_u, ↓sPa_0, ↓sPa_S, ↓lkC_c, ↓callK_u, ↓cQ_s, ↓cQ_n, putL, putW, clr, kil, catS, catN, refF, booF, finF, nF, nmOf_0, nmOf_1, nmOf_2, nmOf_3, nmOf_4, nmOf_5, nmOf_6, nmOf_50, nmOf_51, nmOf_52, ↓reduceIte, reduceIte, Bool.false_eq_true, eq_self, true_or, or_true, true_and, and_true, false_or, or_false, Nat.reduceAdd, Nat.reduceSub, Nat.reduceEqDiff, Nat.reduceLT, Nat.reduceLeDiff, reduceCtorEq, true_implies, List.length_cons, List.length_nil, List.replicate, List.cons_append, List.nil_append, mrt_X5_build, mhh_X5_build, mow_X5_build, mnl_X5_build, DX5_build_0, DX5_build_1, DX5_build_2, DX5_build_5, DX5_build_6, DX5_build_7, DX5_build_9, DX5_build_12, DX5_build_15, DX5_build_17, DX5_build_18, DX5_build_20, DX5_build_23, DX5_build_26, DX5_build_27, DX5_build_28, DX5_build_30, DX5_build_31, DX5_build_32, DX5_build_35, DX5_build_38, DX5_build_39, DX5_build_40, DX5_build_42, DX5_build_44, DX5_build_45, DX5_build_48, DX5_build_51, DX5_build_53, DX5_build_54, DX5_build_56, DX5_build_59, DX5_build_62, DX5_build_64, DX5_build_65, DX5_build_67, DX5_build_70, DX5_build_73, DX5_build_74, DX5_build_75, DX5_build_78, DX5_build_79, DX5_build_80, DX5_build_83, DX5_build_85, DX5_build_88, DX5_build_89, DX5_build_92, DX5_build_93, DX5_build_95, DX5_build_96, DX5_build_98, DX5_build_100, DX5_build_101, DX5_build_103, DX5_build_104, DX5_build_107, DX5_build_109, DX5_build_112, DX5_build_113, DX5_build_114, DX5_build_116, DX5_build_117, DX5_build_118, DX5_build_119, DX5_build_120, DX5_build_122, DX5_build_123, DX5_build_124, DX5_build_125, DX5_build_128, DX5_build_129, DX5_build_132, DX5_build_133, DX5_build_136, DX5_build_137, DX5_build_139, DX5_build_142, DX5_build_145, DX5_build_147, DX5_build_150, DX5_build_151, DX5_build_152, DX5_build_155, DX5_build_156, DX5_build_158, DX5_build_160, DX5_build_161, DX5_build_162, DX5_build_163, DX5_build_164, DX5_build_165, DX5_build_166, DX5_build_167, DX5_build_168, DX5_build_169, DX5_build_170, DX5_build_171, DX5_build_172, DX5_build_173, DX5_build_174, DX5_build_176, DX5_build_177, DX5_build_178, DX5_build_179, DX5_build_181, DX5_build_182, DX5_build_183, DX5_build_184, DX5_build_186, DX5_build_187, DX5_build_188, DX5_build_190, DX5_build_191, DX5_build_192, DX5_build_194, DX5_build_196, DX5_build_197, DX5_build_198, DX5_build_201, DX5_build_203, DX5_build_204, DX5_build_207, DX5_build_208, DX5_build_210, DX5_build_213, DX5_build_214, DX5_build_215, DX5_build_218, DX5_build_219, DX5_build_220, DX5_build_223, DX5_build_224, DX5_build_227, DX5_build_228, DX5_build_231, DX5_build_232, DX5_build_233, ce_X5_isIn, ↓ct_X5_isIn, ycl_X5_isIn, ce_X5_fail, ↓ct_X5_fail, ycl_X5_fail, ce_X5_coveredBy, ↓ct_X5_coveredBy, ycl_X5_coveredBy, ce_ci, ce_X5_castAll, ↓ct_X5_castAll, ycl_X5_castAll, cX_nil mhh_X5_build]
  simp only [hk, true_and, false_implies]
  unfold tX at hf
  change Wp G MX5_build false 7 Q QX 5 _ [] (t0 h m) _
  generalize t0 h m = g at *
  clear hk
  have hnb := hW.1
  have hnl := hW.2.1
  have hM0 := hM
  obtain ⟨⟨hk, hA, hJ⟩, fd, fe, fb, fl, hB, hL, hN, hG, hP⟩ := hM0
  obtain ⟨a5, k5, l5⟩ := hA 5 (by omega) (by omega)
  obtain ⟨a6, k6, l6⟩ := hA 6 (by omega) (by omega)
  obtain ⟨a7, k7, l7⟩ := hA 7 (by omega) (by omega)
  obtain ⟨a8, k8, l8⟩ := hA 8 (by omega) (by omega)
  obtain ⟨a9, k9, l9⟩ := hA 9 (by omega) (by omega)
  obtain ⟨a10, k10, l10⟩ := hA 10 (by omega) (by omega)
  obtain ⟨a11, k11, l11⟩ := hA 11 (by omega) (by omega)
  simp only [mLen] at l5 l6 l7 l8 l9 l10 l11
  refine wpW (cs := [(39, ce_X5_isIn), (67, ce_X5_fail), (60, ce_X5_coveredBy A S), (71, ce_ci), (77, ce_X5_castAll A S)]) (stop := [5, 98]) (n := 200) (env_cons (ceS (by decide +kernel) ⟨by decide, by decide, by decide +kernel⟩ (by decide) (ok_X5_isIn G)) (env_cons (ceV (by decide +kernel) ⟨by decide, by decide, by decide +kernel⟩ (by decide) rfl (ok_X5_fail G)) (env_cons (ceV (by decide +kernel) ⟨by decide, by decide, by decide +kernel⟩ (by decide) rfl (ok_X5_coveredBy G A S hW)) (env_cons (ce_ciOK (by decide +kernel)) (env_cons (ceV (by decide +kernel) ⟨by decide, by decide, by decide +kernel⟩ (by decide) rfl (ok_X5_castAll G A S hW)) (env_nil0 (env_hh rfl))))))) ?_
  simp only [↓wpN_S, ↓step_u, ↓stC_s, stC_s, ↓stF_u, stF_u, ↓stepI, lenI, ↓kN_u, isS, ↓gI_0, ↓gI_S, ↓gL_0, ↓gL_S, ↓gD_0, ↓gD_S, ↓gR_0, ↓gR_S, ↓sI_c, ↓sL_c, ↓sD_c, ↓sR_c, ↓s1_r, ↓s1_i, ↓vR_r, ↓vR_n, ↓s0_n, s0_n, ↓oR_u, ↓sP_u, ↓sPa_0, ↓sPa_S, ↓lkC_c, ↓callK_u, ↓cQ_s, ↓cQ_n, putL, putW, clr, kil, catS, catN, refF, booF, finF, nF, nmOf_0, nmOf_1, nmOf_2, nmOf_3, nmOf_4, nmOf_5, nmOf_6, nmOf_50, nmOf_51, nmOf_52, ↓reduceIte, reduceIte, Bool.false_eq_true, eq_self, true_or, or_true, true_and, and_true, false_or, or_false, Nat.reduceAdd, Nat.reduceSub, Nat.reduceEqDiff, Nat.reduceLT, Nat.reduceLeDiff, reduceCtorEq, true_implies, List.length_cons, List.length_nil, List.replicate, List.cons_append, List.nil_append, mrt_X5_build, mhh_X5_build, mow_X5_build, mnl_X5_build, DX5_build_0, DX5_build_1, DX5_build_2, DX5_build_5, DX5_build_6, DX5_build_7, DX5_build_9, DX5_build_12, DX5_build_15, DX5_build_17, DX5_build_18, DX5_build_20, DX5_build_23, DX5_build_26, DX5_build_27, DX5_build_28, DX5_build_30, DX5_build_31, DX5_build_32, DX5_build_35, DX5_build_38, DX5_build_39, DX5_build_40, DX5_build_42, DX5_build_44, DX5_build_45, DX5_build_48, DX5_build_51, DX5_build_53, DX5_build_54, DX5_build_56, DX5_build_59, DX5_build_62, DX5_build_64, DX5_build_65, DX5_build_67, DX5_build_70, DX5_build_73, DX5_build_74, DX5_build_75, DX5_build_78, DX5_build_79, DX5_build_80, DX5_build_83, DX5_build_85, DX5_build_88, DX5_build_89, DX5_build_92, DX5_build_93, DX5_build_95, DX5_build_96, DX5_build_98, DX5_build_100, DX5_build_101, DX5_build_103, DX5_build_104, DX5_build_107, DX5_build_109, DX5_build_112, DX5_build_113, DX5_build_114, DX5_build_116, DX5_build_117, DX5_build_118, DX5_build_119, DX5_build_120, DX5_build_122, DX5_build_123, DX5_build_124, DX5_build_125, DX5_build_128, DX5_build_129, DX5_build_132, DX5_build_133, DX5_build_136, DX5_build_137, DX5_build_139, DX5_build_142, DX5_build_145, DX5_build_147, DX5_build_150, DX5_build_151, DX5_build_152, DX5_build_155, DX5_build_156, DX5_build_158, DX5_build_160, DX5_build_161, DX5_build_162, DX5_build_163, DX5_build_164, DX5_build_165, DX5_build_166, DX5_build_167, DX5_build_168, DX5_build_169, DX5_build_170, DX5_build_171, DX5_build_172, DX5_build_173, DX5_build_174, DX5_build_176, DX5_build_177, DX5_build_178, DX5_build_179, DX5_build_181, DX5_build_182, DX5_build_183, DX5_build_184, DX5_build_186, DX5_build_187, DX5_build_188, DX5_build_190, DX5_build_191, DX5_build_192, DX5_build_194, DX5_build_196, DX5_build_197, DX5_build_198, DX5_build_201, DX5_build_203, DX5_build_204, DX5_build_207, DX5_build_208, DX5_build_210, DX5_build_213, DX5_build_214, DX5_build_215, DX5_build_218, DX5_build_219, DX5_build_220, DX5_build_223, DX5_build_224, DX5_build_227, DX5_build_228, DX5_build_231, DX5_build_232, DX5_build_233, ce_X5_isIn, ↓ct_X5_isIn, ycl_X5_isIn, ce_X5_fail, ↓ct_X5_fail, ycl_X5_fail, ce_X5_coveredBy, ↓ct_X5_coveredBy, ycl_X5_coveredBy, ce_ci, ce_X5_castAll, ↓ct_X5_castAll, ycl_X5_castAll, cX_nil mhh_X5_build]
  simp (disch := omega) only [i32_lit, i32_neg, i32_add, i32_mul, i32_sub, i32_nI, i32_lt, i32_le, i32_eq, inR_i, i32_clamp, i32_div, i32_max, i32_min, ite_max, ite_min, b2i_0, b2i_1, b2i_01, i32_toInt, tn_i, Int.toNat_natCast, em_t, true_and, and_true, Int.reduceToNat, Int.reduceLE, Int.reduceLT, Int.reduceAdd, Int.reduceMul, Int.reduceSub, Int.reduceNeg, Int.reduceEq, true_implies, not_true_eq_false, false_implies, not_false_eq_true, hM, hk, fd, fe, fb, fl, a5, k5, l5, a6, k6, l6, a7, k7, l7, a8, k8, l8, a9, k9, l9, a10, k10, l10, a11, k11, l11, true_and, and_true, Option.some.injEq, exists_eq_left', nmOf_0, nmOf_1, nmOf_2, nmOf_3, nmOf_4, nmOf_5, nmOf_6, Nat.add_sub_cancel, Nat.reduceSub, Nat.reduceLT, Nat.reduceEqDiff, ne_eq, not_false_eq_true, hC]
  refine ⟨fun h1 => hf.1 (fun q => h1 q.1), fun h1 => ⟨fun h2 => hf.1 (fun q => h2 q.2.1), fun h2 => ?_⟩⟩
  have h1 := Classical.not_not.mp h1
  have h2 := Classical.not_not.mp h2
  simp (disch := omega) only [i32_lit, i32_neg, i32_add, i32_mul, i32_sub, i32_nI, i32_lt, i32_le, i32_eq, inR_i, i32_clamp, i32_div, i32_max, i32_min, ite_max, ite_min, b2i_0, b2i_1, b2i_01, i32_toInt, tn_i, Int.toNat_natCast, em_t, true_and, and_true, Int.reduceToNat, Int.reduceLE, Int.reduceLT, Int.reduceAdd, Int.reduceMul, Int.reduceSub, Int.reduceNeg, Int.reduceEq, true_implies, not_true_eq_false, false_implies, not_false_eq_true]
  refine ⟨fun h3 => hf.1 (fun q => h3 q.2.2.1), fun h3 => ⟨fun h4 => hf.1 (fun q => h4 q.2.2.2.1), fun h4 => ⟨fun h5 => hf.1 (fun q => h5 q.2.2.2.2.1), fun h5 => ⟨fun h6 => ?_, fun h6 => hf.1 (fun q => h6 q.2.2.2.2.2)⟩⟩⟩⟩
  obtain ⟨wn, rfl⟩ := Int.eq_ofNat_of_zero_le (show 0 ≤ wV by omega)
  obtain ⟨dn, rfl⟩ := Int.eq_ofNat_of_zero_le (show 0 ≤ dV by omega)
  have hvb : vbC xV yV wn dn tV oV := ⟨h1, h2, Classical.not_not.mp h3, Classical.not_not.mp h4, Classical.not_not.mp h5, Classical.not_not.mp h6⟩
  simp only [Int.toNat_natCast] at hv hf
  have hz : ∀ Ls, lsub [some (.ref m), some (.int (i32 xV)), some (.int (i32 yV)), some (.int (i32 wn)), some (.int (i32 dn)), some (.int (i32 tV)), some (.int (i32 oV)), some (.int (b2i (frB S xV yV wn (wn * dn) = true))), none] Ls → Wp G MX5_build false 7 Q QX 145 Ls [] g (1, 7) := fun Ls hl => Wp.sub (tl_X5_build145 (Q := Q) (QX := QX) G hW hvb hM hC hf0 (fun q => hv ⟨hvb, q⟩) (fun q => hf.2 ⟨hvb, q⟩)) hl
  refine ⟨fun h7 => ?_, fun h7 => ?_⟩
  · exact lp_X5_build G hW hvb hM hz (wn * dn) 0 (by omega) _ (b2i_f (fun q => by have := frB_0 _ q; omega)).symm
  · exact lp_X5_build G hW hvb hM hz (wn * dn) 0 (by omega) _ (b2i_t (by simp only [frB, decide_eq_true_eq]; omega)).symm
