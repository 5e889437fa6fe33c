theorem anyN_f {p : Nat → Bool} : ∀ n, (∀ i, i < n → p i = false) → anyN p n = false
  | 0, _ => rfl
  | n + 1, h => by unfold anyN; rw [anyN_f n (fun i hi => h i (by omega)), h n (by omega)]; rfl

theorem fstK_s (p : Nat → Bool) (s n : Nat) (h : p s = true) : fstK p s (n + 1) = s := by unfold fstK; rw [if_pos h]
theorem fstK_n (p : Nat → Bool) (s n : Nat) (h : p s = false) : fstK p s (n + 1) = fstK p (s + 1) n := by rw [fstK, if_neg (by rw [h]; decide)]

theorem cst_0 {S : SS} {n r : Nat} {x y : Int} (h : stp S n r x y = 0) : cst S r x y (n + 1) = cst S r x y n := by rw [cst, if_pos h]
theorem cst_o {S : SS} {n r : Nat} {x y : Int} (h : ¬ stp S n r x y = 0) (h2 : (cst S r x y n).1 ≠ -1 ∧ (cst S r x y n).2.2 ≤ stp S n r x y) : cst S r x y (n + 1) = ((cst S r x y n).1, (cst S r x y n).2.1 + 1, (cst S r x y n).2.2) := by rw [cst, if_neg h, if_pos h2]
theorem cst_n {S : SS} {n r : Nat} {x y : Int} (h : ¬ stp S n r x y = 0) (h2 : ¬ ((cst S r x y n).1 ≠ -1 ∧ (cst S r x y n).2.2 ≤ stp S n r x y)) : cst S r x y (n + 1) = ((n : Int), (cst S r x y n).2.1 + 1, stp S n r x y) := by rw [cst, if_neg h, if_neg h2]
theorem cst_l {S : SS} {r : Nat} {x y : Int} (hW : WF S) (hr : r < 12) : ∀ n, n ≤ S.nb → (cst S r x y n).2.2 ≤ 28
  | 0, _ => by simp [cst]
  | n + 1, hn => by
    have h := cst_l (x := x) (y := y) hW hr n (by omega)
    have h2 := stp_le (x := x) (y := y) hW (show n < S.nb by omega) hr
    unfold cst
    split
    · exact h
    · split
      · exact h
      · exact h2

/-- the sum over the cells, for what < 2 -/
def hr5 (S : SS) (r w n : Nat) : Int := sumN (fun c => if w = 0 then (if 0 ≤ bel S r c then 1 else 0) else (if 1 < shd S r c then 1 else 0)) n

/-! ===== the reference: its public reads ===== -/
/-- no exception, exception v -/
def t0 (h : Hp) (m : Nat) : Hp := setI h 6 0 m 0

theorem swP_0 {x : Int32} {v : Int} {f : Nat → Prop} : swP x v [] f = True := rfl
theorem swP_S {x : Int32} {v : Int} {t : Nat} {r : List Nat} {f : Nat → Prop} : swP x v (t :: r) f = ((x.toInt = v → 0 < t ∧ f t) ∧ swP x (v + 1) r f) := rfl
/-! cellOf -/
def cnt (S : SS) (r : Nat) (b : Int) (n : Nat) : Int := sumN (fun c => if bel S r c = b then 1 else 0) n

/-! the changes of a state -/
def SS.uB (S : SS) (b k : Nat) (v : Int) : SS := (S.1, S.2.1, fun b' k' => if b' = b ∧ k' = k then v else S.bf b' k', S.2.2.2)
def SS.uL (S : SS) (l k : Nat) (v : Int) : SS := (S.1, S.2.1, S.2.2.1, fun l' k' => if l' = l ∧ k' = k then v else S.lf l' k', S.2.2.2.2)
theorem cov_cg {S T : SS} (h2 : SS.bf S = SS.bf T) : cov S = cov T := by
  funext b x y
  unfold cov
  rw [h2]
theorem stp_cg {S T : SS} (h2 : SS.bf S = SS.bf T) (h3 : SS.sn S = SS.sn T) : stp S = stp T := by
  funext b r x y
  unfold stp reach
  rw [cov_cg h2, h2, h3]
theorem cst_cg {S T : SS} (h2 : SS.bf S = SS.bf T) (h3 : SS.sn S = SS.sn T) (r : Nat) (x y : Int) : ∀ n, cst S r x y n = cst T r x y n
  | 0 => rfl
  | n + 1 => by
    unfold cst
    rw [cst_cg h2 h3 r x y n, stp_cg h2 h3]
theorem bel_cg {S T : SS} (h1 : SS.nb S = SS.nb T) (h2 : SS.bf S = SS.bf T) (h3 : SS.sn S = SS.sn T) : bel S = bel T := by
  funext r c
  unfold bel isCov
  rw [cov_cg h2, h1, cst_cg h2 h3]
theorem shd_cg {S T : SS} (h1 : SS.nb S = SS.nb T) (h2 : SS.bf S = SS.bf T) (h3 : SS.sn S = SS.sn T) : shd S = shd T := by
  funext r c
  unfold shd isCov
  rw [cov_cg h2, h1, cst_cg h2 h3]

/-! ===== the reference: end, setPrice ===== -/
theorem WF_uL {S : SS} {l k : Nat} {v : Int} (hW : WF S) (h : WL (S.uL l k v)) : WF (S.uL l k v) := by
  obtain ⟨a1, a2, a3, a4, a5, a6, a7, a8⟩ := hW
  exact ⟨a1, a2, a3, h, a5, a6, a7, a8⟩
theorem WL_uL {S : SS} {l k : Nat} {v : Int} (hW : WL S) (h : (k = 6 ∧ (v = 0 ∨ v = 1)) ∨ (k = 5 ∧ 1 ≤ v ∧ v ≤ 99) ∨ (k = 7 ∧ 0 ≤ v ∧ v ≤ 2) ∨ k = 8) : WL (S.uL l k v) := by
  intro i hi
  obtain ⟨w0, w0', w1, w1', w2, w2', w3, w4, w4', w5, w5', w6, w7, w7'⟩ := hW i hi
  have e : ∀ q, (S.uL l k v).lf i q = if i = l ∧ q = k then v else S.lf i q := fun q => rfl
  have e2 : (S.uL l k v).nb = S.nb := rfl
  clear hi
  simp only [e, e2]
  by_cases z : i = l
  · rcases h with ⟨rfl, h⟩ | ⟨rfl, h⟩ | ⟨rfl, h⟩ | rfl <;> subst z <;> simp <;> omega
  · simp only [z, false_and, if_false]
    exact ⟨w0, w0', w1, w1', w2, w2', w3, w4, w4', w5, w5', w6, w7, w7'⟩
theorem lf_uL {S : SS} {l k i q : Nat} {v : Int} : (S.uL l k v).lf i q = if i = l ∧ q = k then v else S.lf i q := rfl

/-! ===== the reference: setHeight, raise ===== -/
theorem WF_uB4 {S : SS} {b : Nat} {v : Int} (hW : WF S) (hv : 1 ≤ v ∧ v ≤ 9) : WF (S.uB b 4 v) := by
  obtain ⟨a1, a2, a3, a4, a5, a6, a7, a8⟩ := hW
  have e : ∀ i q, (S.uB b 4 v).bf i q = if i = b ∧ q = 4 then v else S.bf i q := fun i q => rfl
  have hc : cov (S.uB b 4 v) = cov S := by
    funext i x y
    unfold cov
    simp only [e, Nat.reduceEqDiff, and_false, if_false]
  refine ⟨a1, a2, fun i hi => ?_, a4, a5, a6, a7, fun b1 b2 x y h1 h2 h3 h4 => a8 b1 b2 x y h1 h2 (by rw [← hc]; exact h3) (by rw [← hc]; exact h4)⟩
  have := a3 i hi
  simp only [e, Nat.reduceEqDiff, and_false, if_false, and_true]
  by_cases z : i = b
  · simp only [z, if_true]; subst z; omega
  · simp only [z, if_false]; exact this

/-! ===== what is left as it was: all but the rows and objects of W ===== -/
def Fr (h h' : Hp) (W : Nat → Prop) : Prop := ∀ a, kd h a ≠ 0 → (kd h' a = kd h a ∧ ln h' a = ln h a) ∧ (¬ W a → (∀ c k, fi h' c k a = fi h c k a) ∧ (∀ c k, fr h' c k a = fr h c k a) ∧ (∀ i, ia h' a i = ia h a i) ∧ (∀ i, ja h' a i = ja h a i) ∧ ∀ i, ra h' a i = ra h a i)
section FR
variable {h h' h'' : Hp} {W W' : Nat → Prop}
theorem Fr.rf : Fr h h W := fun _ _ => ⟨⟨rfl, rfl⟩, fun _ => ⟨fun _ _ => rfl, fun _ _ => rfl, fun _ => rfl, fun _ => rfl, fun _ => rfl⟩⟩
theorem Fr.tr (f : Fr h h' W) (g : Fr h' h'' W) : Fr h h'' W := fun a ha => by
  obtain ⟨⟨f1, f2⟩, f3⟩ := f a ha
  obtain ⟨⟨g1, g2⟩, g3⟩ := g a (by rw [f1]; exact ha)
  refine ⟨⟨g1.trans f1, g2.trans f2⟩, fun hw => ?_⟩
  obtain ⟨p1, p2, p3, p4, p5⟩ := f3 hw
  obtain ⟨q1, q2, q3, q4, q5⟩ := g3 hw
  exact ⟨fun c k => (q1 c k).trans (p1 c k), fun c k => (q2 c k).trans (p2 c k), fun i => (q3 i).trans (p3 i), fun i => (q4 i).trans (p4 i), fun i => (q5 i).trans (p5 i)⟩
theorem Fr.up (f : Fr h h' W) (hw : ∀ a, W a → W' a) : Fr h h' W' := fun a ha => ⟨(f a ha).1, fun q => (f a ha).2 (fun z => q (hw a z))⟩
theorem Fr.sI {c k a : Nat} {v : Int32} (ha : W a) : Fr h (setI h c k a v) W := fun b _ => ⟨⟨rfl, rfl⟩, fun q => have e : b ≠ a := fun z => q (z ▸ ha); ⟨fun c k => by rw [fi_setI, if_neg (fun z => e z.2.2)], fun _ _ => rfl, fun _ => rfl, fun _ => rfl, fun _ => rfl⟩⟩
theorem Fr.sR {c k a : Nat} {v : Option Nat} (ha : W a) : Fr h (setR h c k a v) W := fun b _ => ⟨⟨rfl, rfl⟩, fun q => have e : b ≠ a := fun z => q (z ▸ ha); ⟨fun _ _ => rfl, fun c k => by rw [fr_setR, if_neg (fun z => e z.2.2)], fun _ => rfl, fun _ => rfl, fun _ => rfl⟩⟩
theorem Fr.sA {a i : Nat} {v : Int32} (ha : W a) : Fr h (setIA h a i v) W := fun b _ => ⟨⟨rfl, rfl⟩, fun q => have e : b ≠ a := fun z => q (z ▸ ha); ⟨fun _ _ => rfl, fun _ _ => rfl, fun i => by rw [ia_setIA, if_neg (fun z => e z.1)], fun _ => rfl, fun _ => rfl⟩⟩
theorem Fr.sRA {a i : Nat} {v : Option Nat} (ha : W a) : Fr h (setRA h a i v) W := fun b _ => ⟨⟨rfl, rfl⟩, fun q => have e : b ≠ a := fun z => q (z ▸ ha); ⟨fun _ _ => rfl, fun _ _ => rfl, fun _ => rfl, fun _ => rfl, fun i => by rw [ra_setRA, if_neg (fun z => e z.1)]⟩⟩
theorem Fr.cR {a0 a sp dp n : Nat} (ha : W a) : Fr h (cpRA h a0 a sp dp n) W := fun b _ => ⟨⟨rfl, rfl⟩, fun q => have e : b ≠ a := fun z => q (z ▸ ha); ⟨fun _ _ => rfl, fun _ _ => rfl, fun _ => rfl, fun _ => rfl, fun i => by rw [ra_cpRA, if_neg (fun z => e z.1)]⟩⟩
theorem Fr.nA {a t n : Nat} (h0 : kd h a = 0) : Fr h (newA h a t n) W := fun b hb => by
  have e : b ≠ a := fun z => hb (z ▸ h0)
  refine ⟨⟨by rw [kd_newA, if_neg e], by rw [ln_newA, if_neg e]⟩, fun _ => ⟨fun _ _ => rfl, fun _ _ => rfl, fun i => by rw [ia_newA, if_neg e], fun i => by rw [ja_newA, if_neg e], fun i => by rw [ra_newA, if_neg e]⟩⟩
theorem Fr.nO {a c : Nat} (h0 : kd h a = 0) : Fr h (newO h a c) W := fun b hb => by
  have e : b ≠ a := fun z => hb (z ▸ h0)
  refine ⟨⟨by rw [kd_newO, if_neg e], rfl⟩, fun _ => ⟨fun c k => by rw [fi_newO, if_neg e], fun c k => by rw [fr_newO, if_neg e], fun _ => rfl, fun _ => rfl, fun _ => rfl⟩⟩
/-- what was fresh before: rows made since may be forgotten -/
theorem Fr.nw {W2 : Nat → Prop} (f : Fr h h' W) (g : Fr h' h'' W2) (hw : ∀ a, W2 a → W a ∨ kd h a = 0) : Fr h h'' W := fun a ha => by
  obtain ⟨⟨f1, f2⟩, f3⟩ := f a ha
  obtain ⟨⟨g1, g2⟩, g3⟩ := g a (by rw [f1]; exact ha)
  refine ⟨⟨g1.trans f1, g2.trans f2⟩, fun hn => ?_⟩
  obtain ⟨p1, p2, p3, p4, p5⟩ := f3 hn
  obtain ⟨q1, q2, q3, q4, q5⟩ := g3 (fun z => (hw a z).elim hn ha)
  exact ⟨fun c k => (q1 c k).trans (p1 c k), fun c k => (q2 c k).trans (p2 c k), fun i => (q3 i).trans (p3 i), fun i => (q4 i).trans (p4 i), fun i => (q5 i).trans (p5 i)⟩
end FR
theorem SS_ext {S T : SS} (h1 : S.nb = T.nb) (h2 : S.nl = T.nl) (h3 : ∀ b k, S.bf b k = T.bf b k) (h4 : ∀ b k, S.lf b k = T.lf b k) (h5 : ∀ b k, S.sn b k = T.sn b k) (h6 : ∀ o, S.gt o = T.gt o) (h7 : ∀ o, S.pd o = T.pd o) (h8 : S.dy = T.dy) (h9 : S.ev = T.ev) : S = T := by
  obtain ⟨s1, s2, s3, s4, s5, s6, s7, s8, s9⟩ := S
  obtain ⟨t1, t2, t3, t4, t5, t6, t7, t8, t9⟩ := T
  have e1 : s1 = t1 := h1
  have e2 : s2 = t2 := h2
  have e3 : s3 = t3 := funext (fun b => funext (fun k => h3 b k))
  have e4 : s4 = t4 := funext (fun b => funext (fun k => h4 b k))
  have e5 : s5 = t5 := funext (fun b => funext (fun k => h5 b k))
  have e6 : s6 = t6 := funext h6
  have e7 : s7 = t7 := funext h7
  have e8 : s8 = t8 := h8
  have e9 : s9 = t9 := h9
  subst e1 e2 e3 e4 e5 e6 e7 e8 e9
  rfl
/-! ===== the reference: build ===== -/
def SS.aB (S : SS) (f : Nat → Int) : SS := (S.nb + 1, S.nl, fun b k => if b = S.nb then f k else S.bf b k, S.2.2.2)
def bS (x y w d t o : Int) : Nat → Int
  | 0 => x
  | 1 => y
  | 2 => w
  | 3 => d
  | 4 => t
  | 5 => o
  | _ => 1
theorem bf_aB {S : SS} {f : Nat → Int} {b k : Nat} : (S.aB f).bf b k = if b = S.nb then f k else S.bf b k := rfl
/-- is there room for a building, and are the first n of its cells free -/
def frB (S : SS) (x y : Int) (w : Nat) : Nat → Bool
  | 0 => decide (S.nb < 12)
  | n + 1 => frB S x y w n && ! isCov S (x + (n % w : Nat)) (y + (n / w : Nat))
def vbC (x y w d t o : Int) : Prop := (1 ≤ w ∧ w ≤ 6) ∧ (1 ≤ d ∧ d ≤ 6) ∧ (0 ≤ x ∧ x ≤ 16 - w) ∧ (0 ≤ y ∧ y ≤ 16 - d) ∧ (1 ≤ t ∧ t ≤ 9) ∧ (0 ≤ o ∧ o ≤ 7)
theorem frB_0 {S : SS} {x y : Int} {w : Nat} : ∀ n, frB S x y w n = true → S.nb < 12
  | 0, h => by simpa [frB] using h
  | n + 1, h => frB_0 (x := x) (y := y) (w := w) n (by simp only [frB, Bool.and_eq_true] at h; exact h.1)
theorem frB_i {S : SS} {x y : Int} {w : Nat} : ∀ n, frB S x y w n = true → ∀ j, j < n → isCov S (x + (j % w : Nat)) (y + (j / w : Nat)) = false
  | 0, _, j, hj => by omega
  | n + 1, h, j, hj => by
    simp only [frB, Bool.and_eq_true, Bool.not_eq_true'] at h
    rcases Nat.lt_or_ge j n with q | q
    · exact frB_i n h.1 j q
    · rw [show j = n by omega]; exact h.2
theorem anyN_e {p : Nat → Bool} : ∀ n, anyN p n = false → ∀ i, i < n → p i = false
  | 0, _, i, hi => by omega
  | n + 1, h, i, hi => by
    simp only [anyN, Bool.or_eq_false_iff] at h
    rcases Nat.lt_or_ge i n with q | q
    · exact anyN_e n h.1 i q
    · rw [show i = n by omega]; exact h.2
theorem WF_aB {S : SS} {x y t o : Int} {w d : Nat} (hW : WF S) (hv : vbC x y w d t o) (hf : frB S x y w (w * d) = true) : WF (S.aB (bS x y w d t o)) := by
  obtain ⟨a1, a2, a3, a4, a5, a6, a7, a8⟩ := hW
  obtain ⟨v1, v2, v3, v4, v5, v6⟩ := hv
  have hn := frB_0 _ hf
  have hi := frB_i _ hf
  have hc : ∀ b u v, b ≠ S.nb → cov (S.aB (bS x y w d t o)) b u v = cov S b u v := fun b u v e => by unfold cov; simp only [bf_aB, e, if_false]
  have hx : ∀ u v b, cov (S.aB (bS x y w d t o)) S.nb u v = true → b < S.nb → cov S b u v = true → False := fun u v b h1 h2 h3 => by
    unfold cov at h1
    simp only [bf_aB, if_true, bS, decide_eq_true_eq] at h1
    obtain ⟨-, g1, g2, g3, g4⟩ := h1
    obtain ⟨p, hp⟩ := Int.eq_ofNat_of_zero_le (show 0 ≤ u - x by omega)
    obtain ⟨q, hq⟩ := Int.eq_ofNat_of_zero_le (show 0 ≤ v - y by omega)
    have hpw : p < w := by omega
    have hqd : q < d := by omega
    have hj : q * w + p < w * d := by
      have : (q + 1) * w ≤ d * w := Nat.mul_le_mul_right w (by omega)
      rw [Nat.add_mul] at this
      rw [Nat.mul_comm w d]
      omega
    have h4 := hi (q * w + p) hj
    rw [show (q * w + p) % w = p by rw [Nat.mul_comm, Nat.mul_add_mod]; exact Nat.mod_eq_of_lt hpw, show (q * w + p) / w = q by rw [Nat.mul_comm, Nat.mul_add_div (by omega), Nat.div_eq_of_lt hpw, Nat.add_zero]] at h4
    rw [show x + (p : Int) = u by omega, show y + (q : Int) = v by omega] at h4
    have h5 := anyN_e _ h4 b h2
    rw [h3] at h5
    cases h5
  refine ⟨hn, a2, fun b hb => ?_, fun l hl => ?_, a5, a6, a7, fun b1 b2 u v h1 h2 h3 h4 => ?_⟩
  · simp only [bf_aB]
    have hb' : b < S.nb + 1 := hb
    by_cases e : b = S.nb
    · have q : bS x y w d t o 0 = x ∧ bS x y w d t o 1 = y ∧ bS x y w d t o 2 = w ∧ bS x y w d t o 3 = d ∧ bS x y w d t o 4 = t ∧ bS x y w d t o 5 = o ∧ bS x y w d t o 6 = 1 := ⟨rfl, rfl, rfl, rfl, rfl, rfl, rfl⟩
      simp only [e, if_true, q, or_true, and_true]; omega
    · simp only [e, if_false]; exact a3 b (by omega)
  · have h1 := a4 l hl
    have e1 : (S.aB (bS x y w d t o)).lf l = S.lf l := rfl
    have e2 : (S.aB (bS x y w d t o)).nb = S.nb + 1 := rfl
    rw [e1, e2]
    omega
  · have h1' : b1 < S.nb + 1 := h1
    have h2' : b2 < S.nb + 1 := h2
    by_cases e1 : b1 = S.nb <;> by_cases e2 : b2 = S.nb
    · omega
    · subst e1
      rw [hc b2 u v e2] at h4
      exact (hx u v b2 h3 (by omega) h4).elim
    · subst e2
      rw [hc b1 u v e1] at h3
      exact (hx u v b1 h4 (by omega) h3).elim
    · rw [hc b1 u v e1] at h3
      rw [hc b2 u v e2] at h4
      exact a8 b1 b2 u v (by omega) (by omega) h3 h4

theorem bf_uB {S : SS} {b k i q : Nat} {v : Int} : (S.uB b k v).bf i q = if i = b ∧ q = k then v else S.bf i q := rfl

/-! ===== the reference: setSun, let ===== -/
def SS.uS (S : SS) (r : Nat) (f : Nat → Int) : SS := (S.1, S.2.1, S.2.2.1, S.2.2.2.1, fun r' k => if r' = r then f k else S.sn r' k, S.2.2.2.2.2)
def sS (dx dy len : Int) : Nat → Int
  | 0 => dx
  | 1 => dy
  | _ => len
theorem sn_uS {S : SS} {r r' k : Nat} {f : Nat → Int} : (S.uS r f).sn r' k = if r' = r then f k else S.sn r' k := rfl
theorem stp_rc {S T : SS} {r : Nat} (h2 : SS.bf S = SS.bf T) (h3 : ∀ k, S.sn r k = T.sn r k) (b : Nat) (x y : Int) : stp S b r x y = stp T b r x y := by
  unfold stp reach
  rw [cov_cg h2, h2, h3 0, h3 1, h3 2]
theorem cst_rc {S T : SS} {r : Nat} (h2 : SS.bf S = SS.bf T) (h3 : ∀ k, S.sn r k = T.sn r k) (x y : Int) : ∀ n, cst S r x y n = cst T r x y n
  | 0 => rfl
  | n + 1 => by
    unfold cst
    rw [cst_rc h2 h3 x y n, stp_rc h2 h3]
theorem bel_rc {S T : SS} {r : Nat} (h1 : SS.nb S = SS.nb T) (h2 : SS.bf S = SS.bf T) (h3 : ∀ k, S.sn r k = T.sn r k) (c : Nat) : bel S r c = bel T r c := by
  unfold bel isCov
  rw [cov_cg h2, h1, cst_rc h2 h3]
theorem shd_rc {S T : SS} {r : Nat} (h1 : SS.nb S = SS.nb T) (h2 : SS.bf S = SS.bf T) (h3 : ∀ k, S.sn r k = T.sn r k) (c : Nat) : shd S r c = shd T r c := by
  unfold shd isCov
  rw [cov_cg h2, h1, cst_rc h2 h3]
def vsC (dx dy len : Int) : Prop := (-1 ≤ dx ∧ dx ≤ 1) ∧ (-1 ≤ dy ∧ dy ≤ 1) ∧ ¬ (dx = 0 ∧ dy = 0) ∧ (0 ≤ len ∧ len ≤ 6)

/-! ===== the reference: let ===== -/
def SS.aL (S : SS) (f : Nat → Int) : SS := (S.1, S.nl + 1, S.2.2.1, fun l k => if l = S.nl then f k else S.lf l k, S.2.2.2.2)
def lS (b t f l c p : Int) : Nat → Int
  | 0 => b
  | 1 => t
  | 2 => f
  | 3 => l
  | 4 => c
  | 5 => p
  | 6 => 1
  | _ => 0
theorem lf_aL {S : SS} {f : Nat → Int} {b k : Nat} : (S.aL f).lf b k = if b = S.nl then f k else S.lf b k := rfl
def vlC (t f l c p : Int) : Prop := (0 ≤ t ∧ t ≤ 15) ∧ (0 ≤ f ∧ f ≤ 11) ∧ (0 ≤ l ∧ l ≤ 11) ∧ f ≤ l ∧ (1 ≤ c ∧ c ≤ 60) ∧ (1 ≤ p ∧ p ≤ 99)
theorem WF_aL {S : SS} {b t f l c p : Int} (hW : WF S) (hb : 0 ≤ b ∧ b < S.nb) (hv : vlC t f l c p) (hn : S.nl < 40) : WF (S.aL (lS b t f l c p)) := by
  obtain ⟨a1, a2, a3, a4, a5, a6, a7, a8⟩ := hW
  obtain ⟨v1, v2, v3, v4, v5, v6⟩ := hv
  refine ⟨a1, hn, a3, fun i hi => ?_, a5, a6, a7, a8⟩
  have e2 : (S.aL (lS b t f l c p)).nb = S.nb := rfl
  have hi' : i < S.nl + 1 := hi
  simp only [lf_aL, e2]
  by_cases e : i = S.nl
  · have q : lS b t f l c p 0 = b ∧ lS b t f l c p 1 = t ∧ lS b t f l c p 2 = f ∧ lS b t f l c p 3 = l ∧ lS b t f l c p 4 = c ∧ lS b t f l c p 5 = p ∧ lS b t f l c p 6 = 1 ∧ lS b t f l c p 7 = 0 := ⟨rfl, rfl, rfl, rfl, rfl, rfl, rfl, rfl⟩
    simp only [e, if_true, q, or_true, and_true, true_and]; omega
  · simp only [e, if_false]; exact a4 i (by omega)

/-! ===== a day ===== -/
def earn (S : SS) (l : Nat) : Int := sumN (fun r => gts S l r * S.lf l 5) 12
/-- the first n leases have paid -/
def pdN (S : SS) (n : Nat) : SS := (S.1, S.2.1, S.2.2.1, fun l k => if l < n ∧ k = 8 then S.lf l 8 + earn S l else S.lf l k, S.2.2.2.2.1, fun o => S.gt o + sumN (fun l => if S.bf (S.lf l 0).toNat 5 = o then earn S l else 0) n, fun t => S.pd t + sumN (fun l => if S.lf l 1 = t then earn S l else 0) n, S.2.2.2.2.2.2.2)
def wv (S : SS) (l : Nat) : Int := if 2 * shH S l > S.lf l 3 - S.lf l 2 + 1 then S.lf l 7 + 1 else 0
/-- the first n are warned, or evicted -/
def evN (S : SS) (n : Nat) : SS := (S.1, S.2.1, S.2.2.1, fun l k => if l < n ∧ S.lf l 6 ≠ 0 then (if k = 7 then wv S l else if k = 6 ∧ 2 ≤ wv S l then 0 else S.lf l k) else S.lf l k, S.2.2.2.2.1, S.2.2.2.2.2.1, S.2.2.2.2.2.2.1, S.dy, S.ev + sumN (fun l => if S.lf l 6 ≠ 0 ∧ 2 ≤ wv S l then 1 else 0) n)
def SS.uD (S : SS) (d : Int) : SS := (S.1, S.2.1, S.2.2.1, S.2.2.2.1, S.2.2.2.2.1, S.2.2.2.2.2.1, S.2.2.2.2.2.2.1, d, S.ev)
def SS.uE (S : SS) (e : Int) : SS := (S.1, S.2.1, S.2.2.1, S.2.2.2.1, S.2.2.2.2.1, S.2.2.2.2.2.1, S.2.2.2.2.2.2.1, S.dy, e)
def SS.uG (S : SS) (o : Nat) (v : Int) : SS := (S.1, S.2.1, S.2.2.1, S.2.2.2.1, S.2.2.2.2.1, fun o' => if o' = o then v else S.gt o', S.2.2.2.2.2.2)
def SS.uP (S : SS) (t : Nat) (v : Int) : SS := (S.1, S.2.1, S.2.2.1, S.2.2.2.1, S.2.2.2.2.1, S.2.2.2.2.2.1, fun t' => if t' = t then v else S.pd t', S.2.2.2.2.2.2.2)
def dayS (S : SS) : SS := (evN (pdN S S.nl) S.nl).uD (S.dy + 1)
def passS (S : SS) : Nat → SS
  | 0 => S
  | n + 1 => dayS (passS S n)
/-- who stands has one warning at most -/
def WW (S : SS) : Prop := ∀ l, l < S.nl → S.lf l 6 ≠ 0 → S.lf l 7 ≤ 1
/-! what they leave alone -/
theorem hasH_cg {S T : SS} {l r : Nat} (h : ∀ k, k < 7 → S.lf l k = T.lf l k) : hasH S l r = hasH T l r := by
  unfold hasH
  rw [h 6 (by omega), h 2 (by omega), h 3 (by omega)]
theorem wnt_cg {S T : SS} (h1 : S.nl = T.nl) (h : ∀ l k, k < 7 → S.lf l k = T.lf l k) (b : Int) (r : Nat) (p q : Int) : wnt S b r p q = wnt T b r p q := by
  unfold wnt
  rw [h1]
  refine sumN_congr _ (fun i hi => ?_)
  rw [hasH_cg (h i), h i 0 (by omega), h i 5 (by omega), h i 4 (by omega)]
theorem area_cg {S T : SS} (h1 : SS.nb S = SS.nb T) (h2 : SS.bf S = SS.bf T) (h3 : SS.sn S = SS.sn T) : area S = area T := by
  funext b r
  unfold area
  rw [bel_cg h1 h2 h3]
theorem free_cg {S T : SS} (h0 : SS.nb S = SS.nb T) (h2 : SS.bf S = SS.bf T) (h3 : SS.sn S = SS.sn T) (h1 : S.nl = T.nl) (h : ∀ l k, k < 7 → S.lf l k = T.lf l k) (b : Int) (r : Nat) (p q : Int) : free S b r p q = free T b r p q := by
  unfold free
  rw [area_cg h0 h2 h3, wnt_cg h1 h]
theorem gts_cg {S T : SS} (h0 : SS.nb S = SS.nb T) (h2 : SS.bf S = SS.bf T) (h3 : SS.sn S = SS.sn T) (h1 : S.nl = T.nl) (h : ∀ l k, k < 7 → S.lf l k = T.lf l k) (l r : Nat) : gts S l r = gts T l r := by
  unfold gts
  rw [hasH_cg (h l), free_cg h0 h2 h3 h1 h, h l 4 (by omega), h l 0 (by omega), h l 5 (by omega)]
theorem shH_cg {S T : SS} (h0 : SS.nb S = SS.nb T) (h2 : SS.bf S = SS.bf T) (h3 : SS.sn S = SS.sn T) (h1 : S.nl = T.nl) (h : ∀ l k, k < 7 → S.lf l k = T.lf l k) (l : Nat) : shH S l = shH T l := by
  unfold shH
  refine sumN_congr _ (fun i hi => ?_)
  unfold isSh
  rw [hasH_cg (h l), gts_cg h0 h2 h3 h1 h, h l 4 (by omega)]
theorem lf_pdN {S : SS} {n l k : Nat} : (pdN S n).lf l k = if l < n ∧ k = 8 then S.lf l 8 + earn S l else S.lf l k := rfl
theorem sumN_0 {f : Nat → Int} : ∀ n, (∀ i, i < n → f i = 0) → sumN f n = 0
  | 0, _ => rfl
  | n + 1, h => by rw [sumN, sumN_0 n (fun i hi => h i (by omega)), h n (by omega)]; rfl
theorem lf_evN {S : SS} {n l k : Nat} : (evN S n).lf l k = if l < n ∧ S.lf l 6 ≠ 0 then (if k = 7 then wv S l else if k = 6 ∧ 2 ≤ wv S l then 0 else S.lf l k) else S.lf l k := rfl
/-! they keep the order -/
theorem WF_l {S T : SS} (hW : WF S) (h1 : T.nb = S.nb) (h2 : T.nl = S.nl) (h3 : SS.bf T = SS.bf S) (h5 : SS.sn T = SS.sn S) (h8 : 0 ≤ T.dy ∧ T.dy ≤ 1000) (hL : WL T) : WF T := by
  obtain ⟨a1, a2, a3, a4, a5, a6, a7, a8⟩ := hW
  refine ⟨by omega, by omega, ?_, hL, ?_, h8.1, h8.2, ?_⟩
  · unfold WB; rw [h1, h3]; exact a3
  · unfold WN; rw [h5]; exact a5
  · rw [cov_cg h3, h1]; exact a8
theorem WF_pdN {S : SS} {n : Nat} (hW : WF S) : WF (pdN S n) := by
  refine WF_l hW rfl rfl rfl rfl ⟨hW.2.2.2.2.2.1, hW.2.2.2.2.2.2.1⟩ (fun l hl => ?_)
  have h := hW.2.2.2.1 l hl
  have e2 : (pdN S n).nb = S.nb := rfl
  simp only [lf_pdN, e2, Nat.reduceEqDiff, and_false, if_false]
  exact h
theorem WW_pdN {S : SS} {n : Nat} (hW : WW S) : WW (pdN S n) := by
  intro l hl
  simp only [lf_pdN, Nat.reduceEqDiff, and_false, if_false]
  exact hW l hl
theorem wv_b {S : SS} {l : Nat} (hW : WF S) (hw : WW S) (hl : l < S.nl) (h : S.lf l 6 ≠ 0) : 0 ≤ wv S l ∧ wv S l ≤ 2 := by
  have h1 := hW.2.2.2.1 l hl
  have h2 := hw l hl h
  unfold wv
  split <;> omega
theorem WF_evN {S : SS} {n : Nat} (hW : WF S) (hw : WW S) : WF (evN S n) := by
  refine WF_l hW rfl rfl rfl rfl ⟨hW.2.2.2.2.2.1, hW.2.2.2.2.2.2.1⟩ (fun l hl => ?_)
  have h := hW.2.2.2.1 l hl
  have e2 : (evN S n).nb = S.nb := rfl
  simp only [lf_evN, e2, Nat.reduceEqDiff, if_false, if_true, false_and, true_and]
  by_cases u : l < n ∧ S.lf l 6 ≠ 0
  · have h2 := wv_b hW hw hl u.2
    simp only [u, ne_eq, not_false_eq_true, and_self, if_true]
    by_cases z : 2 ≤ wv S l
    · simp only [z, if_true, true_or, and_true, true_and]; omega
    · simp only [z, if_false]; omega
  · simp only [u, if_false]; exact h
theorem WW_evN {S : SS} (hW : WF S) : WW (evN S S.nl) := by
  intro l hl h
  have hl' : l < S.nl := hl
  simp only [lf_evN, hl', true_and, Nat.reduceEqDiff, if_false, if_true] at h ⊢
  by_cases u : S.lf l 6 ≠ 0
  · simp only [u, ne_eq, not_false_eq_true, if_true] at h ⊢
    by_cases z : 2 ≤ wv S l
    · simp only [z, if_true, not_true_eq_false] at h
    · omega
  · simp only [u, if_false] at h
theorem WF_dayS {S : SS} (hW : WF S) (hw : WW S) (hd : S.dy < 1000) : WF (dayS S) ∧ WW (dayS S) := by
  have h1 := WF_evN (n := S.nl) (WF_pdN (n := S.nl) hW) (WW_pdN hw)
  have h2 := hW.2.2.2.2.2.1
  exact ⟨WF_l h1 rfl rfl rfl rfl ⟨show 0 ≤ S.dy + 1 by omega, show S.dy + 1 ≤ 1000 by omega⟩ h1.2.2.2.1, WW_evN (WF_pdN (n := S.nl) hW)⟩


theorem Wp.z {G : GT} {M : MI} {ini : Bool} {d : Nat} {P : Option Value → Hp → Prop} {PX : String → Hp → Prop} {pc : Nat} {ls : Ls} {st : List Value} {h : Hp} {b : Nat × Nat} (hw : Wp G M ini d P PX pc ls st h (0, 0)) : Wp G M ini d P PX pc ls st h b := Wp.less rfl (fun _ _ q => q) (Nat.zero_le _) (Nat.zero_le _) hw
theorem passS_ok {S : SS} (hW : WF S) (hw : WW S) : ∀ n : Nat, S.dy + n ≤ 1000 → WF (passS S n) ∧ WW (passS S n) ∧ (passS S n).dy = S.dy + n
  | 0, _ => ⟨hW, hw, by simp [passS]⟩
  | n + 1, h => by
    obtain ⟨h1, h2, h3⟩ := passS_ok hW hw n (by omega)
    obtain ⟨h4, h5⟩ := WF_dayS h1 h2 (by omega)
    refine ⟨h4, h5, ?_⟩
    show (passS S n).dy + 1 = _
    omega

/-! ===== the reference: fulfilled ===== -/
theorem ddv_ok (x y : Int32) (h : ¬ y = 0) : vf_n64 (FP.ddiv (FP.i2d x) (FP.i2d y)) := by
  have h1 : FP.Core.dIsNaN (FP.ddiv (FP.i2d x) (FP.i2d y)) = false := by
    refine FP.Core.ddiv_out ?_ (FP.Core.i2d_fin y) ?_
    · have h2 := (FP.Core.fin_bits _).mp (FP.Core.i2d_fin x)
      cases h3 : FP.Core.dIsNaN (FP.i2d x) with
      | false => rfl
      | true =>
        have h4 := (FP.Core.isNaN_bits _).mp h3
        exact absurd h4 (by show ¬ _ < (FP.Core.i2d x).toNat % 2 ^ 63; omega)
    · intro hz
      have h2 := FP.Core.i2d_ne_zero (v := y) h
      exact h2 ((FP.Core.zero_bits2 _).mp hz)
  unfold vf_n64
  have h2 : ¬ 9218868437227405312 < (FP.ddiv (FP.i2d x) (FP.i2d y)).toNat % 2 ^ 63 := fun q => by
    have := (FP.Core.isNaN_bits _).mpr q
    rw [h1] at this
    cases this
  rw [UInt64.le_iff_toNat_le, UInt64.toNat_and]
  rw [show (0x7fffffffffffffff : UInt64).toNat = 2 ^ 63 - 1 from rfl, Nat.and_two_pow_sub_one_eq_mod]
  show _ ≤ 9218868437227405312
  omega
def flA (S : SS) (n : Nat) : Int := sumN (fun l => sumN (fun r => if hasH S l r = true then S.lf l 4 else 0) 12) n
def flG (S : SS) (n : Nat) : Int := sumN (fun l => sumN (fun r => gts S l r) 12) n
def flV (S : SS) : UInt64 := if flA S S.nl = 0 then 0x3ff0000000000000 else FP.ddiv (FP.i2d (i32 (flG S S.nl))) (FP.i2d (i32 (flA S S.nl)))
theorem flA_b {S : SS} (hW : WF S) (n : Nat) (hn : n ≤ S.nl) : 0 ≤ flA S n ∧ flA S n ≤ 28800 := by
  have hnl := hW.2.1
  have h1 : ∀ l, l < n → 0 ≤ sumN (fun r => if hasH S l r = true then S.lf l 4 else 0) 12 ∧ sumN (fun r => if hasH S l r = true then S.lf l 4 else 0) 12 ≤ 720 := fun l hl => by
    have hL := hW.2.2.2.1 l (by omega)
    have a1 := sumN_le (f := fun r => if hasH S l r = true then S.lf l 4 else 0) (m := 60) 12 (fun i _ => by split <;> omega)
    have a2 := sumN_ge (f := fun r => if hasH S l r = true then S.lf l 4 else 0) (m := 0) 12 (fun i _ => by split <;> omega)
    omega
  have a1 := sumN_le (f := fun l => sumN (fun r => if hasH S l r = true then S.lf l 4 else 0) 12) (m := 720) n (fun i hi => (h1 i hi).2)
  have a2 := sumN_ge (f := fun l => sumN (fun r => if hasH S l r = true then S.lf l 4 else 0) 12) (m := 0) n (fun i hi => (h1 i hi).1)
  unfold flA
  omega

/-! ===== the reference: its constructor ===== -/
def sun0 (r : Nat) : Nat → Int
  | 0 => if r < 5 then -1 else if r < 7 then 0 else 1
  | 1 => if r = 5 ∨ r = 6 then -1 else 0
  | _ => if r < 5 then 5 - r else if r < 7 then 1 else r - 6
/-- the first n hours have their sun -/
def SI (n : Nat) : SS := (0, 0, fun _ _ => 0, fun _ _ => 0, fun r k => if r < n then sun0 r k else 0, fun _ => 0, fun _ => 0, 0, 0)
theorem WF_SI (n : Nat) : WF (SI n) := by
  refine ⟨by show 0 ≤ 12; omega, by show 0 ≤ 40; omega, fun b hb => absurd hb (Nat.not_lt_zero b), fun b hb => absurd hb (Nat.not_lt_zero b), fun r hr => ?_, by show (0 : Int) ≤ 0; omega, by show (0 : Int) ≤ 1000; omega, fun b1 b2 x y h => absurd h (Nat.not_lt_zero b1)⟩
  have e : ∀ k, (SI n).sn r k = if r < n then sun0 r k else 0 := fun k => rfl
  simp only [e]
  by_cases h : r < n
  · simp only [h, if_true, sun0]
    by_cases h1 : r < 5
    · simp only [h1, if_true, show ¬ (r = 5 ∨ r = 6) by omega, if_false]; omega
    · by_cases h2 : r < 7
      · simp only [h1, h2, if_true, show (r = 5 ∨ r = 6) by omega, if_false]; omega
      · simp only [h1, h2, show ¬ (r = 5 ∨ r = 6) by omega, if_false]; omega
  · simp only [h, if_false]; omega
