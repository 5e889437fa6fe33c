/-! ===== how the class casts: from the edge towards the shadow ===== -/
theorem fstK_r (p : Nat → Bool) : ∀ n s : Nat, 1 ≤ s → (fstK p s n = 0 ∧ ∀ j, s ≤ j → j < s + n → p j = false) ∨ (s ≤ fstK p s n ∧ fstK p s n < s + n ∧ p (fstK p s n) = true ∧ ∀ j, s ≤ j → j < fstK p s n → p j = false)
  | 0, s, _ => Or.inl ⟨rfl, fun j h1 h2 => by omega⟩
  | n + 1, s, hs => by
    cases hp : p s with
    | true =>
      rw [fstK_s p s n hp]
      exact Or.inr ⟨by omega, by omega, hp, fun j h1 h2 => by omega⟩
    | false =>
      rw [fstK_n p s n hp]
      rcases fstK_r p n (s + 1) (by omega) with ⟨h1, h2⟩ | ⟨h1, h2, h3, h4⟩
      · refine Or.inl ⟨h1, fun j h3 h4 => ?_⟩
        by_cases e : j = s
        · rw [e]; exact hp
        · exact h2 j (by omega) (by omega)
      · refine Or.inr ⟨by omega, by omega, h3, fun j h5 h6 => ?_⟩
        by_cases e : j = s
        · rw [e]; exact hp
        · exact h4 j (by omega) h6
theorem fstK_u {p : Nat → Bool} {n s k : Nat} (hs : 1 ≤ s) (h1 : s ≤ k) (h2 : k < s + n) (hp : p k = true) (hb : ∀ j, s ≤ j → j < k → p j = false) : fstK p s n = k := by
  rcases fstK_r p n s hs with ⟨g1, g2⟩ | ⟨g1, g2, g3, g4⟩
  · rw [g2 k h1 h2] at hp; cases hp
  · rcases Nat.lt_trichotomy (fstK p s n) k with q | q | q
    · rw [hb _ g1 q] at g3; cases g3
    · exact q
    · rw [g4 k h1 q] at hp; cases hp
theorem cov_cvx {S : SS} {b : Nat} {x y : Int} : cov S b x y = true ↔ S.bf b 6 = 1 ∧ cvx S b x y := by
  unfold cov cvx
  rw [decide_eq_true_iff]
  constructor
  · rintro ⟨h1, h2, h3, h4, h5⟩; exact ⟨h1, h2, by omega, h4, by omega⟩
  · rintro ⟨h1, h2, h3, h4, h5⟩; exact ⟨h1, h2, by omega, h4, by omega⟩
theorem tri {d : Int} (h1 : -1 ≤ d) (h2 : d ≤ 1) : d = -1 ∨ d = 0 ∨ d = 1 := by omega
theorem stp_e {S : SS} {b r k : Nat} {cx cy x y : Int} (hd : -1 ≤ S.sn r 0 ∧ S.sn r 0 ≤ 1 ∧ -1 ≤ S.sn r 1 ∧ S.sn r 1 ≤ 1) (h6 : S.bf b 6 = 1) (hb : cvx S b cx cy) (he : ¬ cvx S b (cx + S.sn r 0) (cy + S.sn r 1)) (hk : 1 ≤ k) (hk2 : k ≤ reach S b r) (hx : x = cx + k * S.sn r 0) (hy : y = cy + k * S.sn r 1) : stp S b r x y = k := by
  unfold stp
  refine fstK_u (by omega) hk (by omega) ?_ (fun j h1 h2 => ?_)
  · rw [cov_cvx, hx, hy]
    refine ⟨h6, ?_⟩
    rw [show cx + k * S.sn r 0 - k * S.sn r 0 = cx by omega, show cy + k * S.sn r 1 - k * S.sn r 1 = cy by omega]
    exact hb
  · cases hc : cov S b (x - j * S.sn r 0) (y - j * S.sn r 1) with
    | false => rfl
    | true =>
      exfalso
      rw [cov_cvx] at hc
      obtain ⟨-, hc⟩ := hc
      refine he ?_
      unfold cvx at hb hc ⊢
      rcases tri hd.1 hd.2.1 with e1 | e1 | e1 <;> rcases tri hd.2.2.1 hd.2.2.2 with e2 | e2 | e2 <;> rw [e1] at hx hc ⊢ <;> rw [e2] at hy hc ⊢ <;> omega
theorem stp_back {S : SS} {b r k : Nat} {x y : Int} (hb : b < S.nb) (hc : isCov S x y = false) (h : stp S b r x y = k) (hk : k ≠ 0) : S.bf b 6 = 1 ∧ cvx S b (x - k * S.sn r 0) (y - k * S.sn r 1) ∧ k ≤ reach S b r ∧ ¬ cvx S b (x - k * S.sn r 0 + S.sn r 0) (y - k * S.sn r 1 + S.sn r 1) := by
  unfold stp at h
  rcases fstK_r (fun k => cov S b (x - k * S.sn r 0) (y - k * S.sn r 1)) (reach S b r) 1 (by omega) with ⟨g1, g2⟩ | ⟨g1, g2, g3, g4⟩
  · omega
  · rw [h] at g1 g2 g3 g4
    have g5 := cov_cvx.mp g3
    refine ⟨g5.1, g5.2, by omega, fun q => ?_⟩
    by_cases e : k = 1
    · subst e
      rw [show x - ((1 : Nat) : Int) * S.sn r 0 + S.sn r 0 = x by omega, show y - ((1 : Nat) : Int) * S.sn r 1 + S.sn r 1 = y by omega] at q
      have := anyN_e _ hc b hb
      rw [cov_cvx.mpr ⟨g5.1, q⟩] at this
      cases this
    · have g6 := g4 (k - 1) (by omega) (by omega)
      have e1 : ((k - 1 : Nat) : Int) = k - 1 := by omega
      have g7 : cov S b (x - ((k - 1 : Nat) : Int) * S.sn r 0) (y - ((k - 1 : Nat) : Int) * S.sn r 1) = true := by
        rw [cov_cvx, e1, Int.sub_mul, Int.sub_mul, Int.one_mul, Int.one_mul, show x - (k * S.sn r 0 - S.sn r 0) = x - k * S.sn r 0 + S.sn r 0 by omega, show y - (k * S.sn r 1 - S.sn r 1) = y - k * S.sn r 1 + S.sn r 1 by omega]
        exact ⟨g5.1, q⟩
      rw [g7] at g6
      cases g6
/-- the place of a cell -/
def xC (c : Nat) : Int := ((c % 16 : Nat) : Int)
def yC (c : Nat) : Int := ((c / 16 : Nat) : Int)
/-- is the ray that hits cell c already cast, when the work stands before step ck of (cx, cy) -/
abbrev vis (S : SS) (r n : Nat) (cy cx : Int) (ck : Nat) (c : Nat) : Prop := stp S n r (xC c) (yC c) ≠ 0 ∧ (yC c - stp S n r (xC c) (yC c) * S.sn r 1 < cy ∨ yC c - stp S n r (xC c) (yC c) * S.sn r 1 = cy ∧ (xC c - stp S n r (xC c) (yC c) * S.sn r 0 < cx ∨ xC c - stp S n r (xC c) (yC c) * S.sn r 0 = cx ∧ stp S n r (xC c) (yC c) < ck))
def RSc (S : SS) (r n : Nat) (cy cx : Int) (ck c : Nat) : Int × Nat × Nat := if vis S r n cy cx ck c then cst S r (xC c) (yC c) (n + 1) else cst S r (xC c) (yC c) n
/-- a cell holds these numbers -/
def CellIs (h : Hp) (D : WD) (S : SS) (r c : Nat) (t : Int × Nat × Nat) : Prop := (isCov S (xC c) (yC c) = true → ia h (D 4 r) c = i32 (-2) ∧ ia h (D 5 r) c = i32 0) ∧ (isCov S (xC c) (yC c) = false → ia h (D 4 r) c = i32 t.1 ∧ ia h (D 5 r) c = i32 t.2.1 ∧ (t.2.1 ≠ 0 → ia h (D 0 8) c = i32 t.2.2))
def RS (h : Hp) (D : WD) (S : SS) (r n : Nat) (cy cx : Int) (ck : Nat) : Prop := ∀ c, c < 256 → CellIs h D S r c (RSc S r n cy cx ck c)
def RB (h : Hp) (D : WD) (S : SS) (r n : Nat) : Prop := ∀ c, c < 256 → CellIs h D S r c (cst S r (xC c) (yC c) n)
theorem CellIs.to {h : Hp} {D : WD} {S : SS} {r c : Nat} {t t' : Int × Nat × Nat} (f : CellIs h D S r c t) (e : isCov S (xC c) (yC c) = false → t = t') : CellIs h D S r c t' := ⟨f.1, fun q => e q ▸ f.2 q⟩
theorem RS_0 {h : Hp} {D : WD} {S : SS} {r n : Nat} (hn : n < S.nb) (f : RB h D S r n) : RS h D S r n (S.bf n 1) (S.bf n 0) 1 := fun c hc => (f c hc).to (fun hcv => by
  unfold RSc
  rw [if_neg]
  rintro ⟨h1, h2⟩
  obtain ⟨-, g2, -, -⟩ := stp_back hn hcv rfl h1
  unfold cvx at g2
  omega)
theorem RS_1 {h : Hp} {D : WD} {S : SS} {r n ck : Nat} {cx : Int} (hn : n < S.nb) (f : RS h D S r n (S.bf n 1 + S.bf n 3) cx ck) : RB h D S r (n + 1) := fun c hc => (f c hc).to (fun hcv => by
  unfold RSc
  by_cases e : stp S n r (xC c) (yC c) = 0
  · rw [if_neg (fun q => q.1 e), cst_0 e]
  · rw [if_pos]
    obtain ⟨-, g2, -, -⟩ := stp_back hn hcv rfl e
    unfold cvx at g2
    exact ⟨e, Or.inl (by omega)⟩)
theorem vis_n (k ck : Nat) (u v cx cy : Int) (hz : k ≠ 0 → ck ≤ k → u = cx → v = cy → False) : (k ≠ 0 ∧ (v < cy ∨ v = cy ∧ (u < cx ∨ u = cx ∧ k < ck))) ↔ (k ≠ 0 ∧ (v < cy ∨ v = cy ∧ (u < cx + 1 ∨ u = cx + 1 ∧ k < 1))) := by
  constructor
  · rintro ⟨h1, h2⟩
    exact ⟨h1, by omega⟩
  · rintro ⟨h1, h2 | ⟨h2, h3 | ⟨h3, h4⟩⟩⟩
    · exact ⟨h1, Or.inl h2⟩
    · refine ⟨h1, Or.inr ⟨h2, ?_⟩⟩
      by_cases e : u = cx
      · rcases Nat.lt_or_ge k ck with q | q
        · exact Or.inr ⟨e, q⟩
        · exact (hz h1 q e h2).elim
      · exact Or.inl (by omega)
    · omega
theorem vis_s (k' k : Nat) (u v cx cy : Int) (hz : k' = k → u = cx → v = cy → False) : (k' ≠ 0 ∧ (v < cy ∨ v = cy ∧ (u < cx ∨ u = cx ∧ k' < k))) ↔ (k' ≠ 0 ∧ (v < cy ∨ v = cy ∧ (u < cx ∨ u = cx ∧ k' < k + 1))) := by
  constructor
  · rintro ⟨h1, h2⟩
    exact ⟨h1, by omega⟩
  · rintro ⟨h1, h2 | ⟨h2, h3 | ⟨h3, h4⟩⟩⟩
    · exact ⟨h1, Or.inl h2⟩
    · exact ⟨h1, Or.inr ⟨h2, Or.inl h3⟩⟩
    · by_cases e : k' = k
      · exact (hz e h3 h2).elim
      · exact ⟨h1, Or.inr ⟨h2, Or.inr ⟨h3, by omega⟩⟩⟩
/-- a place that casts nothing more: the next one -/
theorem RS_n {h : Hp} {D : WD} {S : SS} {r n ck : Nat} {cx cy : Int} (hn : n < S.nb) (f : RS h D S r n cy cx ck) (hz : ∀ c, c < 256 → isCov S (xC c) (yC c) = false → stp S n r (xC c) (yC c) ≠ 0 → ck ≤ stp S n r (xC c) (yC c) → xC c - stp S n r (xC c) (yC c) * S.sn r 0 = cx → yC c - stp S n r (xC c) (yC c) * S.sn r 1 = cy → False) : RS h D S r n cy (cx + 1) 1 := fun c hc => (f c hc).to (fun hcv => by
  unfold RSc
  have hz' := hz c hc hcv
  have e : vis S r n cy cx ck c ↔ vis S r n cy (cx + 1) 1 c := by
    unfold vis
    exact vis_n _ _ _ _ _ _ hz'
  by_cases q : vis S r n cy cx ck c
  · rw [if_pos q, if_pos (e.mp q)]
  · rw [if_neg q, if_neg (fun z => q (e.mpr z))])
/-- no edge: the next one -/
theorem RS_i {h : Hp} {D : WD} {S : SS} {r n : Nat} {cx cy : Int} (hn : n < S.nb) (f : RS h D S r n cy cx 1) (he : cvx S n (cx + S.sn r 0) (cy + S.sn r 1)) : RS h D S r n cy (cx + 1) 1 :=
  RS_n hn f (fun c _ hcv h1 _ h3 h4 => by
    obtain ⟨-, -, -, g4⟩ := stp_back hn hcv rfl h1
    rw [h3, h4] at g4
    exact g4 he)
/-- the end of a ray -/
theorem RS_r {h : Hp} {D : WD} {S : SS} {r n k : Nat} {cx cy : Int} (hn : n < S.nb) (f : RS h D S r n cy cx k) (hk : reach S n r < k) : RS h D S r n cy (cx + 1) 1 :=
  RS_n hn f (fun c _ hcv h1 h2 _ _ => by
    obtain ⟨-, -, g3, -⟩ := stp_back hn hcv rfl h1
    omega)
/-- .. outside -/
theorem RS_o {h : Hp} {D : WD} {S : SS} {r n k : Nat} {cx cy : Int} (hd : -1 ≤ S.sn r 0 ∧ S.sn r 0 ≤ 1 ∧ -1 ≤ S.sn r 1 ∧ S.sn r 1 ≤ 1) (hn : n < S.nb) (hi : 0 ≤ cx ∧ cx < 16 ∧ 0 ≤ cy ∧ cy < 16) (f : RS h D S r n cy cx k) (ho : ¬ (0 ≤ cx + k * S.sn r 0 ∧ cx + k * S.sn r 0 < 16 ∧ 0 ≤ cy + k * S.sn r 1 ∧ cy + k * S.sn r 1 < 16)) : RS h D S r n cy (cx + 1) 1 :=
  RS_n hn f (fun c hc _ h1 h2 h3 h4 => by
    have b1 : 0 ≤ xC c ∧ xC c < 16 := by unfold xC; omega
    have b2 : 0 ≤ yC c ∧ yC c < 16 := by unfold yC; omega
    generalize stp S n r (xC c) (yC c) = j at *
    generalize xC c = u at *
    generalize yC c = v at *
    rcases tri hd.1 hd.2.1 with e1 | e1 | e1 <;> rcases tri hd.2.2.1 hd.2.2.2 with e2 | e2 | e2 <;> rw [e1] at h3 ho <;> rw [e2] at h4 ho <;> omega)
/-- the end of a row -/
theorem RS_y {h : Hp} {D : WD} {S : SS} {r n : Nat} {cy : Int} (hn : n < S.nb) (f : RS h D S r n cy (S.bf n 0 + S.bf n 2) 1) : RS h D S r n (cy + 1) (S.bf n 0) 1 := fun c hc => (f c hc).to (fun hcv => by
  unfold RSc
  have e : vis S r n cy (S.bf n 0 + S.bf n 2) 1 c ↔ vis S r n (cy + 1) (S.bf n 0) 1 c := by
    by_cases q : stp S n r (xC c) (yC c) = 0
    · unfold vis
      exact ⟨fun z => absurd q z.1, fun z => absurd q z.1⟩
    · obtain ⟨-, g2, -, -⟩ := stp_back hn hcv rfl q
      unfold vis
      unfold cvx at g2
      generalize stp S n r (xC c) (yC c) = k at *
      generalize xC c - k * S.sn r 0 = u at *
      generalize yC c - k * S.sn r 1 = v at *
      omega
  by_cases q : vis S r n cy (S.bf n 0 + S.bf n 2) 1 c
  · rw [if_pos q, if_pos (e.mp q)]
  · rw [if_neg q, if_neg (fun z => q (e.mpr z))])
/-- one step of a ray -/
theorem RS_s {h h' : Hp} {D : WD} {S : SS} {r n k c0 : Nat} {cx cy : Int} (hd : -1 ≤ S.sn r 0 ∧ S.sn r 0 ≤ 1 ∧ -1 ≤ S.sn r 1 ∧ S.sn r 1 ≤ 1) (hn : n < S.nb) (h6 : S.bf n 6 = 1) (hb : cvx S n cx cy) (he : ¬ cvx S n (cx + S.sn r 0) (cy + S.sn r 1)) (hk : 1 ≤ k) (hk2 : k ≤ reach S n r) (hc0 : c0 < 256) (hx : xC c0 = cx + k * S.sn r 0) (hy : yC c0 = cy + k * S.sn r 1)
    (f : RS h D S r n cy cx k) (ho : ∀ c, c ≠ c0 → ∀ t, CellIs h D S r c t → CellIs h' D S r c t) (hc : CellIs h D S r c0 (cst S r (xC c0) (yC c0) n) → CellIs h' D S r c0 (cst S r (xC c0) (yC c0) (n + 1))) : RS h' D S r n cy cx (k + 1) := by
  have hs := stp_e hd h6 hb he hk hk2 hx hy
  have e0 : ¬ vis S r n cy cx k c0 := by
    unfold vis
    rw [hs, hx, hy]
    intro z
    rw [show cx + k * S.sn r 0 - k * S.sn r 0 = cx by omega, show cy + k * S.sn r 1 - k * S.sn r 1 = cy by omega] at z
    omega
  have e1 : vis S r n cy cx (k + 1) c0 := by
    unfold vis
    rw [hs, hx, hy, show cx + k * S.sn r 0 - k * S.sn r 0 = cx by omega, show cy + k * S.sn r 1 - k * S.sn r 1 = cy by omega]
    omega
  intro c hcc
  have fc := f c hcc
  unfold RSc at fc ⊢
  by_cases q : c = c0
  · subst q
    rw [if_neg e0] at fc
    rw [if_pos e1]
    exact hc fc
  · refine (ho c q _ fc).to (fun _ => ?_)
    have e : vis S r n cy cx k c ↔ vis S r n cy cx (k + 1) c := by
      have hne : stp S n r (xC c) (yC c) = k → xC c - k * S.sn r 0 = cx → yC c - k * S.sn r 1 = cy → False := fun g1 g2 g3 => q (by
        have u1 : xC c = xC c0 := by omega
        have u2 : yC c = yC c0 := by omega
        unfold xC at u1
        unfold yC at u2
        omega)
      unfold vis
      exact vis_s _ _ _ _ _ _ (fun g1 g2 g3 => hne g1 (by rw [← g1]; exact g2) (by rw [← g1]; exact g3))
    by_cases z : vis S r n cy cx k c
    · rw [if_pos z, if_pos (e.mp z)]
    · rw [if_neg z, if_neg (fun y => z (e.mpr y))]
theorem cst_z {S : SS} {r : Nat} {x y : Int} : ∀ n, (cst S r x y n).1 = -1 ↔ (cst S r x y n).2.1 = 0
  | 0 => by simp [cst]
  | n + 1 => by
    have h := cst_z (S := S) (r := r) (x := x) (y := y) n
    unfold cst
    split
    · exact h
    · split
      · next q => exact ⟨fun z => absurd z q.1, fun z => by simp at z⟩
      · exact ⟨fun z => by dsimp only at z; omega, fun z => by simp at z⟩
/-- only rows have changed -/
def FQ (h h' : Hp) (D : WD) (r : Nat) : Prop := FH h h' D r ∧ ∀ c k a, fi h' c k a = fi h c k a
theorem FQ.rf {h : Hp} {D : WD} {r : Nat} : FQ h h D r := ⟨FH.rf, fun _ _ _ => rfl⟩
theorem FQ.tr {h h' h'' : Hp} {D : WD} {r : Nat} (f : FQ h h' D r) (g : FQ h' h'' D r) : FQ h h'' D r := ⟨f.1.tr g.1, fun c k a => (g.2 c k a).trans (f.2 c k a)⟩
theorem FQ.sA {h : Hp} {D : WD} {r a i : Nat} {v : Int32} (ha : a = D 0 8 ∨ a = D 4 r ∨ a = D 5 r ∨ a = D 6 r ∨ a = D 7 r) : FQ h (setIA h a i v) D r := ⟨FH.sA ha, fun _ _ _ => rfl⟩
theorem RB_k {h : Hp} {D : WD} {S : SS} {r n : Nat} (h6 : S.bf n 6 ≠ 1) (f : RB h D S r n) : RB h D S r (n + 1) := fun c hc => (f c hc).to (fun _ => by
  have e : stp S n r (xC c) (yC c) = 0 := by
    unfold stp
    rcases fstK_r (fun k => cov S n (xC c - k * S.sn r 0) (yC c - k * S.sn r 1)) (reach S n r) 1 (by omega) with ⟨g1, g2⟩ | ⟨g1, g2, g3, g4⟩
    · exact g1
    · exact absurd (cov_cvx.mp g3).1 h6
  rw [cst_0 e])
theorem RB_bel {h : Hp} {D : WD} {S : SS} {r : Nat} (f : RB h D S r S.nb) (c : Nat) (hc : c < 256) : ia h (D 4 r) c = i32 (bel S r c) ∧ ia h (D 5 r) c = i32 (shd S r c) := by
  have fc := f c hc
  unfold bel shd
  by_cases e : isCov S (xC c) (yC c) = true
  · have g := fc.1 e
    unfold xC yC at e
    rw [if_pos e, if_pos e]
    exact g
  · have e' : isCov S (xC c) (yC c) = false := by simpa using e
    have g := fc.2 e'
    unfold xC yC at e g
    rw [if_neg e, if_neg e]
    exact ⟨g.1, g.2.1⟩
theorem shd_neg {S : SS} {r c : Nat} (h : bel S r c < 0) : shd S r c = 0 := by
  unfold bel at h
  unfold shd
  by_cases e : isCov S (c % 16 : Nat) (c / 16 : Nat) = true
  · rw [if_pos e]
  · rw [if_neg e] at h ⊢
    have h1 := cst_b (S := S) (r := r) (x := (c % 16 : Nat)) (y := (c / 16 : Nat)) S.nb
    have h2 := cst_z (S := S) (r := r) (x := (c % 16 : Nat)) (y := (c / 16 : Nat)) S.nb
    omega

