/-! ===== pure facts: the share that is fulfilled lies between 0.0 and 1.0 ===== -/
theorem cmp_ge {x y : Int} (h : y ≤ x) : compare x y = .gt ∨ compare x y = .eq := by
  by_cases e : x = y
  · right; subst e; simp [compare, compareOfLessAndEq]
  · left
    have h1 : ¬ x < y := by omega
    simp [compare, compareOfLessAndEq, h1, e]
theorem cmp_le {x y : Int} (h : x ≤ y) : compare x y = .lt ∨ compare x y = .eq := by
  by_cases e : x = y
  · right; subst e; simp [compare, compareOfLessAndEq]
  · left
    have h1 : x < y := by omega
    simp [compare, compareOfLessAndEq, h1]
theorem i2d_at {v : Int} (h0 : 0 ≤ v) (h1 : v < 2147483648) : ∃ c q, FP.Core.val64 (FP.Core.i2d (i32 v)) = .fin false c q ∧ c * 2 ^ q.toNat = v.toNat * 2 ^ (-q).toNat ∧ (c = 0 ↔ v = 0) := by
  have ha := FP.Core.i2d_int (i32 v)
  rw [i32_toInt ⟨by omega, h1⟩] at ha
  have hv : FP.Core.val64 (FP.Core.i2d (i32 v)) = FP.Core.roundRatio FP.Core.b64 false v.natAbs 1 0 := by
    rw [FP.Core.val64_i2d, i32_toInt ⟨by omega, h1⟩]
    show FP.Core.roundRatio FP.Core.b64 (decide (v < 0)) v.natAbs 1 0 = _
    rw [decide_eq_false (by omega)]
  have ha2 : FP.Core.Whole v (FP.Core.val64 (FP.Core.i2d (i32 v))) := ha
  rcases FP.Core.roundRatio_cases FP.Core.b64 false v.natAbs 1 0 with ⟨c, q, h⟩ | h
  · rw [hv, h] at ha2
    refine ⟨c, q, hv.trans h, ?_, FP.Core.whole_zero ha2⟩
    have h3 := FP.Core.whole_natAbs ha2
    rw [show v.natAbs = v.toNat by omega] at h3
    exact h3
  · rw [hv, h] at ha2
    exact ha2.elim
theorem b64_qmin : FP.Core.b64.qmin = -1074 := by decide
theorem dd_le {c d q r v w e0 : Nat} {qi ri : Int} (hc : c * 2 ^ qi.toNat = v * 2 ^ (-qi).toNat) (hd : d * 2 ^ ri.toNat = w * 2 ^ (-ri).toNat) (h : v ≤ w) (he : (e0 : Int) = - min (-1074) (qi - ri)) :
    c * 2 ^ (qi - ri + e0).toNat ≤ 2 ^ e0 * d := by
  have hp : 0 < 2 ^ ((-qi).toNat + ri.toNat) := Nat.two_pow_pos _
  refine Nat.le_of_mul_le_mul_right ?_ hp
  have e1 : c * 2 ^ (qi - ri + e0).toNat * 2 ^ ((-qi).toNat + ri.toNat) = v * 2 ^ ((-qi).toNat + (-ri).toNat + e0) := by
    rw [Nat.mul_assoc, ← Nat.pow_add, show (qi - ri + e0).toNat + ((-qi).toNat + ri.toNat) = qi.toNat + ((-ri).toNat + e0) by omega, Nat.pow_add, ← Nat.mul_assoc, hc, Nat.mul_assoc, ← Nat.pow_add, Nat.add_assoc]
  have e2 : 2 ^ e0 * d * 2 ^ ((-qi).toNat + ri.toNat) = w * 2 ^ ((-qi).toNat + (-ri).toNat + e0) := by
    rw [Nat.mul_comm (2 ^ e0) d, Nat.mul_assoc, ← Nat.pow_add, show e0 + ((-qi).toNat + ri.toNat) = ri.toNat + ((-qi).toNat + e0) by omega, Nat.pow_add, ← Nat.mul_assoc, hd, Nat.mul_assoc, ← Nat.pow_add]
    congr 2
    omega
  rw [e1, e2]
  exact Nat.mul_le_mul_right _ h
theorem dd_b {v w : Int} (h0 : 0 ≤ v) (h1 : v ≤ w) (h2 : 0 < w) (h3 : w < 2147483648) :
    (FP.Core.dcmp (FP.Core.ddiv (FP.Core.i2d (i32 v)) (FP.Core.i2d (i32 w))) 0 = some .gt ∨ FP.Core.dcmp (FP.Core.ddiv (FP.Core.i2d (i32 v)) (FP.Core.i2d (i32 w))) 0 = some .eq) ∧
    (FP.Core.dcmp (FP.Core.ddiv (FP.Core.i2d (i32 v)) (FP.Core.i2d (i32 w))) 0x3ff0000000000000 = some .lt ∨ FP.Core.dcmp (FP.Core.ddiv (FP.Core.i2d (i32 v)) (FP.Core.i2d (i32 w))) 0x3ff0000000000000 = some .eq) := by
  obtain ⟨c, q, hA, hcq, -⟩ := i2d_at h0 (by omega : v < 2147483648)
  obtain ⟨d, r, hB, hdr, hd0⟩ := i2d_at (by omega : 0 ≤ w) h3
  have hd : d ≠ 0 := fun z => by have := hd0.mp z; omega
  have hq : FP.Core.val64 (FP.Core.ddiv (FP.Core.i2d (i32 v)) (FP.Core.i2d (i32 w))) = FP.Core.roundRatio FP.Core.b64 false c d (q - r) := by
    rw [FP.Core.val64_ddiv, hA, hB]
    show (if d = 0 then _ else FP.Core.roundRatio FP.Core.b64 (false != false) c d (q - r)) = _
    rw [if_neg hd]
    rfl
  have hone : FP.Core.val64 0x3ff0000000000000 = .fin false (2 ^ 52) (-52) := by decide +kernel
  have hzero : FP.Core.zval FP.Core.b64 (FP.Core.val64 0) = 0 := by decide +kernel
  have hnn : FP.Core.val64 (FP.Core.ddiv (FP.Core.i2d (i32 v)) (FP.Core.i2d (i32 w))) ≠ .nan := by
    rw [hq]; exact FP.Core.roundRatio_ne_nan _ _ _ _ _
  have hz : FP.Core.zval FP.Core.b64 (FP.Core.val64 (FP.Core.ddiv (FP.Core.i2d (i32 v)) (FP.Core.i2d (i32 w)))) = FP.Core.zmag FP.Core.b64 (FP.Core.roundRatio FP.Core.b64 false c d (q - r)) := by
    rw [hq]
    unfold FP.Core.zval
    rw [FP.Core.sgn_roundRatio]
    rfl
  constructor
  · rw [FP.Core.dcmp_zval hnn (by decide +kernel), hz, hzero]
    rcases cmp_ge (x := (FP.Core.zmag FP.Core.b64 (FP.Core.roundRatio FP.Core.b64 false c d (q - r)) : Int)) (y := 0) (by omega) with z | z
    · exact Or.inl (by rw [z])
    · exact Or.inr (by rw [z])
  · have hle : FP.Core.zmag FP.Core.b64 (FP.Core.roundRatio FP.Core.b64 false c d (q - r)) ≤ FP.Core.zmag FP.Core.b64 (.fin false (2 ^ 52) (-52)) := by
      refine FP.Core.zmag_roundRatio_le (e0 := min (-1074) (q - r)) FP.Core.good_b64 (by omega) (hone ▸ FP.Core.val64_fits _) (fun z => by cases z) (by rw [b64_qmin]; omega) (by omega) ?_
      obtain ⟨e0, he⟩ := Int.eq_ofNat_of_zero_le (show 0 ≤ - min (-1074) (q - r) by omega)
      have hm := dd_le (q := 0) (r := 0) (e0 := e0) hcq hdr (by omega) he.symm
      show c * 2 ^ (q - r - min (-1074) (q - r)).toNat ≤ 2 ^ 52 * 2 ^ (-52 - FP.Core.b64.qmin).toNat * 2 ^ (FP.Core.b64.qmin - min (-1074) (q - r)).toNat * d
      rw [b64_qmin, ← Nat.pow_add, ← Nat.pow_add, show 52 + (-52 - (-1074 : Int)).toNat + (-1074 - min (-1074) (q - r)).toNat = e0 by omega, show q - r - min (-1074) (q - r) = q - r + e0 by omega]
      exact hm
    rw [FP.Core.dcmp_zval hnn (by decide +kernel), hz, hone]
    rcases cmp_le (x := (FP.Core.zmag FP.Core.b64 (FP.Core.roundRatio FP.Core.b64 false c d (q - r)) : Int)) (y := FP.Core.zval FP.Core.b64 (.fin false (2 ^ 52) (-52))) (by
      show (FP.Core.zmag FP.Core.b64 (FP.Core.roundRatio FP.Core.b64 false c d (q - r)) : Int) ≤ ((FP.Core.zmag FP.Core.b64 (.fin false (2 ^ 52) (-52)) : Nat) : Int)
      omega) with z | z
    · exact Or.inl (by rw [z])
    · exact Or.inr (by rw [z])
theorem flG_le {S : SS} (hW : WF S) : 0 ≤ flG S S.nl ∧ flG S S.nl ≤ flA S S.nl := by
  constructor
  · have h := sumN_ge (f := fun l => sumN (fun r => gts S l r) 12) (m := 0) S.nl (fun l hl => by
      have h2 := sumN_ge (f := fun r => gts S l r) (m := 0) 12 (fun r _ => (gts_b hW hl).1)
      omega)
    unfold flG
    omega
  · unfold flG flA
    exact sumN_le2 _ (fun l hl => sumN_le2 _ (fun r _ => gts_le hW hl))
theorem ful_b {S : SS} (hW : WF S) : (FP.dcmp (flV S) 0 = some .gt ∨ FP.dcmp (flV S) 0 = some .eq) ∧ (FP.dcmp (flV S) 0x3ff0000000000000 = some .lt ∨ FP.dcmp (flV S) 0x3ff0000000000000 = some .eq) := by
  have h1 := flG_le hW
  have h2 := flA_b hW S.nl (Nat.le_refl _)
  unfold flV
  by_cases q : flA S S.nl = 0
  · rw [if_pos q]
    exact ⟨Or.inl (by decide +kernel), Or.inr (by decide +kernel)⟩
  · rw [if_neg q]
    exact dd_b h1.1 h1.2 (by omega) (by omega)
/-! ===== pure facts: what a day brings ===== -/
/-- what always holds of the law's square -/
def LI (S : SS) : Prop := WF S ∧ WW S ∧ (∀ b, b < S.nb → S.bf b 6 = 1) ∧ sumN (fun l => S.lf l 6) S.nl = S.nl - S.ev ∧ sumN S.gt 8 = sumN S.pd 16 ∧ sumN S.pd 16 = sumN (fun l => S.lf l 8) S.nl
def inc (S : SS) : Int := sumN (fun l => earn S l) S.nl
/-- the warnings that a day gives -/
def wvD (S : SS) (l : Nat) : Int := wv (pdN S S.nl) l
theorem wvD_c {S : SS} {l : Nat} : wvD S l = 0 ∨ wvD S l = S.lf l 7 + 1 := by
  unfold wvD wv
  split
  · refine Or.inr ?_
    rw [lf_pdN (k := 7), if_neg (by omega)]
  · exact Or.inl rfl
theorem day_lf {S : SS} {l k : Nat} (hl : l < S.nl) : (dayS S).lf l k = if k = 8 then S.lf l 8 + earn S l else if k = 7 ∧ S.lf l 6 ≠ 0 then wvD S l else if k = 6 ∧ S.lf l 6 ≠ 0 ∧ 2 ≤ wvD S l then 0 else S.lf l k := by
  show (evN (pdN S S.nl) S.nl).lf l k = _
  rw [lf_evN]
  unfold wvD
  generalize wv (pdN S S.nl) l = w
  simp only [lf_pdN]
  by_cases e : k = 8
  · subst e
    by_cases u : S.lf l 6 ≠ 0 <;> simp [hl, u]
  · by_cases u : S.lf l 6 ≠ 0
    · by_cases e7 : k = 7
      · subst e7; simp [hl, u]
      · by_cases e6 : k = 6
        · subst e6
          by_cases z : 2 ≤ w <;> simp [hl, u, z]
        · simp [hl, u, e7, e6, e]
    · simp [hl, u, e]
theorem day_ev (S : SS) : (dayS S).ev = S.ev + sumN (fun l => if S.lf l 6 ≠ 0 ∧ 2 ≤ wvD S l then 1 else 0) S.nl := by
  show S.ev + sumN (fun l => if (pdN S S.nl).lf l 6 ≠ 0 ∧ 2 ≤ wv (pdN S S.nl) l then 1 else 0) S.nl = _
  congr 1
  refine sumN_congr _ (fun l _ => ?_)
  rw [show (pdN S S.nl).lf l 6 = S.lf l 6 from lf_pdN.trans (if_neg (by omega))]
  rfl
theorem day_pd {S : SS} (hW : WF S) : sumN (dayS S).pd 16 = sumN S.pd 16 + inc S := by
  have h : ∀ t, (dayS S).pd t = S.pd t + sumN (fun l => if S.lf l 1 = (t : Int) then earn S l else 0) S.nl := fun _ => rfl
  rw [sumN_congr 16 (fun t _ => h t), sumN_ad, sumN_by 16 (fun l hl => by have := hW.2.2.2.1 l hl; omega)]
  rfl
theorem day_gt {S : SS} (hW : WF S) : sumN (dayS S).gt 8 = sumN S.gt 8 + inc S := by
  have h : ∀ t, (dayS S).gt t = S.gt t + sumN (fun l => if S.bf (S.lf l 0).toNat 5 = (t : Int) then earn S l else 0) S.nl := fun _ => rfl
  rw [sumN_congr 8 (fun t _ => h t), sumN_ad, sumN_by 8 (fun l hl => by
    have h1 := hW.2.2.2.1 l hl
    have h2 := hW.2.2.1 (S.lf l 0).toNat (by omega)
    omega)]
  rfl
theorem day_l8 {S : SS} : sumN (fun l => (dayS S).lf l 8) S.nl = sumN (fun l => S.lf l 8) S.nl + inc S := by
  rw [sumN_congr S.nl (fun l hl => (day_lf (k := 8) hl).trans (if_pos rfl)), sumN_ad]
  rfl
theorem day_l6 {S : SS} (hW : WF S) : sumN (fun l => (dayS S).lf l 6) S.nl = sumN (fun l => S.lf l 6) S.nl - ((dayS S).ev - S.ev) := by
  have h : sumN (fun l => (dayS S).lf l 6 + (if S.lf l 6 ≠ 0 ∧ 2 ≤ wvD S l then 1 else 0)) S.nl = sumN (fun l => S.lf l 6) S.nl := sumN_congr S.nl (fun l hl => by
    have h1 := hW.2.2.2.1 l hl
    rw [day_lf hl, if_neg (by omega), if_neg (by omega)]
    by_cases q : S.lf l 6 ≠ 0 ∧ 2 ≤ wvD S l
    · rw [if_pos ⟨rfl, q⟩, if_pos q]; omega
    · rw [if_neg (fun z => q z.2), if_neg q]; omega)
  rw [sumN_ad] at h
  have h2 := day_ev S
  omega
theorem LI_day {S : SS} (h : LI S) (hd : S.dy < 1000) : LI (dayS S) := by
  obtain ⟨hW, hw, hb, h6, hg, hp⟩ := h
  obtain ⟨h1, h2⟩ := WF_dayS hW hw hd
  refine ⟨h1, h2, hb, ?_, ?_, ?_⟩
  · show sumN (fun l => (dayS S).lf l 6) S.nl = (S.nl : Int) - (dayS S).ev
    rw [day_l6 hW]; omega
  · rw [day_gt hW, day_pd hW, hg]
  · show _ = sumN (fun l => (dayS S).lf l 8) S.nl
    rw [day_pd hW, day_l8, hp]
theorem LI_raise {S : SS} {b : Nat} {v : Int} (h : LI S) (hb : b < S.nb) (hv : 1 ≤ v ∧ v ≤ 9) : LI (S.uB b 4 v) := by
  obtain ⟨hW, hw, hs, h6, hg, hp⟩ := h
  refine ⟨WF_uB4 hW hv, hw, fun b' hb' => ?_, h6, hg, hp⟩
  rw [bf_uB, if_neg (by omega)]
  exact hs b' hb'
/-- behind a day: what the law asks of each lease -/
theorem day_ok {S : SS} {l : Nat} (hW : WF S) (hw : WW S) (hl : l < S.nl) : (dayS S).lf l 7 ≤ 2 ∧ (S.lf l 6 = 1 ∧ (dayS S).lf l 6 = 0 → S.lf l 7 = 1 ∧ (dayS S).lf l 7 = 2) ∧ (S.lf l 6 = 0 → (dayS S).lf l 7 = S.lf l 7) ∧ (S.lf l 6 = 1 → (dayS S).lf l 7 = 0 ∨ (dayS S).lf l 7 = S.lf l 7 + 1) ∧
    ((S.lf l 6 = 1 ∧ (dayS S).lf l 6 = 0) ↔ (S.lf l 6 ≠ 0 ∧ 2 ≤ wvD S l)) := by
  have h1 := hW.2.2.2.1 l hl
  have h2 := hw l hl
  have h3 := wvD_c (S := S) (l := l)
  have e7 := day_lf (S := S) (k := 7) hl
  have e6 := day_lf (S := S) (k := 6) hl
  rw [if_neg (by omega)] at e7 e6
  rw [if_neg (by omega)] at e6
  by_cases u : S.lf l 6 ≠ 0
  · have h4 := h2 u
    rw [if_pos ⟨rfl, u⟩] at e7
    by_cases z : 2 ≤ wvD S l
    · rw [if_pos ⟨rfl, u, z⟩] at e6
      rw [e6, e7]
      refine ⟨by omega, fun _ => by omega, fun _ => by omega, fun _ => by omega, fun _ => ⟨u, z⟩, fun _ => by omega⟩
    · rw [if_neg (fun y => z y.2.2)] at e6
      rw [e6, e7]
      refine ⟨by omega, fun _ => by omega, fun _ => by omega, fun _ => by omega, fun _ => by omega, fun y => absurd y.2 z⟩
  · rw [if_neg (fun y => u y.2), if_neg (fun y => by omega)] at e7
    rw [if_neg (fun y => u y.2.1)] at e6
    rw [e6, e7]
    refine ⟨by omega, fun _ => by omega, fun _ => rfl, fun _ => by omega, fun _ => by omega, fun y => absurd y.1 u⟩
