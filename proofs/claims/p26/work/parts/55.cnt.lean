/-! ===== the class: count, got, paid ===== -/
def ct_X4_paidByAll (G : GT) (D : WD) (S : SS) : Ct := fun As h Q _ => sR As fun a r => s0 r (CD G h D S ∧ a = D 0 0 ∧ Q (some (.int (i32 (sumN S.pd 16)))) h)
def ce_X4_paidByAll (G : GT) (D : WD) (S : SS) : CE := (0, yX4_paidByAll, MX4_paidByAll, 0, 0, 0, 0, ct_X4_paidByAll G D S)
set_option maxRecDepth 100000 in
set_option maxHeartbeats 4000000 in
theorem lp_X4_paidByAll (G : GT) {D : WD} {S : SS} (hW : WF S) {h : Hp} {Q : Option Value → Hp → Prop} {QX : String → Hp → Prop} (hD : CD G h D S) (hq : Q (some (.int (i32 (sumN S.pd 16)))) h) :
    ∀ k n : Nat, n + k = 16 → Wp G MX4_paidByAll false 0 Q QX 4 [some (.ref (D 0 0)), some (.int (i32 (sumN S.pd n))), some (.int (i32 n))] [] h (0, 0) := by
  intro k
  induction k with
  | zero =>
    intro n hn
    have e : n = 16 := by omega
    subst e
    have hA0 := hD.1
    have hB0 := hD.2
    obtain ⟨⟨kC, rC0, rC1, rC2, rC3, rC4⟩, ⟨kQ, rQ0, rQ1⟩, ⟨kV, lV⟩, ⟨kG, lG⟩, ⟨kP, lP⟩, ⟨kT, lT⟩, ⟨⟨LB1, LB2, LB3, LB4, LB5, LB6, LB7⟩, ⟨LH1, LH2, LH3, LH4, LH5, LH6, LH7⟩, ⟨LL1, LL2, LL3, LL4, LL5, LL6, LL7⟩⟩, hKB, hHA, hKL, hCJ⟩ := hA0
    obtain ⟨dDy, dEv, dG, dP, dV, dB, dL, dH⟩ := hB0
    have hnb := hW.1
    have hnl := hW.2.1
    refine wpW (cs := []) (stop := [4]) (n := 200) (env_nil0 (env_hh rfl)) ?_
    simp only [↓wpN_S, ↓step_u, ↓stC_s, stC_s, ↓stF_u, stF_u, ↓stepI, lenI, ↓kN_u, isS, ↓gI_0, ↓gI_S, ↓gL_0, ↓gL_S, ↓gD_0, ↓gD_S, ↓gR_0, ↓gR_S, ↓sI_c, ↓sL_c, ↓sD_c, ↓sR_c, ↓s1_r, ↓s1_i, ↓vR_r, ↓vR_n, ↓s0_n, s0_n, ↓oR_u, ↓sP_u, ↓sPa_0, ↓sPa_S, ↓lkC_c, ↓callK_u, ↓cQ_s, ↓cQ_n, putL, putW, clr, kil, catS, catN, refF, booF, finF, nF, nmOf_0, nmOf_1, nmOf_2, nmOf_3, nmOf_4, nmOf_5, nmOf_6, nmOf_50, nmOf_51, nmOf_52, ↓reduceIte, reduceIte, Bool.false_eq_true, eq_self, true_or, or_true, true_and, and_true, false_or, or_false, Nat.reduceAdd, Nat.reduceSub, Nat.reduceEqDiff, Nat.reduceLT, Nat.reduceLeDiff, reduceCtorEq, true_implies, List.length_cons, List.length_nil, List.replicate, List.cons_append, List.nil_append, mrt_X4_paidByAll, mhh_X4_paidByAll, mow_X4_paidByAll, mnl_X4_paidByAll, DX4_paidByAll_0, DX4_paidByAll_1, DX4_paidByAll_2, DX4_paidByAll_3, DX4_paidByAll_4, DX4_paidByAll_5, DX4_paidByAll_6, DX4_paidByAll_9, DX4_paidByAll_10, DX4_paidByAll_13, DX4_paidByAll_14, DX4_paidByAll_15, DX4_paidByAll_18, DX4_paidByAll_19, DX4_paidByAll_20, DX4_paidByAll_21, DX4_paidByAll_22, DX4_paidByAll_25, DX4_paidByAll_28, DX4_paidByAll_29]
    simp (disch := omega) only [i32_lit, i32_neg, i32_add, i32_mul, i32_sub, i32_nI, i32_lt, i32_le, i32_eq, inR_i, i32_clamp, i32_div, i32_max, i32_min, ite_max, ite_min, b2i_0, b2i_1, b2i_01, i32_toInt, tn_i, Int.toNat_natCast, em_t, true_and, and_true, Int.reduceToNat, Int.reduceLE, Int.reduceLT, Int.reduceAdd, Int.reduceMul, Int.reduceSub, Int.reduceNeg, Int.reduceEq, true_implies, not_true_eq_false, false_implies, not_false_eq_true, kC, rC0, rC1, rC2, rC3, rC4, kQ, rQ0, rQ1, kV, lV, kG, lG, kP, lP, kT, lT, LB1, LB2, LB3, LH1, LH2, LH3, LL1, LL2, LL3, dDy, dEv, true_and, and_true, Option.some.injEq, exists_eq_left', nmOf_0, nmOf_1, nmOf_2, nmOf_3, nmOf_4, nmOf_5, nmOf_6, Nat.add_sub_cancel, Nat.reduceSub, Nat.reduceLT, Nat.reduceEqDiff, ne_eq, not_false_eq_true]
    exact ⟨by omega, by omega, fun _ => hq, fun z => by omega⟩
  | succ k ih =>
    intro n hn
    have hs := ih (n + 1) (by omega)
    simp only [sumN] at hs
    have hA0 := hD.1
    have hB0 := hD.2
    obtain ⟨⟨kC, rC0, rC1, rC2, rC3, rC4⟩, ⟨kQ, rQ0, rQ1⟩, ⟨kV, lV⟩, ⟨kG, lG⟩, ⟨kP, lP⟩, ⟨kT, lT⟩, ⟨⟨LB1, LB2, LB3, LB4, LB5, LB6, LB7⟩, ⟨LH1, LH2, LH3, LH4, LH5, LH6, LH7⟩, ⟨LL1, LL2, LL3, LL4, LL5, LL6, LL7⟩⟩, hKB, hHA, hKL, hCJ⟩ := hA0
    obtain ⟨dDy, dEv, dG, dP, dV, dB, dL, dH⟩ := hB0
    have hnb := hW.1
    have hnl := hW.2.1
    have hp := dP n (by omega)
    refine wpW (cs := []) (stop := [4]) (n := 200) (env_nil0 (env_hh rfl)) ?_
    simp only [↓wpN_S, ↓step_u, ↓stC_s, stC_s, ↓stF_u, stF_u, ↓stepI, lenI, ↓kN_u, isS, ↓gI_0, ↓gI_S, ↓gL_0, ↓gL_S, ↓gD_0, ↓gD_S, ↓gR_0, ↓gR_S, ↓sI_c, ↓sL_c, ↓sD_c, ↓sR_c, ↓s1_r, ↓s1_i, ↓vR_r, ↓vR_n, ↓s0_n, s0_n, ↓oR_u, ↓sP_u, ↓sPa_0, ↓sPa_S, ↓lkC_c, ↓callK_u, ↓cQ_s, ↓cQ_n, putL, putW, clr, kil, catS, catN, refF, booF, finF, nF, nmOf_0, nmOf_1, nmOf_2, nmOf_3, nmOf_4, nmOf_5, nmOf_6, nmOf_50, nmOf_51, nmOf_52, ↓reduceIte, reduceIte, Bool.false_eq_true, eq_self, true_or, or_true, true_and, and_true, false_or, or_false, Nat.reduceAdd, Nat.reduceSub, Nat.reduceEqDiff, Nat.reduceLT, Nat.reduceLeDiff, reduceCtorEq, true_implies, List.length_cons, List.length_nil, List.replicate, List.cons_append, List.nil_append, mrt_X4_paidByAll, mhh_X4_paidByAll, mow_X4_paidByAll, mnl_X4_paidByAll, DX4_paidByAll_0, DX4_paidByAll_1, DX4_paidByAll_2, DX4_paidByAll_3, DX4_paidByAll_4, DX4_paidByAll_5, DX4_paidByAll_6, DX4_paidByAll_9, DX4_paidByAll_10, DX4_paidByAll_13, DX4_paidByAll_14, DX4_paidByAll_15, DX4_paidByAll_18, DX4_paidByAll_19, DX4_paidByAll_20, DX4_paidByAll_21, DX4_paidByAll_22, DX4_paidByAll_25, DX4_paidByAll_28, DX4_paidByAll_29]
    simp (disch := omega) only [i32_lit, i32_neg, i32_add, i32_mul, i32_sub, i32_nI, i32_lt, i32_le, i32_eq, inR_i, i32_clamp, i32_div, i32_max, i32_min, ite_max, ite_min, b2i_0, b2i_1, b2i_01, i32_toInt, tn_i, Int.toNat_natCast, em_t, true_and, and_true, Int.reduceToNat, Int.reduceLE, Int.reduceLT, Int.reduceAdd, Int.reduceMul, Int.reduceSub, Int.reduceNeg, Int.reduceEq, true_implies, not_true_eq_false, false_implies, not_false_eq_true, kC, rC0, rC1, rC2, rC3, rC4, kQ, rQ0, rQ1, kV, lV, kG, lG, kP, lP, kT, lT, LB1, LB2, LB3, LH1, LH2, LH3, LL1, LL2, LL3, dDy, dEv, true_and, and_true, Option.some.injEq, exists_eq_left', nmOf_0, nmOf_1, nmOf_2, nmOf_3, nmOf_4, nmOf_5, nmOf_6, Nat.add_sub_cancel, Nat.reduceSub, Nat.reduceLT, Nat.reduceEqDiff, ne_eq, not_false_eq_true, hp]
    rw [show (n : Int) + 1 = ((n + 1 : Nat) : Int) by omega]
    exact ⟨by omega, by omega, fun z => by omega, fun _ => ⟨by omega, hs⟩⟩
set_option maxRecDepth 100000 in
set_option maxHeartbeats 4000000 in
theorem ok_X4_paidByAll (G : GT) (G : GT) (D : WD) (S : SS) (hW : WF S) : OKm G yX4_paidByAll MX4_paidByAll 0 0 0 (ct_X4_paidByAll G D S) := by
  refine mkOK (ini := false) (by decide) rfl (by first | exact fun _ => rfl | (intro hh; cases hh)) (fun As h Q QX hc => ?_)
  replace hc := sR_e hc; obtain ⟨a, r, rfl, hc⟩ := hc
  replace hc := s0_e hc; obtain ⟨rfl, hc⟩ := hc
  obtain ⟨hD, rfl, hq⟩ := hc
  have hz := lp_X4_paidByAll (Q := Q) (QX := QX) G hW hD hq 16 0 (by omega)
  refine ⟨Nat.le_of_ble_eq_true rfl, ?_⟩
  simp only [ent, entL, catN, List.length_cons, List.length_nil, List.replicate, List.cons_append, List.nil_append, reduceIte, Nat.reduceEqDiff,  Nat.reduceAdd, Nat.reduceSub, mnl_X4_paidByAll]
  refine wpW (cs := []) (stop := [4]) (n := 200) (env_nil0 (env_hh rfl)) ?_
  simp only [↓wpN_S, ↓step_u, ↓stC_s, stC_s, ↓stF_u, stF_u, ↓stepI, lenI, ↓kN_u, isS, ↓gI_0, ↓gI_S, ↓gL_0, ↓gL_S, ↓gD_0, ↓gD_S, ↓gR_0, ↓gR_S, ↓sI_c, ↓sL_c, ↓sD_c, ↓sR_c, ↓s1_r, ↓s1_i, ↓vR_r, ↓vR_n, ↓s0_n, s0_n, ↓oR_u, ↓sP_u, ↓sPa_0, ↓sPa_S, ↓lkC_c, ↓callK_u, ↓cQ_s, ↓cQ_n, putL, putW, clr, kil, catS, catN, refF, booF, finF, nF, nmOf_0, nmOf_1, nmOf_2, nmOf_3, nmOf_4, nmOf_5, nmOf_6, nmOf_50, nmOf_51, nmOf_52, ↓reduceIte, reduceIte, Bool.false_eq_true, eq_self, true_or, or_true, true_and, and_true, false_or, or_false, Nat.reduceAdd, Nat.reduceSub, Nat.reduceEqDiff, Nat.reduceLT, Nat.reduceLeDiff, reduceCtorEq, true_implies, List.length_cons, List.length_nil, List.replicate, List.cons_append, List.nil_append, mrt_X4_paidByAll, mhh_X4_paidByAll, mow_X4_paidByAll, mnl_X4_paidByAll, DX4_paidByAll_0, DX4_paidByAll_1, DX4_paidByAll_2, DX4_paidByAll_3, DX4_paidByAll_4, DX4_paidByAll_5, DX4_paidByAll_6, DX4_paidByAll_9, DX4_paidByAll_10, DX4_paidByAll_13, DX4_paidByAll_14, DX4_paidByAll_15, DX4_paidByAll_18, DX4_paidByAll_19, DX4_paidByAll_20, DX4_paidByAll_21, DX4_paidByAll_22, DX4_paidByAll_25, DX4_paidByAll_28, DX4_paidByAll_29]
  exact hz
/-! the cells that buildings cover, counted by cells and by buildings -/
theorem sumN_add {f g : Nat → Int} : ∀ n, sumN (fun i => f i + g i) n = sumN f n + sumN g n
  | 0 => rfl
  | n + 1 => by simp only [sumN]; rw [sumN_add n]; omega
theorem sumN_swap {f : Nat → Nat → Int} : ∀ n m, sumN (fun i => sumN (fun j => f i j) m) n = sumN (fun j => sumN (fun i => f i j) n) m
  | 0, m => by
    simp only [sumN]
    exact (sumN_0 m (fun _ _ => rfl)).symm
  | n + 1, m => by
    simp only [sumN]
    rw [sumN_swap n m, sumN_add]
/-- at most one of n holds -/
theorem any_sum {p : Nat → Bool} : ∀ n, (∀ i j, i < n → j < n → p i = true → p j = true → i = j) → (if anyN p n = true then (1 : Int) else 0) = sumN (fun i => if p i = true then 1 else 0) n
  | 0, _ => rfl
  | n + 1, h => by
    have ih := any_sum n (fun i j hi hj => h i j (by omega) (by omega))
    simp only [sumN]
    rw [← ih]
    have hor : anyN p (n + 1) = (anyN p n || p n) := rfl
    by_cases q : p n = true
    · have e : anyN p n = false := anyN_f n (fun i hi => by
        cases e : p i with
        | false => rfl
        | true => have := h i n (by omega) (by omega) e q; omega)
      rw [if_pos (by rw [hor, e, q]; rfl), if_neg (by rw [e]; decide), if_pos q]
      rfl
    · have q' : p n = false := by simpa using q
      rw [if_neg q, Int.add_zero]
      by_cases z : anyN p n = true
      · rw [if_pos z, if_pos (by rw [hor, z]; rfl)]
      · rw [if_neg z, if_neg (by rw [hor, q']; simpa using z)]
/-- an interval's length, counted -/
theorem cnt_iv (a w : Int) (ha : 0 ≤ a) (hw : 0 ≤ w) : ∀ n : Nat, sumN (fun i => if a ≤ (i : Int) ∧ (i : Int) ≤ a + w - 1 then 1 else 0) n = max 0 (min w ((n : Int) - a))
  | 0 => by simp only [sumN]; omega
  | n + 1 => by
    simp only [sumN]
    rw [cnt_iv a w ha hw n]
    split <;> omega
theorem sumN_mul {f : Nat → Int} (k : Int) : ∀ n, sumN (fun i => f i * k) n = sumN f n * k
  | 0 => by simp [sumN]
  | n + 1 => by simp only [sumN]; rw [sumN_mul k n, Int.add_mul]
/-- 256 cells as 16 rows -/
theorem sumN_split {f : Nat → Int} (m : Nat) : ∀ n : Nat, sumN f (n * m) = sumN (fun y => sumN (fun x => f (y * m + x)) m) n
  | 0 => by simp [sumN]
  | n + 1 => by
    simp only [sumN]
    rw [← sumN_split m n]
    have e : ∀ k : Nat, sumN f (n * m + k) = sumN f (n * m) + sumN (fun x => f (n * m + x)) k := fun k => by
      induction k with
      | zero => simp [sumN]
      | succ k ik =>
        show sumN f (n * m + k) + f (n * m + k) = sumN f (n * m) + (sumN (fun x => f (n * m + x)) k + f (n * m + k))
        rw [ik]; omega
    rw [Nat.add_mul, Nat.one_mul, e m]
theorem cov_cnt {S : SS} (hW : WF S) {b : Nat} (hb : b < S.nb) : sumN (fun c => if cov S b ((c % 16 : Nat) : Int) ((c / 16 : Nat) : Int) = true then 1 else 0) 256 = ccI S b := by
  have w := hW.2.2.1 b hb
  rw [show (256 : Nat) = 16 * 16 from rfl, sumN_split 16 16]
  unfold ccI
  by_cases h6 : S.bf b 6 = 1
  · rw [if_pos h6]
    have e : ∀ y, y < 16 → sumN (fun x => if cov S b (((y * 16 + x) % 16 : Nat) : Int) (((y * 16 + x) / 16 : Nat) : Int) = true then 1 else 0) 16 = (if S.bf b 1 ≤ (y : Int) ∧ (y : Int) ≤ S.bf b 1 + S.bf b 3 - 1 then 1 else 0) * S.bf b 2 := fun y hy => by
      have e2 : ∀ x, x < 16 → (if cov S b (((y * 16 + x) % 16 : Nat) : Int) (((y * 16 + x) / 16 : Nat) : Int) = true then (1 : Int) else 0) = (if S.bf b 0 ≤ (x : Int) ∧ (x : Int) ≤ S.bf b 0 + S.bf b 2 - 1 then 1 else 0) * (if S.bf b 1 ≤ (y : Int) ∧ (y : Int) ≤ S.bf b 1 + S.bf b 3 - 1 then 1 else 0) := fun x hx => by
        rw [show (y * 16 + x) % 16 = x by omega, show (y * 16 + x) / 16 = y by omega]
        unfold cov
        simp only [decide_eq_true_eq, h6, true_and]
        by_cases q1 : S.bf b 0 ≤ (x : Int) ∧ (x : Int) ≤ S.bf b 0 + S.bf b 2 - 1
        · by_cases q2 : S.bf b 1 ≤ (y : Int) ∧ (y : Int) ≤ S.bf b 1 + S.bf b 3 - 1
          · rw [if_pos q1, if_pos q2, if_pos (by omega)]; rfl
          · rw [if_neg q2, if_neg (by omega), Int.mul_zero]
        · rw [if_neg q1, if_neg (by omega), Int.zero_mul]
      rw [sumN_congr 16 e2, sumN_mul, cnt_iv _ _ (by omega) (by omega), Int.mul_comm]
      congr 1
      omega
    rw [sumN_congr 16 e, sumN_mul, cnt_iv _ _ (by omega) (by omega), Int.mul_comm]
    congr 1
    omega
  · rw [if_neg h6]
    refine sumN_0 16 (fun y _ => sumN_0 16 (fun x _ => ?_))
    rw [if_neg]
    unfold cov
    simp only [decide_eq_true_eq]
    exact fun q => h6 q.1
theorem cc_coT {S : SS} (hW : WF S) : sumN (fun b => ccI S b) S.nb = coT S 5 := by
  show _ = sumN (fun c => if bel S 0 c = -2 then 1 else 0) 256
  have e : ∀ c, c < 256 → (if bel S 0 c = -2 then (1 : Int) else 0) = sumN (fun b => if cov S b ((c % 16 : Nat) : Int) ((c / 16 : Nat) : Int) = true then 1 else 0) S.nb := fun c _ => by
    rw [← any_sum S.nb (fun i j hi hj h1 h2 => hW.2.2.2.2.2.2.2 i j _ _ hi hj h1 h2)]
    have hb := cst_b (S := S) (r := 0) (x := ((c % 16 : Nat) : Int)) (y := ((c / 16 : Nat) : Int)) S.nb
    show _ = if isCov S _ _ = true then (1 : Int) else 0
    unfold bel
    by_cases q : isCov S ((c % 16 : Nat) : Int) ((c / 16 : Nat) : Int) = true
    · rw [if_pos q, if_pos rfl, if_pos q]
    · rw [if_neg q, if_neg q, if_neg (by omega)]
  rw [sumN_congr 256 e, sumN_swap]
  exact sumN_congr _ (fun b hb => (cov_cnt hW hb).symm)
def ct_X4_count (G : GT) (D : WD) (S : SS) : Ct := fun As h Q QX => sR As fun c r => sI r fun w r => s0 r (CD G h D S ∧ c = D 0 0 ∧ ((0 ≤ w.toInt ∧ w.toInt ≤ 5) ∧ Q (some (.int (i32 (coT S (tn w))))) h))
def ce_X4_count (G : GT) (D : WD) (S : SS) : CE := (0, yX4_count, MX4_count, 1, 8, 0, 0, ct_X4_count G D S)
set_option maxRecDepth 100000 in
set_option maxHeartbeats 4000000 in
theorem ok_X4_count (G : GT) (G : GT) (D : WD) (S : SS) (hW : WF S) : OKm G yX4_count MX4_count 8 0 0 (ct_X4_count G D S) := by
  refine mkOK (ini := false) (by decide) rfl (by first | exact fun _ => rfl | (intro hh; cases hh)) (fun As h Q QX hc => ?_)
  replace hc := sR_e hc; obtain ⟨c, r, rfl, hc⟩ := hc
  replace hc := sI_e hc; obtain ⟨w, r, rfl, hc⟩ := hc
  replace hc := s0_e hc; obtain ⟨rfl, hc⟩ := hc
  obtain ⟨hD, rfl, hv, hq⟩ := hc
  obtain ⟨wV, hwV, rfl⟩ := i32_all w
  simp only [i32_toInt hwV, tn_i hwV] at hv hq
  have hD0 := hD
  have hcc := cc_coT hW
  have hA0 := hD.1
  have hB0 := hD.2
  obtain ⟨⟨kC, rC0, rC1, rC2, rC3, rC4⟩, ⟨kQ, rQ0, rQ1⟩, ⟨kV, lV⟩, ⟨kG, lG⟩, ⟨kP, lP⟩, ⟨kT, lT⟩, ⟨⟨LB1, LB2, LB3, LB4, LB5, LB6, LB7⟩, ⟨LH1, LH2, LH3, LH4, LH5, LH6, LH7⟩, ⟨LL1, LL2, LL3, LL4, LL5, LL6, LL7⟩⟩, hKB, hHA, hKL, hCJ⟩ := hA0
  obtain ⟨dDy, dEv, dG, dP, dV, dB, dL, dH⟩ := hB0
  have hnb := hW.1
  have hnl := hW.2.1
  refine ⟨Nat.le_of_ble_eq_true rfl, ?_⟩
  simp only [ent, entL, catN, List.length_cons, List.length_nil, List.replicate, List.cons_append, List.nil_append, reduceIte, Nat.reduceEqDiff,  Nat.reduceAdd, Nat.reduceSub, mnl_X4_count]
  refine wpW (cs := [(130, ce_X4_needIndex), (239, ce_X3_standing G D S), (242, ce_X4_standingLeases G D S), (245, ce_X4_paidByAll G D S), (248, ce_X3_coveredCells G D S)]) (stop := []) (n := 200) (env_cons (ceS (by decide +kernel) ⟨by decide, by decide, by decide +kernel⟩ (by decide) (ok_X4_needIndex G)) (env_cons (ceV (by decide +kernel) ⟨by decide, by decide, by decide +kernel⟩ (by decide) rfl (ok_X3_standing G G D S hW)) (env_cons (ceV (by decide +kernel) ⟨by decide, by decide, by decide +kernel⟩ (by decide) rfl (ok_X4_standingLeases G G D S hW)) (env_cons (ceV (by decide +kernel) ⟨by decide, by decide, by decide +kernel⟩ (by decide) rfl (ok_X4_paidByAll G G D S hW)) (env_cons (ceV (by decide +kernel) ⟨by decide, by decide, by decide +kernel⟩ (by decide) rfl (ok_X3_coveredCells G G D S hW)) (env_nil0 (env_hh rfl))))))) ?_
  simp only [↓wpN_S, ↓step_u, ↓stC_s, stC_s, ↓stF_u, stF_u, ↓stepI, lenI, ↓kN_u, isS, ↓gI_0, ↓gI_S, ↓gL_0, ↓gL_S, ↓gD_0, ↓gD_S, ↓gR_0, ↓gR_S, ↓sI_c, ↓sL_c, ↓sD_c, ↓sR_c, ↓s1_r, ↓s1_i, ↓vR_r, ↓vR_n, ↓s0_n, s0_n, ↓oR_u, ↓sP_u, ↓sPa_0, ↓sPa_S, ↓lkC_c, ↓callK_u, ↓cQ_s, ↓cQ_n, putL, putW, clr, kil, catS, catN, refF, booF, finF, nF, nmOf_0, nmOf_1, nmOf_2, nmOf_3, nmOf_4, nmOf_5, nmOf_6, nmOf_50, nmOf_51, nmOf_52, ↓reduceIte, reduceIte, Bool.false_eq_true, eq_self, true_or, or_true, true_and, and_true, false_or, or_false, Nat.reduceAdd, Nat.reduceSub, Nat.reduceEqDiff, Nat.reduceLT, Nat.reduceLeDiff, reduceCtorEq, true_implies, List.length_cons, List.length_nil, List.replicate, List.cons_append, List.nil_append, mrt_X4_count, mhh_X4_count, mow_X4_count, mnl_X4_count, DX4_count_0, DX4_count_1, DX4_count_3, DX4_count_6, DX4_count_7, DX4_count_40, DX4_count_41, DX4_count_44, DX4_count_45, DX4_count_46, DX4_count_49, DX4_count_52, DX4_count_53, DX4_count_54, DX4_count_57, DX4_count_58, DX4_count_59, DX4_count_62, DX4_count_63, DX4_count_64, DX4_count_67, DX4_count_68, DX4_count_69, DX4_count_72, DX4_count_75, ce_X4_needIndex, ↓ct_X4_needIndex, ycl_X4_needIndex, ce_X3_standing, ↓ct_X3_standing, ycl_X3_standing, ce_X4_standingLeases, ↓ct_X4_standingLeases, ycl_X4_standingLeases, ce_X4_paidByAll, ↓ct_X4_paidByAll, ycl_X4_paidByAll, ce_X3_coveredCells, ↓ct_X3_coveredCells, ycl_X3_coveredCells, cX_nil mhh_X4_count]
  simp only [↓swP_S, ↓swP_0, ↓wpN_S, ↓step_u, ↓stC_s, stC_s, ↓stF_u, stF_u, ↓stepI, lenI, ↓kN_u, isS, ↓gI_0, ↓gI_S, ↓gL_0, ↓gL_S, ↓gD_0, ↓gD_S, ↓gR_0, ↓gR_S, ↓sI_c, ↓sL_c, ↓sD_c, ↓sR_c, ↓s1_r, ↓s1_i, ↓vR_r, ↓vR_n, ↓s0_n, s0_n, ↓oR_u, ↓sP_u, ↓sPa_0, ↓sPa_S, ↓lkC_c, ↓callK_u, ↓cQ_s, ↓cQ_n, putL, putW, clr, kil, catS, catN, refF, booF, finF, nF, nmOf_0, nmOf_1, nmOf_2, nmOf_3, nmOf_4, nmOf_5, nmOf_6, nmOf_50, nmOf_51, nmOf_52, ↓reduceIte, reduceIte, Bool.false_eq_true, eq_self, true_or, or_true, true_and, and_true, false_or, or_false, Nat.reduceAdd, Nat.reduceSub, Nat.reduceEqDiff, Nat.reduceLT, Nat.reduceLeDiff, reduceCtorEq, true_implies, List.length_cons, List.length_nil, List.replicate, List.cons_append, List.nil_append, mrt_X4_count, mhh_X4_count, mow_X4_count, mnl_X4_count, DX4_count_0, DX4_count_1, DX4_count_3, DX4_count_6, DX4_count_7, DX4_count_40, DX4_count_41, DX4_count_44, DX4_count_45, DX4_count_46, DX4_count_49, DX4_count_52, DX4_count_53, DX4_count_54, DX4_count_57, DX4_count_58, DX4_count_59, DX4_count_62, DX4_count_63, DX4_count_64, DX4_count_67, DX4_count_68, DX4_count_69, DX4_count_72, DX4_count_75, ce_X4_needIndex, ↓ct_X4_needIndex, ycl_X4_needIndex, ce_X3_standing, ↓ct_X3_standing, ycl_X3_standing, ce_X4_standingLeases, ↓ct_X4_standingLeases, ycl_X4_standingLeases, ce_X4_paidByAll, ↓ct_X4_paidByAll, ycl_X4_paidByAll, ce_X3_coveredCells, ↓ct_X3_coveredCells, ycl_X3_coveredCells, cX_nil mhh_X4_count]
  simp (disch := omega) only [i32_lit, i32_neg, i32_add, i32_mul, i32_sub, i32_nI, i32_lt, i32_le, i32_eq, inR_i, i32_clamp, i32_div, i32_max, i32_min, ite_max, ite_min, b2i_0, b2i_1, b2i_01, i32_toInt, tn_i, Int.toNat_natCast, em_t, true_and, and_true, Int.reduceToNat, Int.reduceLE, Int.reduceLT, Int.reduceAdd, Int.reduceMul, Int.reduceSub, Int.reduceNeg, Int.reduceEq, true_implies, not_true_eq_false, false_implies, not_false_eq_true, kC, rC0, rC1, rC2, rC3, rC4, kQ, rQ0, rQ1, kV, lV, kG, lG, kP, lP, kT, lT, LB1, LB2, LB3, LH1, LH2, LH3, LL1, LL2, LL3, dDy, dEv, true_and, and_true, Option.some.injEq, exists_eq_left', nmOf_0, nmOf_1, nmOf_2, nmOf_3, nmOf_4, nmOf_5, nmOf_6, Nat.add_sub_cancel, Nat.reduceSub, Nat.reduceLT, Nat.reduceEqDiff, ne_eq, not_false_eq_true, hD0, hcc]
  refine ⟨by omega, ?_⟩
  refine ⟨rfl, by omega, ⟨fun h3 => ?_, fun h3 => ?_, fun h3 => ?_, fun h3 => ?_, fun h3 => ?_⟩, fun h3 => ?_⟩
  · rw [h3] at hq; exact hq
  · rw [h3] at hq; exact hq
  · rw [h3] at hq; exact hq
  · rw [h3] at hq; exact hq
  · rw [h3] at hq; exact hq
  · rw [show wV = 5 by omega] at hq
    exact hq
def ct_X4_count_t (G : GT) (D : WD) (S : SS) : Ct := fun As h Q QX => sR As fun c r => sI r fun w r => s0 r (CD G h D S ∧ c = D 0 0 ∧ ((0 ≤ w.toInt ∧ w.toInt ≤ 5 → Q (some (.int (i32 (coT S (tn w))))) h) ∧ (¬ (0 ≤ w.toInt ∧ w.toInt ≤ 5) → QX IOB h)))
def ce_X4_count_t (G : GT) (D : WD) (S : SS) : CE := (0, yX4_count, MX4_count, 1, 8, 4, 24, ct_X4_count_t G D S)
set_option maxRecDepth 100000 in
set_option maxHeartbeats 4000000 in
theorem ok_X4_count_t (G : GT) (G : GT) (D : WD) (S : SS) (hW : WF S) : OKm G yX4_count MX4_count 8 4 24 (ct_X4_count_t G D S) := by
  refine mkOK (ini := false) (by decide) rfl (by first | exact fun _ => rfl | (intro hh; cases hh)) (fun As h Q QX hc => ?_)
  replace hc := sR_e hc; obtain ⟨c, r, rfl, hc⟩ := hc
  replace hc := sI_e hc; obtain ⟨w, r, rfl, hc⟩ := hc
  replace hc := s0_e hc; obtain ⟨rfl, hc⟩ := hc
  obtain ⟨hD, rfl, hq, hx⟩ := hc
  obtain ⟨wV, hwV, rfl⟩ := i32_all w
  simp only [i32_toInt hwV, tn_i hwV] at hq hx
  have hD0 := hD
  have hcc := cc_coT hW
  have hA0 := hD.1
  have hB0 := hD.2
  obtain ⟨⟨kC, rC0, rC1, rC2, rC3, rC4⟩, ⟨kQ, rQ0, rQ1⟩, ⟨kV, lV⟩, ⟨kG, lG⟩, ⟨kP, lP⟩, ⟨kT, lT⟩, ⟨⟨LB1, LB2, LB3, LB4, LB5, LB6, LB7⟩, ⟨LH1, LH2, LH3, LH4, LH5, LH6, LH7⟩, ⟨LL1, LL2, LL3, LL4, LL5, LL6, LL7⟩⟩, hKB, hHA, hKL, hCJ⟩ := hA0
  obtain ⟨dDy, dEv, dG, dP, dV, dB, dL, dH⟩ := hB0
  have hnb := hW.1
  have hnl := hW.2.1
  refine ⟨Nat.le_of_ble_eq_true rfl, ?_⟩
  simp only [ent, entL, catN, List.length_cons, List.length_nil, List.replicate, List.cons_append, List.nil_append, reduceIte, Nat.reduceEqDiff,  Nat.reduceAdd, Nat.reduceSub, mnl_X4_count]
  refine wpW (cs := [(130, ce_X4_needIndex_t), (239, ce_X3_standing G D S), (242, ce_X4_standingLeases G D S), (245, ce_X4_paidByAll G D S), (248, ce_X3_coveredCells G D S)]) (stop := []) (n := 200) (env_cons (ceS (by decide +kernel) ⟨by decide, by decide, by decide +kernel⟩ (by decide) (ok_X4_needIndex_t G)) (env_cons (ceV (by decide +kernel) ⟨by decide, by decide, by decide +kernel⟩ (by decide) rfl (ok_X3_standing G G D S hW)) (env_cons (ceV (by decide +kernel) ⟨by decide, by decide, by decide +kernel⟩ (by decide) rfl (ok_X4_standingLeases G G D S hW)) (env_cons (ceV (by decide +kernel) ⟨by decide, by decide, by decide +kernel⟩ (by decide) rfl (ok_X4_paidByAll G G D S hW)) (env_cons (ceV (by decide +kernel) ⟨by decide, by decide, by decide +kernel⟩ (by decide) rfl (ok_X3_coveredCells G G D S hW)) (env_nil0 (env_hh rfl))))))) ?_
  simp only [↓wpN_S, ↓step_u, ↓stC_s, stC_s, ↓stF_u, stF_u, ↓stepI, lenI, ↓kN_u, isS, ↓gI_0, ↓gI_S, ↓gL_0, ↓gL_S, ↓gD_0, ↓gD_S, ↓gR_0, ↓gR_S, ↓sI_c, ↓sL_c, ↓sD_c, ↓sR_c, ↓s1_r, ↓s1_i, ↓vR_r, ↓vR_n, ↓s0_n, s0_n, ↓oR_u, ↓sP_u, ↓sPa_0, ↓sPa_S, ↓lkC_c, ↓callK_u, ↓cQ_s, ↓cQ_n, putL, putW, clr, kil, catS, catN, refF, booF, finF, nF, nmOf_0, nmOf_1, nmOf_2, nmOf_3, nmOf_4, nmOf_5, nmOf_6, nmOf_50, nmOf_51, nmOf_52, ↓reduceIte, reduceIte, Bool.false_eq_true, eq_self, true_or, or_true, true_and, and_true, false_or, or_false, Nat.reduceAdd, Nat.reduceSub, Nat.reduceEqDiff, Nat.reduceLT, Nat.reduceLeDiff, reduceCtorEq, true_implies, List.length_cons, List.length_nil, List.replicate, List.cons_append, List.nil_append, mrt_X4_count, mhh_X4_count, mow_X4_count, mnl_X4_count, DX4_count_0, DX4_count_1, DX4_count_3, DX4_count_6, DX4_count_7, DX4_count_40, DX4_count_41, DX4_count_44, DX4_count_45, DX4_count_46, DX4_count_49, DX4_count_52, DX4_count_53, DX4_count_54, DX4_count_57, DX4_count_58, DX4_count_59, DX4_count_62, DX4_count_63, DX4_count_64, DX4_count_67, DX4_count_68, DX4_count_69, DX4_count_72, DX4_count_75, ce_X4_needIndex_t, ↓ct_X4_needIndex_t, ycl_X4_needIndex, ce_X3_standing, ↓ct_X3_standing, ycl_X3_standing, ce_X4_standingLeases, ↓ct_X4_standingLeases, ycl_X4_standingLeases, ce_X4_paidByAll, ↓ct_X4_paidByAll, ycl_X4_paidByAll, ce_X3_coveredCells, ↓ct_X3_coveredCells, ycl_X3_coveredCells, cX_nil mhh_X4_count]
  simp only [↓swP_S, ↓swP_0, ↓wpN_S, ↓step_u, ↓stC_s, stC_s, ↓stF_u, stF_u, ↓stepI, lenI, ↓kN_u, isS, ↓gI_0, ↓gI_S, ↓gL_0, ↓gL_S, ↓gD_0, ↓gD_S, ↓gR_0, ↓gR_S, ↓sI_c, ↓sL_c, ↓sD_c, ↓sR_c, ↓s1_r, ↓s1_i, ↓vR_r, ↓vR_n, ↓s0_n, s0_n, ↓oR_u, ↓sP_u, ↓sPa_0, ↓sPa_S, ↓lkC_c, ↓callK_u, ↓cQ_s, ↓cQ_n, putL, putW, clr, kil, catS, catN, refF, booF, finF, nF, nmOf_0, nmOf_1, nmOf_2, nmOf_3, nmOf_4, nmOf_5, nmOf_6, nmOf_50, nmOf_51, nmOf_52, ↓reduceIte, reduceIte, Bool.false_eq_true, eq_self, true_or, or_true, true_and, and_true, false_or, or_false, Nat.reduceAdd, Nat.reduceSub, Nat.reduceEqDiff, Nat.reduceLT, Nat.reduceLeDiff, reduceCtorEq, true_implies, List.length_cons, List.length_nil, List.replicate, List.cons_append, List.nil_append, mrt_X4_count, mhh_X4_count, mow_X4_count, mnl_X4_count, DX4_count_0, DX4_count_1, DX4_count_3, DX4_count_6, DX4_count_7, DX4_count_40, DX4_count_41, DX4_count_44, DX4_count_45, DX4_count_46, DX4_count_49, DX4_count_52, DX4_count_53, DX4_count_54, DX4_count_57, DX4_count_58, DX4_count_59, DX4_count_62, DX4_count_63, DX4_count_64, DX4_count_67, DX4_count_68, DX4_count_69, DX4_count_72, DX4_count_75, ce_X4_needIndex_t, ↓ct_X4_needIndex_t, ycl_X4_needIndex, ce_X3_standing, ↓ct_X3_standing, ycl_X3_standing, ce_X4_standingLeases, ↓ct_X4_standingLeases, ycl_X4_standingLeases, ce_X4_paidByAll, ↓ct_X4_paidByAll, ycl_X4_paidByAll, ce_X3_coveredCells, ↓ct_X3_coveredCells, ycl_X3_coveredCells, cX_nil mhh_X4_count]
  simp (disch := omega) only [i32_lit, i32_neg, i32_add, i32_mul, i32_sub, i32_nI, i32_lt, i32_le, i32_eq, inR_i, i32_clamp, i32_div, i32_max, i32_min, ite_max, ite_min, b2i_0, b2i_1, b2i_01, i32_toInt, tn_i, Int.toNat_natCast, em_t, true_and, and_true, Int.reduceToNat, Int.reduceLE, Int.reduceLT, Int.reduceAdd, Int.reduceMul, Int.reduceSub, Int.reduceNeg, Int.reduceEq, true_implies, not_true_eq_false, false_implies, not_false_eq_true, kC, rC0, rC1, rC2, rC3, rC4, kQ, rQ0, rQ1, kV, lV, kG, lG, kP, lP, kT, lT, LB1, LB2, LB3, LH1, LH2, LH3, LL1, LL2, LL3, dDy, dEv, true_and, and_true, Option.some.injEq, exists_eq_left', nmOf_0, nmOf_1, nmOf_2, nmOf_3, nmOf_4, nmOf_5, nmOf_6, Nat.add_sub_cancel, Nat.reduceSub, Nat.reduceLT, Nat.reduceEqDiff, ne_eq, not_false_eq_true, hD0, hcc]
  refine ⟨fun h2 => ?_, fun z => hx (by omega)⟩
  replace hq := hq (by omega)
  refine ⟨rfl, by omega, ⟨fun h3 => ?_, fun h3 => ?_, fun h3 => ?_, fun h3 => ?_, fun h3 => ?_⟩, fun h3 => ?_⟩
  · rw [h3] at hq; exact hq
  · rw [h3] at hq; exact hq
  · rw [h3] at hq; exact hq
  · rw [h3] at hq; exact hq
  · rw [h3] at hq; exact hq
  · rw [show wV = 5 by omega] at hq
    exact hq
def ct_X4_got_t (G : GT) (D : WD) (S : SS) : Ct := fun As h Q QX => sR As fun c r => sI r fun o r => s0 r (CD G h D S ∧ c = D 0 0 ∧ (0 ≤ o.toInt ∧ o.toInt ≤ 7 → Q (some (.int (i32 (S.gt (tn o))))) h) ∧ (¬ (0 ≤ o.toInt ∧ o.toInt ≤ 7) → QX IOB h))
def ce_X4_got_t (G : GT) (D : WD) (S : SS) : CE := (0, yX4_got, MX4_got, 1, 8, 4, 24, ct_X4_got_t G D S)
set_option maxRecDepth 100000 in
set_option maxHeartbeats 4000000 in
theorem ok_X4_got_t (G : GT) (G : GT) (D : WD) (S : SS) (hW : WF S) : OKm G yX4_got MX4_got 8 4 24 (ct_X4_got_t G D S) := by
  refine mkOK (ini := false) (by decide) rfl (by first | exact fun _ => rfl | (intro hh; cases hh)) (fun As h Q QX hc => ?_)
  replace hc := sR_e hc; obtain ⟨c, r, rfl, hc⟩ := hc
  replace hc := sI_e hc; obtain ⟨o, r, rfl, hc⟩ := hc
  replace hc := s0_e hc; obtain ⟨rfl, hc⟩ := hc
  obtain ⟨hD, rfl, hq, hx⟩ := hc
  obtain ⟨oV, hoV, rfl⟩ := i32_all o
  simp only [i32_toInt hoV, tn_i hoV] at hq hx
  have hA0 := hD.1
  have hB0 := hD.2
  obtain ⟨⟨kC, rC0, rC1, rC2, rC3, rC4⟩, ⟨kQ, rQ0, rQ1⟩, ⟨kV, lV⟩, ⟨kG, lG⟩, ⟨kP, lP⟩, ⟨kT, lT⟩, ⟨⟨LB1, LB2, LB3, LB4, LB5, LB6, LB7⟩, ⟨LH1, LH2, LH3, LH4, LH5, LH6, LH7⟩, ⟨LL1, LL2, LL3, LL4, LL5, LL6, LL7⟩⟩, hKB, hHA, hKL, hCJ⟩ := hA0
  obtain ⟨dDy, dEv, dG, dP, dV, dB, dL, dH⟩ := hB0
  have hnb := hW.1
  have hnl := hW.2.1
  refine ⟨Nat.le_of_ble_eq_true rfl, ?_⟩
  simp only [ent, entL, catN, List.length_cons, List.length_nil, List.replicate, List.cons_append, List.nil_append, reduceIte, Nat.reduceEqDiff,  Nat.reduceAdd, Nat.reduceSub, mnl_X4_got]
  refine wpW (cs := [(130, ce_X4_needIndex_t)]) (stop := [9]) (n := 200) (env_cons (ceS (by decide +kernel) ⟨by decide, by decide, by decide +kernel⟩ (by decide) (ok_X4_needIndex_t G)) (env_nil0 (env_hh rfl))) ?_
  simp only [↓wpN_S, ↓step_u, ↓stC_s, stC_s, ↓stF_u, stF_u, ↓stepI, lenI, ↓kN_u, isS, ↓gI_0, ↓gI_S, ↓gL_0, ↓gL_S, ↓gD_0, ↓gD_S, ↓gR_0, ↓gR_S, ↓sI_c, ↓sL_c, ↓sD_c, ↓sR_c, ↓s1_r, ↓s1_i, ↓vR_r, ↓vR_n, ↓s0_n, s0_n, ↓oR_u, ↓sP_u, ↓sPa_0, ↓sPa_S, ↓lkC_c, ↓callK_u, ↓cQ_s, ↓cQ_n, putL, putW, clr, kil, catS, catN, refF, booF, finF, nF, nmOf_0, nmOf_1, nmOf_2, nmOf_3, nmOf_4, nmOf_5, nmOf_6, nmOf_50, nmOf_51, nmOf_52, ↓reduceIte, reduceIte, Bool.false_eq_true, eq_self, true_or, or_true, true_and, and_true, false_or, or_false, Nat.reduceAdd, Nat.reduceSub, Nat.reduceEqDiff, Nat.reduceLT, Nat.reduceLeDiff, reduceCtorEq, true_implies, List.length_cons, List.length_nil, List.replicate, List.cons_append, List.nil_append, mrt_X4_got, mhh_X4_got, mow_X4_got, mnl_X4_got, DX4_got_0, DX4_got_1, DX4_got_2, DX4_got_5, DX4_got_6, DX4_got_9, DX4_got_10, DX4_got_13, DX4_got_14, DX4_got_15, ce_X4_needIndex_t, ↓ct_X4_needIndex_t, ycl_X4_needIndex, cX_nil mhh_X4_got]
  simp (disch := omega) only [i32_lit, i32_neg, i32_add, i32_mul, i32_sub, i32_nI, i32_lt, i32_le, i32_eq, inR_i, i32_clamp, i32_div, i32_max, i32_min, ite_max, ite_min, b2i_0, b2i_1, b2i_01, i32_toInt, tn_i, Int.toNat_natCast, em_t, true_and, and_true, Int.reduceToNat, Int.reduceLE, Int.reduceLT, Int.reduceAdd, Int.reduceMul, Int.reduceSub, Int.reduceNeg, Int.reduceEq, true_implies, not_true_eq_false, false_implies, not_false_eq_true, kC, rC0, rC1, rC2, rC3, rC4, kQ, rQ0, rQ1, kV, lV, kG, lG, kP, lP, kT, lT, LB1, LB2, LB3, LH1, LH2, LH3, LL1, LL2, LL3, dDy, dEv, true_and, and_true, Option.some.injEq, exists_eq_left', nmOf_0, nmOf_1, nmOf_2, nmOf_3, nmOf_4, nmOf_5, nmOf_6, Nat.add_sub_cancel, Nat.reduceSub, Nat.reduceLT, Nat.reduceEqDiff, ne_eq, not_false_eq_true]
  refine ⟨by omega, by omega, fun h1 => ?_, fun z => hx (by omega)⟩
  have hk := dG oV.toNat (by omega)
  replace hq := hq (by omega)
  refine Wp.z ?_
  refine wpW (cs := [(130, ce_X4_needIndex_t)]) (stop := []) (n := 200) (env_cons (ceS (by decide +kernel) ⟨by decide, by decide, by decide +kernel⟩ (by decide) (ok_X4_needIndex_t G)) (env_nil0 (env_hh rfl))) ?_
  simp only [↓wpN_S, ↓step_u, ↓stC_s, stC_s, ↓stF_u, stF_u, ↓stepI, lenI, ↓kN_u, isS, ↓gI_0, ↓gI_S, ↓gL_0, ↓gL_S, ↓gD_0, ↓gD_S, ↓gR_0, ↓gR_S, ↓sI_c, ↓sL_c, ↓sD_c, ↓sR_c, ↓s1_r, ↓s1_i, ↓vR_r, ↓vR_n, ↓s0_n, s0_n, ↓oR_u, ↓sP_u, ↓sPa_0, ↓sPa_S, ↓lkC_c, ↓callK_u, ↓cQ_s, ↓cQ_n, putL, putW, clr, kil, catS, catN, refF, booF, finF, nF, nmOf_0, nmOf_1, nmOf_2, nmOf_3, nmOf_4, nmOf_5, nmOf_6, nmOf_50, nmOf_51, nmOf_52, ↓reduceIte, reduceIte, Bool.false_eq_true, eq_self, true_or, or_true, true_and, and_true, false_or, or_false, Nat.reduceAdd, Nat.reduceSub, Nat.reduceEqDiff, Nat.reduceLT, Nat.reduceLeDiff, reduceCtorEq, true_implies, List.length_cons, List.length_nil, List.replicate, List.cons_append, List.nil_append, mrt_X4_got, mhh_X4_got, mow_X4_got, mnl_X4_got, DX4_got_0, DX4_got_1, DX4_got_2, DX4_got_5, DX4_got_6, DX4_got_9, DX4_got_10, DX4_got_13, DX4_got_14, DX4_got_15, ce_X4_needIndex_t, ↓ct_X4_needIndex_t, ycl_X4_needIndex, cX_nil mhh_X4_got]
  simp (disch := omega) only [i32_lit, i32_neg, i32_add, i32_mul, i32_sub, i32_nI, i32_lt, i32_le, i32_eq, inR_i, i32_clamp, i32_div, i32_max, i32_min, ite_max, ite_min, b2i_0, b2i_1, b2i_01, i32_toInt, tn_i, Int.toNat_natCast, em_t, true_and, and_true, Int.reduceToNat, Int.reduceLE, Int.reduceLT, Int.reduceAdd, Int.reduceMul, Int.reduceSub, Int.reduceNeg, Int.reduceEq, true_implies, not_true_eq_false, false_implies, not_false_eq_true, kC, rC0, rC1, rC2, rC3, rC4, kQ, rQ0, rQ1, kV, lV, kG, lG, kP, lP, kT, lT, LB1, LB2, LB3, LH1, LH2, LH3, LL1, LL2, LL3, dDy, dEv, true_and, and_true, Option.some.injEq, exists_eq_left', nmOf_0, nmOf_1, nmOf_2, nmOf_3, nmOf_4, nmOf_5, nmOf_6, Nat.add_sub_cancel, Nat.reduceSub, Nat.reduceLT, Nat.reduceEqDiff, ne_eq, not_false_eq_true, hk]
  exact ⟨by omega, hq⟩
def ct_X4_paid_t (G : GT) (D : WD) (S : SS) : Ct := fun As h Q QX => sR As fun c r => sI r fun o r => s0 r (CD G h D S ∧ c = D 0 0 ∧ (0 ≤ o.toInt ∧ o.toInt ≤ 15 → Q (some (.int (i32 (S.pd (tn o))))) h) ∧ (¬ (0 ≤ o.toInt ∧ o.toInt ≤ 15) → QX IOB h))
def ce_X4_paid_t (G : GT) (D : WD) (S : SS) : CE := (0, yX4_paid, MX4_paid, 1, 8, 4, 24, ct_X4_paid_t G D S)
set_option maxRecDepth 100000 in
set_option maxHeartbeats 4000000 in
theorem ok_X4_paid_t (G : GT) (G : GT) (D : WD) (S : SS) (hW : WF S) : OKm G yX4_paid MX4_paid 8 4 24 (ct_X4_paid_t G D S) := by
  refine mkOK (ini := false) (by decide) rfl (by first | exact fun _ => rfl | (intro hh; cases hh)) (fun As h Q QX hc => ?_)
  replace hc := sR_e hc; obtain ⟨c, r, rfl, hc⟩ := hc
  replace hc := sI_e hc; obtain ⟨o, r, rfl, hc⟩ := hc
  replace hc := s0_e hc; obtain ⟨rfl, hc⟩ := hc
  obtain ⟨hD, rfl, hq, hx⟩ := hc
  obtain ⟨oV, hoV, rfl⟩ := i32_all o
  simp only [i32_toInt hoV, tn_i hoV] at hq hx
  have hA0 := hD.1
  have hB0 := hD.2
  obtain ⟨⟨kC, rC0, rC1, rC2, rC3, rC4⟩, ⟨kQ, rQ0, rQ1⟩, ⟨kV, lV⟩, ⟨kG, lG⟩, ⟨kP, lP⟩, ⟨kT, lT⟩, ⟨⟨LB1, LB2, LB3, LB4, LB5, LB6, LB7⟩, ⟨LH1, LH2, LH3, LH4, LH5, LH6, LH7⟩, ⟨LL1, LL2, LL3, LL4, LL5, LL6, LL7⟩⟩, hKB, hHA, hKL, hCJ⟩ := hA0
  obtain ⟨dDy, dEv, dG, dP, dV, dB, dL, dH⟩ := hB0
  have hnb := hW.1
  have hnl := hW.2.1
  refine ⟨Nat.le_of_ble_eq_true rfl, ?_⟩
  simp only [ent, entL, catN, List.length_cons, List.length_nil, List.replicate, List.cons_append, List.nil_append, reduceIte, Nat.reduceEqDiff,  Nat.reduceAdd, Nat.reduceSub, mnl_X4_paid]
  refine wpW (cs := [(130, ce_X4_needIndex_t)]) (stop := [9]) (n := 200) (env_cons (ceS (by decide +kernel) ⟨by decide, by decide, by decide +kernel⟩ (by decide) (ok_X4_needIndex_t G)) (env_nil0 (env_hh rfl))) ?_
  simp only [↓wpN_S, ↓step_u, ↓stC_s, stC_s, ↓stF_u, stF_u, ↓stepI, lenI, ↓kN_u, isS, ↓gI_0, ↓gI_S, ↓gL_0, ↓gL_S, ↓gD_0, ↓gD_S, ↓gR_0, ↓gR_S, ↓sI_c, ↓sL_c, ↓sD_c, ↓sR_c, ↓s1_r, ↓s1_i, ↓vR_r, ↓vR_n, ↓s0_n, s0_n, ↓oR_u, ↓sP_u, ↓sPa_0, ↓sPa_S, ↓lkC_c, ↓callK_u, ↓cQ_s, ↓cQ_n, putL, putW, clr, kil, catS, catN, refF, booF, finF, nF, nmOf_0, nmOf_1, nmOf_2, nmOf_3, nmOf_4, nmOf_5, nmOf_6, nmOf_50, nmOf_51, nmOf_52, ↓reduceIte, reduceIte, Bool.false_eq_true, eq_self, true_or, or_true, true_and, and_true, false_or, or_false, Nat.reduceAdd, Nat.reduceSub, Nat.reduceEqDiff, Nat.reduceLT, Nat.reduceLeDiff, reduceCtorEq, true_implies, List.length_cons, List.length_nil, List.replicate, List.cons_append, List.nil_append, mrt_X4_paid, mhh_X4_paid, mow_X4_paid, mnl_X4_paid, DX4_paid_0, DX4_paid_1, DX4_paid_2, DX4_paid_5, DX4_paid_6, DX4_paid_9, DX4_paid_10, DX4_paid_13, DX4_paid_14, DX4_paid_15, ce_X4_needIndex_t, ↓ct_X4_needIndex_t, ycl_X4_needIndex, cX_nil mhh_X4_paid]
  simp (disch := omega) only [i32_lit, i32_neg, i32_add, i32_mul, i32_sub, i32_nI, i32_lt, i32_le, i32_eq, inR_i, i32_clamp, i32_div, i32_max, i32_min, ite_max, ite_min, b2i_0, b2i_1, b2i_01, i32_toInt, tn_i, Int.toNat_natCast, em_t, true_and, and_true, Int.reduceToNat, Int.reduceLE, Int.reduceLT, Int.reduceAdd, Int.reduceMul, Int.reduceSub, Int.reduceNeg, Int.reduceEq, true_implies, not_true_eq_false, false_implies, not_false_eq_true, kC, rC0, rC1, rC2, rC3, rC4, kQ, rQ0, rQ1, kV, lV, kG, lG, kP, lP, kT, lT, LB1, LB2, LB3, LH1, LH2, LH3, LL1, LL2, LL3, dDy, dEv, true_and, and_true, Option.some.injEq, exists_eq_left', nmOf_0, nmOf_1, nmOf_2, nmOf_3, nmOf_4, nmOf_5, nmOf_6, Nat.add_sub_cancel, Nat.reduceSub, Nat.reduceLT, Nat.reduceEqDiff, ne_eq, not_false_eq_true]
  refine ⟨by omega, by omega, fun h1 => ?_, fun z => hx (by omega)⟩
  have hk := dP oV.toNat (by omega)
  replace hq := hq (by omega)
  refine Wp.z ?_
  refine wpW (cs := [(130, ce_X4_needIndex_t)]) (stop := []) (n := 200) (env_cons (ceS (by decide +kernel) ⟨by decide, by decide, by decide +kernel⟩ (by decide) (ok_X4_needIndex_t G)) (env_nil0 (env_hh rfl))) ?_
  simp only [↓wpN_S, ↓step_u, ↓stC_s, stC_s, ↓stF_u, stF_u, ↓stepI, lenI, ↓kN_u, isS, ↓gI_0, ↓gI_S, ↓gL_0, ↓gL_S, ↓gD_0, ↓gD_S, ↓gR_0, ↓gR_S, ↓sI_c, ↓sL_c, ↓sD_c, ↓sR_c, ↓s1_r, ↓s1_i, ↓vR_r, ↓vR_n, ↓s0_n, s0_n, ↓oR_u, ↓sP_u, ↓sPa_0, ↓sPa_S, ↓lkC_c, ↓callK_u, ↓cQ_s, ↓cQ_n, putL, putW, clr, kil, catS, catN, refF, booF, finF, nF, nmOf_0, nmOf_1, nmOf_2, nmOf_3, nmOf_4, nmOf_5, nmOf_6, nmOf_50, nmOf_51, nmOf_52, ↓reduceIte, reduceIte, Bool.false_eq_true, eq_self, true_or, or_true, true_and, and_true, false_or, or_false, Nat.reduceAdd, Nat.reduceSub, Nat.reduceEqDiff, Nat.reduceLT, Nat.reduceLeDiff, reduceCtorEq, true_implies, List.length_cons, List.length_nil, List.replicate, List.cons_append, List.nil_append, mrt_X4_paid, mhh_X4_paid, mow_X4_paid, mnl_X4_paid, DX4_paid_0, DX4_paid_1, DX4_paid_2, DX4_paid_5, DX4_paid_6, DX4_paid_9, DX4_paid_10, DX4_paid_13, DX4_paid_14, DX4_paid_15, ce_X4_needIndex_t, ↓ct_X4_needIndex_t, ycl_X4_needIndex, cX_nil mhh_X4_paid]
  simp (disch := omega) only [i32_lit, i32_neg, i32_add, i32_mul, i32_sub, i32_nI, i32_lt, i32_le, i32_eq, inR_i, i32_clamp, i32_div, i32_max, i32_min, ite_max, ite_min, b2i_0, b2i_1, b2i_01, i32_toInt, tn_i, Int.toNat_natCast, em_t, true_and, and_true, Int.reduceToNat, Int.reduceLE, Int.reduceLT, Int.reduceAdd, Int.reduceMul, Int.reduceSub, Int.reduceNeg, Int.reduceEq, true_implies, not_true_eq_false, false_implies, not_false_eq_true, kC, rC0, rC1, rC2, rC3, rC4, kQ, rQ0, rQ1, kV, lV, kG, lG, kP, lP, kT, lT, LB1, LB2, LB3, LH1, LH2, LH3, LL1, LL2, LL3, dDy, dEv, true_and, and_true, Option.some.injEq, exists_eq_left', nmOf_0, nmOf_1, nmOf_2, nmOf_3, nmOf_4, nmOf_5, nmOf_6, Nat.add_sub_cancel, Nat.reduceSub, Nat.reduceLT, Nat.reduceEqDiff, ne_eq, not_false_eq_true, hk]
  exact ⟨by omega, hq⟩

