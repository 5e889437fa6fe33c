/-! ===== the law's small ones ===== -/
theorem and31 (v : Int32) : ∃ w : Int, 0 ≤ w ∧ w < 2147483648 ∧ v &&& 2147483647 = i32 w := by
  refine ⟨(v &&& 2147483647).toInt, ?_, Int32.toInt_lt _, ?_⟩
  · have h : (v &&& 2147483647).toBitVec.toNat < 2 ^ 31 := by
      show (v.toBitVec &&& (2147483647 : Int32).toBitVec).toNat < 2 ^ 31
      rw [BitVec.toNat_and]
      exact Nat.lt_of_le_of_lt Nat.and_le_right (by decide)
    show 0 ≤ (v &&& 2147483647).toBitVec.toInt
    rw [BitVec.toInt_eq_toNat_of_lt (by omega)]
    omega
  · unfold i32
    rw [Int32.ofInt_toInt]
def ct_L_below : Ct := fun As h Q _ => sI As fun v r => sI r fun n r => s0 r (0 < n.toInt ∧ ∀ w : Int, 0 ≤ w → w < n.toInt → Q (some (.int (i32 w))) h)
def ce_L_below : CE := (1, yL_below, ML_below, 2, 0, 0, 0, ct_L_below)
set_option maxRecDepth 100000 in
set_option maxHeartbeats 4000000 in
theorem ok_L_below (G : GT) : OKm G yL_below ML_below 0 0 0 ct_L_below := by
  refine mkOK (ini := false) (by decide) rfl (by first | exact fun _ => rfl | (intro hh; cases hh)) (fun As h Q QX hc => ?_)
  replace hc := sI_e hc; obtain ⟨v, r, rfl, hc⟩ := hc
  replace hc := sI_e hc; obtain ⟨n, r, rfl, hc⟩ := hc
  replace hc := s0_e hc; obtain ⟨rfl, hc⟩ := hc
  obtain ⟨hn, hq⟩ := hc
  obtain ⟨nV, hnV, rfl⟩ := i32_all n
  simp only [i32_toInt hnV] at hn hq
  obtain ⟨w, hw0, hw1, hw⟩ := and31 v
  refine ⟨Nat.le_of_ble_eq_true rfl, ?_⟩
  simp only [ent, entL, catN, List.length_cons, List.length_nil, List.replicate, List.cons_append, List.nil_append, reduceIte, Nat.reduceEqDiff,  Nat.reduceAdd, Nat.reduceSub, mnl_L_below]
  refine wpW (cs := []) (stop := []) (n := 200) (env_nil0 (env_hh rfl)) ?_
  simp only [↓wpN_S, ↓step_u, ↓stC_s, stC_s, ↓stF_u, stF_u, ↓stepI, lenI, ↓kN_u, isS, ↓gI_0, ↓gI_S, ↓gL_0, ↓gL_S, ↓gD_0, ↓gD_S, ↓gR_0, ↓gR_S, ↓sI_c, ↓sL_c, ↓sD_c, ↓sR_c, ↓s1_r, ↓s1_i, ↓vR_r, ↓vR_n, ↓s0_n, s0_n, ↓oR_u, ↓sP_u, ↓sPa_0, ↓sPa_S, ↓lkC_c, ↓callK_u, ↓cQ_s, ↓cQ_n, putL, putW, clr, kil, catS, catN, refF, booF, finF, nF, nmOf_0, nmOf_1, nmOf_2, nmOf_3, nmOf_4, nmOf_5, nmOf_6, nmOf_50, nmOf_51, nmOf_52, ↓reduceIte, reduceIte, Bool.false_eq_true, eq_self, true_or, or_true, true_and, and_true, false_or, or_false, Nat.reduceAdd, Nat.reduceSub, Nat.reduceEqDiff, Nat.reduceLT, Nat.reduceLeDiff, reduceCtorEq, true_implies, List.length_cons, List.length_nil, List.replicate, List.cons_append, List.nil_append, mrt_L_below, mhh_L_below, mow_L_below, mnl_L_below, DL_below_0, DL_below_1, DL_below_3, DL_below_4, DL_below_5, DL_below_6, nxc, nxr]
  simp only [hw]
  simp (disch := omega) only [i32_lit, i32_neg, i32_add, i32_mul, i32_sub, i32_nI, i32_lt, i32_le, i32_eq, inR_i, i32_clamp, i32_div, i32_max, i32_min, ite_max, ite_min, b2i_0, b2i_1, b2i_01, i32_toInt, tn_i, Int.toNat_natCast, em_t, true_and, and_true, Int.reduceToNat, Int.reduceLE, Int.reduceLT, Int.reduceAdd, Int.reduceMul, Int.reduceSub, Int.reduceNeg, Int.reduceEq, true_implies, not_true_eq_false, false_implies, not_false_eq_true]
  rw [show w - w / nV * nV = w % nV by rw [Int.emod_def, Int.mul_comm]]
  exact ⟨by omega, hq _ (Int.emod_nonneg _ (by omega)) (Int.emod_lt_of_pos _ hn)⟩
def ct_L_cell (G : GT) : Ct := fun As h Q _ => sR As fun a r => sI r fun k r => s0 r (a = scB G ∧ 0 ≤ k.toInt ∧ ∀ w : Int32, Q (some (.int w)) h)
def ce_L_cell (G : GT) : CE := (1, yL_cell, ML_cell, 2, 0, 0, 0, ct_L_cell G)
set_option maxRecDepth 100000 in
set_option maxHeartbeats 4000000 in
theorem ok_L_cell (G : GT) (G : GT) (hL : scL G ≤ 3584) : OKm G yL_cell ML_cell 0 0 0 (ct_L_cell G) := by
  refine mkOK (ini := false) (by decide) rfl (by first | exact fun _ => rfl | (intro hh; cases hh)) (fun As h Q QX hc => ?_)
  replace hc := sR_e hc; obtain ⟨a, r, rfl, hc⟩ := hc
  replace hc := sI_e hc; obtain ⟨k, r, rfl, hc⟩ := hc
  replace hc := s0_e hc; obtain ⟨rfl, hc⟩ := hc
  obtain ⟨rfl, hk, hq⟩ := hc
  obtain ⟨kV, hkV, rfl⟩ := i32_all k
  simp only [i32_toInt hkV] at hk
  refine ⟨Nat.le_of_ble_eq_true rfl, ?_⟩
  simp only [ent, entL, catN, List.length_cons, List.length_nil, List.replicate, List.cons_append, List.nil_append, reduceIte, Nat.reduceEqDiff,  Nat.reduceAdd, Nat.reduceSub, mnl_L_cell]
  refine wpW (cs := []) (stop := [2]) (n := 200) (env_nil0 (env_hh rfl)) ?_
  simp only [↓wpN_S, ↓step_u, ↓stC_s, stC_s, ↓stF_u, stF_u, ↓stepI, lenI, ↓kN_u, isS, ↓gI_0, ↓gI_S, ↓gL_0, ↓gL_S, ↓gD_0, ↓gD_S, ↓gR_0, ↓gR_S, ↓sI_c, ↓sL_c, ↓sD_c, ↓sR_c, ↓s1_r, ↓s1_i, ↓vR_r, ↓vR_n, ↓s0_n, s0_n, ↓oR_u, ↓sP_u, ↓sPa_0, ↓sPa_S, ↓lkC_c, ↓callK_u, ↓cQ_s, ↓cQ_n, putL, putW, clr, kil, catS, catN, refF, booF, finF, nF, nmOf_0, nmOf_1, nmOf_2, nmOf_3, nmOf_4, nmOf_5, nmOf_6, nmOf_50, nmOf_51, nmOf_52, ↓reduceIte, reduceIte, Bool.false_eq_true, eq_self, true_or, or_true, true_and, and_true, false_or, or_false, Nat.reduceAdd, Nat.reduceSub, Nat.reduceEqDiff, Nat.reduceLT, Nat.reduceLeDiff, reduceCtorEq, true_implies, List.length_cons, List.length_nil, List.replicate, List.cons_append, List.nil_append, mrt_L_cell, mhh_L_cell, mow_L_cell, mnl_L_cell, DL_cell_0, DL_cell_1, DL_cell_2, DL_cell_3, DL_cell_6, DL_cell_7, DL_cell_8, DL_cell_9, DL_cell_12, DL_cell_14, DL_cell_15, DL_cell_16, DL_cell_17, DL_cell_18, nxc, nxr]
  refine Wp.slen (rs_dec DL_cell_2) ?_
  refine wpW (cs := []) (stop := [8]) (n := 200) (env_nil0 (env_hh rfl)) ?_
  simp only [↓wpN_S, ↓step_u, ↓stC_s, stC_s, ↓stF_u, stF_u, ↓stepI, lenI, ↓kN_u, isS, ↓gI_0, ↓gI_S, ↓gL_0, ↓gL_S, ↓gD_0, ↓gD_S, ↓gR_0, ↓gR_S, ↓sI_c, ↓sL_c, ↓sD_c, ↓sR_c, ↓s1_r, ↓s1_i, ↓vR_r, ↓vR_n, ↓s0_n, s0_n, ↓oR_u, ↓sP_u, ↓sPa_0, ↓sPa_S, ↓lkC_c, ↓callK_u, ↓cQ_s, ↓cQ_n, putL, putW, clr, kil, catS, catN, refF, booF, finF, nF, nmOf_0, nmOf_1, nmOf_2, nmOf_3, nmOf_4, nmOf_5, nmOf_6, nmOf_50, nmOf_51, nmOf_52, ↓reduceIte, reduceIte, Bool.false_eq_true, eq_self, true_or, or_true, true_and, and_true, false_or, or_false, Nat.reduceAdd, Nat.reduceSub, Nat.reduceEqDiff, Nat.reduceLT, Nat.reduceLeDiff, reduceCtorEq, true_implies, List.length_cons, List.length_nil, List.replicate, List.cons_append, List.nil_append, mrt_L_cell, mhh_L_cell, mow_L_cell, mnl_L_cell, DL_cell_0, DL_cell_1, DL_cell_2, DL_cell_3, DL_cell_6, DL_cell_7, DL_cell_8, DL_cell_9, DL_cell_12, DL_cell_14, DL_cell_15, DL_cell_16, DL_cell_17, DL_cell_18, nxc, nxr]
  simp (disch := omega) only [i32_lit, i32_neg, i32_add, i32_mul, i32_sub, i32_nI, i32_lt, i32_le, i32_eq, inR_i, i32_clamp, i32_div, i32_max, i32_min, ite_max, ite_min, b2i_0, b2i_1, b2i_01, i32_toInt, tn_i, Int.toNat_natCast, em_t, true_and, and_true, Int.reduceToNat, Int.reduceLE, Int.reduceLT, Int.reduceAdd, Int.reduceMul, Int.reduceSub, Int.reduceNeg, Int.reduceEq, true_implies, not_true_eq_false, false_implies, not_false_eq_true]
  refine ⟨fun _ => hq _, fun z => ?_⟩
  refine Wp.sld (rs_dec DL_cell_8) ((inR_i hkV).mpr ⟨by omega, by omega⟩) ?_
  refine wpW (cs := []) (stop := []) (n := 200) (env_nil0 (env_hh rfl)) ?_
  simp only [↓wpN_S, ↓step_u, ↓stC_s, stC_s, ↓stF_u, stF_u, ↓stepI, lenI, ↓kN_u, isS, ↓gI_0, ↓gI_S, ↓gL_0, ↓gL_S, ↓gD_0, ↓gD_S, ↓gR_0, ↓gR_S, ↓sI_c, ↓sL_c, ↓sD_c, ↓sR_c, ↓s1_r, ↓s1_i, ↓vR_r, ↓vR_n, ↓s0_n, s0_n, ↓oR_u, ↓sP_u, ↓sPa_0, ↓sPa_S, ↓lkC_c, ↓callK_u, ↓cQ_s, ↓cQ_n, putL, putW, clr, kil, catS, catN, refF, booF, finF, nF, nmOf_0, nmOf_1, nmOf_2, nmOf_3, nmOf_4, nmOf_5, nmOf_6, nmOf_50, nmOf_51, nmOf_52, ↓reduceIte, reduceIte, Bool.false_eq_true, eq_self, true_or, or_true, true_and, and_true, false_or, or_false, Nat.reduceAdd, Nat.reduceSub, Nat.reduceEqDiff, Nat.reduceLT, Nat.reduceLeDiff, reduceCtorEq, true_implies, List.length_cons, List.length_nil, List.replicate, List.cons_append, List.nil_append, mrt_L_cell, mhh_L_cell, mow_L_cell, mnl_L_cell, DL_cell_0, DL_cell_1, DL_cell_2, DL_cell_3, DL_cell_6, DL_cell_7, DL_cell_8, DL_cell_9, DL_cell_12, DL_cell_14, DL_cell_15, DL_cell_16, DL_cell_17, DL_cell_18, nxc, nxr]
  exact hq _
/-! ===== rows of rows ===== -/
def MR (h : Hp) (a n m : Nat) (B : Nat → Nat) : Prop := kd h a = 25 ∧ ln h a = n ∧ ∀ i, i < n → ra h a i = some (B i) ∧ kd h (B i) = 21 ∧ ln h (B i) = m
theorem MR.fr {h h' : Hp} {a n m : Nat} {B : Nat → Nat} {W : Nat → Prop} (hM : MR h a n m B) (f : Fr h h' W) (hw : ¬ W a) : MR h' a n m B := by
  obtain ⟨h1, h2, h3⟩ := hM
  obtain ⟨⟨g1, g2⟩, g3⟩ := f a (by omega)
  refine ⟨g1.trans h1, g2.trans h2, fun i hi => ?_⟩
  obtain ⟨e1, e2, e3⟩ := h3 i hi
  obtain ⟨⟨k1, k2⟩, -⟩ := f (B i) (by omega)
  exact ⟨((g3 hw).2.2.2.2 i).trans e1, k1.trans e2, k2.trans e3⟩
def ct_X5_more (G : GT) : Ct := fun As h Q _ => sR As fun a r => sR r fun q r => s0 r (kd h a = 25 ∧ kd h q = 21 ∧ ln h a ≤ 50 ∧ (∀ i, i < ln h a → ∃ w, ra h a i = some w ∧ kd h w = 21) ∧ ∀ h' a', kd h a' = 0 → Fr h h' (fun _ => False) → kd h' a' = 25 → ln h' a' = ln h a + 1 → (∀ i, i < ln h a → ra h' a' i = ra h a i) → ra h' a' (ln h a) = some q → Q (some (.ref a')) h')
def ce_X5_more (G : GT) : CE := (1, yX5_more, MX5_more, 2, 0, 1, 60, ct_X5_more G)
set_option maxRecDepth 100000 in
set_option maxHeartbeats 4000000 in
theorem lp_X5_more (G : GT) {h : Hp} {a q a' n : Nat} {Q : Option Value → Hp → Prop} {QX : String → Hp → Prop} (ka : kd h a = 25) (kq : kd h q = 21) (la : ln h a = n) (hn : n ≤ 50) (hr : ∀ i, i < n → ∃ w, ra h a i = some w ∧ kd h w = 21) (h0 : kd h a' = 0)
    (hq : ∀ h', Fr h h' (fun _ => False) → kd h' a' = 25 → ln h' a' = n + 1 → (∀ i, i < n → ra h' a' i = ra h a i) → ra h' a' n = some q → Q (some (.ref a')) h') :
    ∀ k i : Nat, i + k = n → ∀ g, Fr h g (fun _ => False) → kd g a' = 25 → ln g a' = n + 1 → (∀ j, j < i → ra g a' j = ra h a j) → ∀ b, Wp G MX5_more false 0 Q QX 10 [some (.ref a), some (.ref q), some (.ref a'), some (.int (i32 i))] [] g b := by
  intro k
  induction k with
  | zero =>
    intro i hi g f k1 l1 hj b
    have e : i = n := by omega
    subst e
    obtain ⟨⟨k2, l2⟩, -⟩ := f a (by omega)
    rw [ka] at k2
    rw [la] at l2
    obtain ⟨⟨k3, -⟩, -⟩ := f q (by omega)
    rw [kq] at k3
    have hz := hq (setRA g a' i (some q)) (f.nw (Fr.sRA rfl) (fun _ e => Or.inr (e ▸ h0))) k1 l1 (fun j hj' => by rw [ra_setRA, if_neg (by omega)]; exact hj j hj') (by rw [ra_setRA, if_pos ⟨rfl, rfl⟩])
    refine wpW (cs := []) (stop := [10]) (n := 200) (env_nil0 (env_hh rfl)) ?_
    simp only [↓wpN_S, ↓step_u, ↓stC_s, stC_s, ↓stF_u, stF_u, ↓stepI, lenI, ↓kN_u, isS, ↓gI_0, ↓gI_S, ↓gL_0, ↓gL_S, ↓gD_0, ↓gD_S, ↓gR_0, ↓gR_S, ↓sI_c, ↓sL_c, ↓sD_c, ↓sR_c, ↓s1_r, ↓s1_i, ↓vR_r, ↓vR_n, ↓s0_n, s0_n, ↓oR_u, ↓sP_u, ↓sPa_0, ↓sPa_S, ↓lkC_c, ↓callK_u, ↓cQ_s, ↓cQ_n, putL, putW, clr, kil, catS, catN, refF, booF, finF, nF, nmOf_0, nmOf_1, nmOf_2, nmOf_3, nmOf_4, nmOf_5, nmOf_6, nmOf_50, nmOf_51, nmOf_52, ↓reduceIte, reduceIte, Bool.false_eq_true, eq_self, true_or, or_true, true_and, and_true, false_or, or_false, Nat.reduceAdd, Nat.reduceSub, Nat.reduceEqDiff, Nat.reduceLT, Nat.reduceLeDiff, reduceCtorEq, true_implies, List.length_cons, List.length_nil, List.replicate, List.cons_append, List.nil_append, mrt_X5_more, mhh_X5_more, mow_X5_more, mnl_X5_more, DX5_more_0, DX5_more_1, DX5_more_2, DX5_more_3, DX5_more_4, DX5_more_7, DX5_more_8, DX5_more_9, DX5_more_10, DX5_more_11, DX5_more_12, DX5_more_13, DX5_more_16, DX5_more_17, DX5_more_18, DX5_more_19, DX5_more_20, DX5_more_21, DX5_more_22, DX5_more_25, DX5_more_28, DX5_more_29, DX5_more_30, DX5_more_31, DX5_more_32, DX5_more_33, DX5_more_34]
    simp (disch := omega) only [i32_lit, i32_neg, i32_add, i32_mul, i32_sub, i32_nI, i32_lt, i32_le, i32_eq, inR_i, i32_clamp, i32_div, i32_max, i32_min, ite_max, ite_min, b2i_0, b2i_1, b2i_01, i32_toInt, tn_i, Int.toNat_natCast, em_t, true_and, and_true, Int.reduceToNat, Int.reduceLE, Int.reduceLT, Int.reduceAdd, Int.reduceMul, Int.reduceSub, Int.reduceNeg, Int.reduceEq, true_implies, not_true_eq_false, false_implies, not_false_eq_true, k1, l1, k2, l2, k3]
    exact ⟨fun _ => ⟨by omega, hz⟩, fun z => by omega⟩
  | succ k ih =>
    intro i hi g f k1 l1 hj b
    obtain ⟨⟨k2, l2⟩, f2⟩ := f a (by omega)
    rw [ka] at k2
    rw [la] at l2
    obtain ⟨w, hw1, hw2⟩ := hr i (by omega)
    have hw3 : ra g a i = some w := ((f2 (fun z => z.elim)).2.2.2.2 i).trans hw1
    have hw4 : kd g w = 21 := (f w (by omega)).1.1.trans hw2
    have hs := ih (i + 1) (by omega) (setRA g a' i (some w)) (f.nw (Fr.sRA rfl) (fun _ e => Or.inr (e ▸ h0))) k1 l1 (fun j hj' => by
      rw [ra_setRA]
      by_cases e : j = i
      · rw [if_pos ⟨rfl, e⟩, e, hw1]
      · rw [if_neg (fun z => e z.2)]; exact hj j (by omega)) b
    refine wpW (cs := []) (stop := [10]) (n := 200) (env_nil0 (env_hh rfl)) ?_
    simp only [↓wpN_S, ↓step_u, ↓stC_s, stC_s, ↓stF_u, stF_u, ↓stepI, lenI, ↓kN_u, isS, ↓gI_0, ↓gI_S, ↓gL_0, ↓gL_S, ↓gD_0, ↓gD_S, ↓gR_0, ↓gR_S, ↓sI_c, ↓sL_c, ↓sD_c, ↓sR_c, ↓s1_r, ↓s1_i, ↓vR_r, ↓vR_n, ↓s0_n, s0_n, ↓oR_u, ↓sP_u, ↓sPa_0, ↓sPa_S, ↓lkC_c, ↓callK_u, ↓cQ_s, ↓cQ_n, putL, putW, clr, kil, catS, catN, refF, booF, finF, nF, nmOf_0, nmOf_1, nmOf_2, nmOf_3, nmOf_4, nmOf_5, nmOf_6, nmOf_50, nmOf_51, nmOf_52, ↓reduceIte, reduceIte, Bool.false_eq_true, eq_self, true_or, or_true, true_and, and_true, false_or, or_false, Nat.reduceAdd, Nat.reduceSub, Nat.reduceEqDiff, Nat.reduceLT, Nat.reduceLeDiff, reduceCtorEq, true_implies, List.length_cons, List.length_nil, List.replicate, List.cons_append, List.nil_append, mrt_X5_more, mhh_X5_more, mow_X5_more, mnl_X5_more, DX5_more_0, DX5_more_1, DX5_more_2, DX5_more_3, DX5_more_4, DX5_more_7, DX5_more_8, DX5_more_9, DX5_more_10, DX5_more_11, DX5_more_12, DX5_more_13, DX5_more_16, DX5_more_17, DX5_more_18, DX5_more_19, DX5_more_20, DX5_more_21, DX5_more_22, DX5_more_25, DX5_more_28, DX5_more_29, DX5_more_30, DX5_more_31, DX5_more_32, DX5_more_33, DX5_more_34]
    simp (disch := omega) only [i32_lit, i32_neg, i32_add, i32_mul, i32_sub, i32_nI, i32_lt, i32_le, i32_eq, inR_i, i32_clamp, i32_div, i32_max, i32_min, ite_max, ite_min, b2i_0, b2i_1, b2i_01, i32_toInt, tn_i, Int.toNat_natCast, em_t, true_and, and_true, Int.reduceToNat, Int.reduceLE, Int.reduceLT, Int.reduceAdd, Int.reduceMul, Int.reduceSub, Int.reduceNeg, Int.reduceEq, true_implies, not_true_eq_false, false_implies, not_false_eq_true, k1, l1, k2, l2, hw3, hw4, Option.some.injEq, exists_eq_left']
    rw [show (i : Int) + 1 = ((i + 1 : Nat) : Int) by omega]
    exact ⟨fun z => by omega, fun _ => ⟨by omega, by omega, hs⟩⟩
set_option maxRecDepth 100000 in
set_option maxHeartbeats 4000000 in
theorem ok_X5_more (G : GT) (G : GT) : OKm G yX5_more MX5_more 0 1 60 (ct_X5_more G) := by
  refine mkOK (ini := false) (by decide) rfl (by first | exact fun _ => rfl | (intro hh; cases hh)) (fun As h Q QX hc => ?_)
  replace hc := sR_e hc; obtain ⟨a, r, rfl, hc⟩ := hc
  replace hc := sR_e hc; obtain ⟨q, r, rfl, hc⟩ := hc
  replace hc := s0_e hc; obtain ⟨rfl, hc⟩ := hc
  obtain ⟨ka, kq, hn, hr, hq⟩ := hc
  generalize hla : ln h a = n at *
  refine ⟨Nat.le_of_ble_eq_true rfl, ?_⟩
  simp only [ent, entL, catN, List.length_cons, List.length_nil, List.replicate, List.cons_append, List.nil_append, reduceIte, Nat.reduceEqDiff,  Nat.reduceAdd, Nat.reduceSub, mnl_X5_more]
  refine wpW (cs := []) (stop := [10]) (n := 200) (env_nil0 (env_hh rfl)) ?_
  simp only [↓wpN_S, ↓step_u, ↓stC_s, stC_s, ↓stF_u, stF_u, ↓stepI, lenI, ↓kN_u, isS, ↓gI_0, ↓gI_S, ↓gL_0, ↓gL_S, ↓gD_0, ↓gD_S, ↓gR_0, ↓gR_S, ↓sI_c, ↓sL_c, ↓sD_c, ↓sR_c, ↓s1_r, ↓s1_i, ↓vR_r, ↓vR_n, ↓s0_n, s0_n, ↓oR_u, ↓sP_u, ↓sPa_0, ↓sPa_S, ↓lkC_c, ↓callK_u, ↓cQ_s, ↓cQ_n, putL, putW, clr, kil, catS, catN, refF, booF, finF, nF, nmOf_0, nmOf_1, nmOf_2, nmOf_3, nmOf_4, nmOf_5, nmOf_6, nmOf_50, nmOf_51, nmOf_52, ↓reduceIte, reduceIte, Bool.false_eq_true, eq_self, true_or, or_true, true_and, and_true, false_or, or_false, Nat.reduceAdd, Nat.reduceSub, Nat.reduceEqDiff, Nat.reduceLT, Nat.reduceLeDiff, reduceCtorEq, true_implies, List.length_cons, List.length_nil, List.replicate, List.cons_append, List.nil_append, mrt_X5_more, mhh_X5_more, mow_X5_more, mnl_X5_more, DX5_more_0, DX5_more_1, DX5_more_2, DX5_more_3, DX5_more_4, DX5_more_7, DX5_more_8, DX5_more_9, DX5_more_10, DX5_more_11, DX5_more_12, DX5_more_13, DX5_more_16, DX5_more_17, DX5_more_18, DX5_more_19, DX5_more_20, DX5_more_21, DX5_more_22, DX5_more_25, DX5_more_28, DX5_more_29, DX5_more_30, DX5_more_31, DX5_more_32, DX5_more_33, DX5_more_34]
  simp (disch := omega) only [i32_lit, i32_neg, i32_add, i32_mul, i32_sub, i32_nI, i32_lt, i32_le, i32_eq, inR_i, i32_clamp, i32_div, i32_max, i32_min, ite_max, ite_min, b2i_0, b2i_1, b2i_01, i32_toInt, tn_i, Int.toNat_natCast, em_t, true_and, and_true, Int.reduceToNat, Int.reduceLE, Int.reduceLT, Int.reduceAdd, Int.reduceMul, Int.reduceSub, Int.reduceNeg, Int.reduceEq, true_implies, not_true_eq_false, false_implies, not_false_eq_true, ka, hla]
  refine ⟨by omega, by omega, by omega, fun a' h0 _ => ?_⟩
  have hz := lp_X5_more G (QX := QX) ka kq hla hn hr h0 (fun h' g1 g2 g3 g4 g5 => hq h' a' h0 g1 g2 g3 g4 g5) n 0 (by omega) (newA h a' 25 (n + 1)) (Fr.nA h0) (by rw [kd_newA, if_pos rfl]) (by rw [ln_newA, if_pos rfl]) (fun j hj => by omega)
  rw [show ((n : Int) + 1).toNat = n + 1 by omega]
  exact hz _
/-! ===== the law's square in its own rows. T: 0 0 the square, 0 1 .. 0 5 its rows of rows (sun, buildings, leases, owner, many), 1 .. 5 their rows ===== -/
abbrev TT : Type := Nat → Nat → Nat
def SQ (h : Hp) (T : TT) (S : SS) : Prop := (kd h (T 0 0) = 7 ∧ fr h 6 2 (T 0 0) = some (T 0 1) ∧ fr h 6 3 (T 0 0) = some (T 0 2) ∧ fr h 6 4 (T 0 0) = some (T 0 3) ∧ fr h 6 7 (T 0 0) = some (T 0 4) ∧ fr h 6 8 (T 0 0) = some (T 0 5)) ∧
  (MR h (T 0 1) 12 3 (T 1) ∧ MR h (T 0 2) S.nb 7 (T 2) ∧ MR h (T 0 3) S.nl 9 (T 3) ∧ MR h (T 0 4) 12 256 (T 4) ∧ MR h (T 0 5) 12 256 (T 5)) ∧
  (∀ r, r < 12 → ia h (T 1 r) 0 = i32 (S.sn r 0) ∧ ia h (T 1 r) 1 = i32 (S.sn r 1) ∧ ia h (T 1 r) 2 = i32 (S.sn r 2)) ∧
  (∀ b, b < S.nb → ia h (T 2 b) 0 = i32 (S.bf b 0) ∧ ia h (T 2 b) 1 = i32 (S.bf b 1) ∧ ia h (T 2 b) 2 = i32 (S.bf b 2) ∧ ia h (T 2 b) 3 = i32 (S.bf b 3) ∧ ia h (T 2 b) 4 = i32 (S.bf b 4) ∧ ia h (T 2 b) 6 = i32 (S.bf b 6)) ∧
  (∀ r i, r < 12 → i < 12 → T 1 r ≠ T 4 i ∧ T 1 r ≠ T 5 i) ∧ (∀ b i, b < S.nb → i < 12 → T 2 b ≠ T 4 i ∧ T 2 b ≠ T 5 i) ∧ ∀ i j, i ≤ 5 → j ≤ 5 → T 0 i = T 0 j → i = j
/-- what must not be written by others; owner's and many's rows -/
def SN (T : TT) (S : SS) : Nat → Prop := fun a => (∃ i, i ≤ 5 ∧ a = T 0 i) ∨ (∃ r, r < 12 ∧ a = T 1 r) ∨ ∃ b, b < S.nb ∧ a = T 2 b
def YR (T : TT) : Nat → Prop := fun a => ∃ r, r < 12 ∧ (a = T 4 r ∨ a = T 5 r)
section SQS
variable {h h' : Hp} {T : TT} {S : SS} {W : Nat → Prop}
theorem SN.o {i : Nat} (hi : i ≤ 5) : SN T S (T 0 i) := Or.inl ⟨i, hi, rfl⟩
theorem SN.s {r : Nat} (hr : r < 12) : SN T S (T 1 r) := Or.inr (Or.inl ⟨r, hr, rfl⟩)
theorem SN.b {b : Nat} (hb : b < S.nb) : SN T S (T 2 b) := Or.inr (Or.inr ⟨b, hb, rfl⟩)
theorem SQ.kn (hq : SQ h T S) {a : Nat} (ha : SN T S a) : kd h a ≠ 0 := by
  obtain ⟨⟨k0, -⟩, ⟨m1, m2, m3, m4, m5⟩, -⟩ := hq
  rcases ha with ⟨i, hi, rfl⟩ | ⟨r, hr, rfl⟩ | ⟨b, hb, rfl⟩
  · rcases (show i = 0 ∨ i = 1 ∨ i = 2 ∨ i = 3 ∨ i = 4 ∨ i = 5 by omega) with rfl | rfl | rfl | rfl | rfl | rfl
    · omega
    · rw [m1.1]; omega
    · rw [m2.1]; omega
    · rw [m3.1]; omega
    · rw [m4.1]; omega
    · rw [m5.1]; omega
  · rw [(m1.2.2 r hr).2.1]; omega
  · rw [(m2.2.2 b hb).2.1]; omega
theorem SQ.fr (hq : SQ h T S) (f : Fr h h' W) (hw : ∀ a, SN T S a → ¬ W a) : SQ h' T S := by
  have hk := fun a (ha : SN T S a) => f a (hq.kn ha)
  obtain ⟨⟨k0, r2, r3, r4, r7, r8⟩, ⟨m1, m2, m3, m4, m5⟩, v1, v2, n1, n2⟩ := hq
  have h0 := hk _ (SN.o (T := T) (S := S) (i := 0) (by omega))
  have g0 := (h0.2 (hw _ (SN.o (by omega)))).2.1
  refine ⟨⟨h0.1.1.trans k0, (g0 _ _).trans r2, (g0 _ _).trans r3, (g0 _ _).trans r4, (g0 _ _).trans r7, (g0 _ _).trans r8⟩, ⟨m1.fr f (hw _ (SN.o (by omega))), m2.fr f (hw _ (SN.o (by omega))), m3.fr f (hw _ (SN.o (by omega))), m4.fr f (hw _ (SN.o (by omega))), m5.fr f (hw _ (SN.o (by omega)))⟩, fun r hr => ?_, fun b hb => ?_, n1, n2⟩
  · have g := ((hk _ (SN.s hr)).2 (hw _ (SN.s hr))).2.2.1
    rw [g, g, g]
    exact v1 r hr
  · have g := ((hk _ (SN.b hb)).2 (hw _ (SN.b hb))).2.2.1
    rw [g, g, g, g, g, g]
    exact v2 b hb
theorem SQ.ny (hq : SQ h T S) {a : Nat} (ha : SN T S a) : ¬ YR T a := by
  obtain ⟨⟨k0, -⟩, ⟨m1, m2, m3, m4, m5⟩, -, -, n1, n2⟩ := hq
  rintro ⟨r, hr, e⟩
  have k4 := (m4.2.2 r hr).2.1
  have k5 := (m5.2.2 r hr).2.1
  have k21 : kd h a = 21 := by rcases e with e | e <;> rw [e] <;> assumption
  rcases ha with ⟨i, hi, rfl⟩ | ⟨q, hq', rfl⟩ | ⟨b, hb, rfl⟩
  · rcases (show i = 0 ∨ i = 1 ∨ i = 2 ∨ i = 3 ∨ i = 4 ∨ i = 5 by omega) with rfl | rfl | rfl | rfl | rfl | rfl
    · omega
    · rw [m1.1] at k21; omega
    · rw [m2.1] at k21; omega
    · rw [m3.1] at k21; omega
    · rw [m4.1] at k21; omega
    · rw [m5.1] at k21; omega
  · have := n1 q r hq' hr; rcases e with e | e
    · exact this.1 e
    · exact this.2 e
  · have := n2.1 b r hb hr; rcases e with e | e
    · exact this.1 e
    · exact this.2 e
theorem SQ.yr (hq : SQ h T S) (f : Fr h h' (YR T)) : SQ h' T S := hq.fr f (fun _ ha => hq.ny ha)
end SQS
