/-! ===== the class: needIndex and such ===== -/
def IOB : String := "java/lang/IndexOutOfBoundsException"
def IAE : String := "java/lang/IllegalArgumentException"
def ISE : String := "java/lang/IllegalStateException"
def ct_X4_needIndex : Ct := fun As h Q _ => sI As fun i r => sI r fun n r => s0 r ((0 ≤ i.toInt ∧ i.toInt < n.toInt) ∧ Q none h)
def ce_X4_needIndex : CE := (1, yX4_needIndex, MX4_needIndex, 2, 7, 0, 0, ct_X4_needIndex)
set_option maxRecDepth 100000 in
set_option maxHeartbeats 4000000 in
theorem ok_X4_needIndex (G : GT) : OKm G yX4_needIndex MX4_needIndex 7 0 0 ct_X4_needIndex := by
  refine mkOK (ini := false) (by decide) rfl (by first | exact fun _ => rfl | (intro hh; cases hh)) (fun As h Q QX hc => ?_)
  replace hc := sI_e hc; obtain ⟨i, r, rfl, hc⟩ := hc
  replace hc := sI_e hc; obtain ⟨n, r, rfl, hc⟩ := hc
  replace hc := s0_e hc; obtain ⟨rfl, hc⟩ := hc
  obtain ⟨iV, hiV, rfl⟩ := i32_all i
  obtain ⟨nV, hnV, rfl⟩ := i32_all n
  rw [i32_toInt hiV, i32_toInt hnV] at hc
  obtain ⟨h1, hq⟩ := hc
  refine ⟨Nat.le_of_ble_eq_true rfl, ?_⟩
  simp only [ent, entL, catN, List.length_cons, List.length_nil, List.replicate, List.cons_append, List.nil_append, reduceIte, Nat.reduceEqDiff,  Nat.reduceAdd, Nat.reduceSub, mnl_X4_needIndex]
  refine wpW (cs := []) (stop := [9, 20]) (n := 200) (env_nil0 (env_hh rfl)) ?_
  simp only [↓wpN_S, ↓step_u, ↓stC_s, stC_s, ↓stF_u, stF_u, ↓stepI, lenI, ↓kN_u, isS, ↓gI_0, ↓gI_S, ↓gL_0, ↓gL_S, ↓gD_0, ↓gD_S, ↓gR_0, ↓gR_S, ↓sI_c, ↓sL_c, ↓sD_c, ↓sR_c, ↓s1_r, ↓s1_i, ↓vR_r, ↓vR_n, ↓s0_n, s0_n, ↓oR_u, ↓sP_u, ↓sPa_0, ↓sPa_S, ↓lkC_c, ↓callK_u, ↓cQ_s, ↓cQ_n, putL, putW, clr, kil, catS, catN, refF, booF, finF, nF, nmOf_0, nmOf_1, nmOf_2, nmOf_3, nmOf_4, nmOf_5, nmOf_6, nmOf_50, nmOf_51, nmOf_52, ↓reduceIte, reduceIte, Bool.false_eq_true, eq_self, true_or, or_true, true_and, and_true, false_or, or_false, Nat.reduceAdd, Nat.reduceSub, Nat.reduceEqDiff, Nat.reduceLT, Nat.reduceLeDiff, reduceCtorEq, true_implies, List.length_cons, List.length_nil, List.replicate, List.cons_append, List.nil_append, mrt_X4_needIndex, mhh_X4_needIndex, mow_X4_needIndex, mnl_X4_needIndex, DX4_needIndex_0, DX4_needIndex_1, DX4_needIndex_4, DX4_needIndex_5, DX4_needIndex_6, DX4_needIndex_9, DX4_needIndex_12, DX4_needIndex_13, DX4_needIndex_16, DX4_needIndex_19, DX4_needIndex_20]
  simp (disch := omega) only [i32_lit, i32_neg, i32_add, i32_mul, i32_sub, i32_nI, i32_lt, i32_le, i32_eq, inR_i, i32_clamp, i32_div, i32_max, i32_min, ite_max, ite_min, b2i_0, b2i_1, b2i_01, i32_toInt, tn_i, Int.toNat_natCast, em_t, true_and, and_true, Int.reduceToNat, Int.reduceLE, Int.reduceLT, Int.reduceAdd, Int.reduceMul, Int.reduceSub, Int.reduceNeg, Int.reduceEq, true_implies, not_true_eq_false, false_implies, not_false_eq_true]
  trace_state
  sorry
def ct_X4_needIndex_t : Ct := fun As h Q QX => sI As fun i r => sI r fun n r => s0 r ((0 ≤ i.toInt ∧ i.toInt < n.toInt → Q none h) ∧ (¬ (0 ≤ i.toInt ∧ i.toInt < n.toInt) → QX IOB h))
def ce_X4_needIndex_t : CE := (1, yX4_needIndex, MX4_needIndex, 2, 7, 1, 6, ct_X4_needIndex_t)
set_option maxRecDepth 100000 in
set_option maxHeartbeats 4000000 in
theorem ok_X4_needIndex_t (G : GT) : OKm G yX4_needIndex MX4_needIndex 7 1 6 ct_X4_needIndex_t := by
  refine mkOK (ini := false) (by decide) rfl (by first | exact fun _ => rfl | (intro hh; cases hh)) (fun As h Q QX hc => ?_)
  replace hc := sI_e hc; obtain ⟨i, r, rfl, hc⟩ := hc
  replace hc := sI_e hc; obtain ⟨n, r, rfl, hc⟩ := hc
  replace hc := s0_e hc; obtain ⟨rfl, hc⟩ := hc
  obtain ⟨iV, hiV, rfl⟩ := i32_all i
  obtain ⟨nV, hnV, rfl⟩ := i32_all n
  rw [i32_toInt hiV, i32_toInt hnV] at hc
  obtain ⟨h1, h2⟩ := hc
  have hE : h2 = h2 := rfl
  refine ⟨Nat.le_of_ble_eq_true rfl, ?_⟩
  simp only [ent, entL, catN, List.length_cons, List.length_nil, List.replicate, List.cons_append, List.nil_append, reduceIte, Nat.reduceEqDiff,  Nat.reduceAdd, Nat.reduceSub, mnl_X4_needIndex]
  refine wpW (cs := []) (stop := []) (n := 200) (env_nil0 (env_hh rfl)) ?_
  simp only [↓wpN_S, ↓step_u, ↓stC_s, stC_s, ↓stF_u, stF_u, ↓stepI, lenI, ↓kN_u, isS, ↓gI_0, ↓gI_S, ↓gL_0, ↓gL_S, ↓gD_0, ↓gD_S, ↓gR_0, ↓gR_S, ↓sI_c, ↓sL_c, ↓sD_c, ↓sR_c, ↓s1_r, ↓s1_i, ↓vR_r, ↓vR_n, ↓s0_n, s0_n, ↓oR_u, ↓sP_u, ↓sPa_0, ↓sPa_S, ↓lkC_c, ↓callK_u, ↓cQ_s, ↓cQ_n, putL, putW, clr, kil, catS, catN, refF, booF, finF, nF, nmOf_0, nmOf_1, nmOf_2, nmOf_3, nmOf_4, nmOf_5, nmOf_6, nmOf_50, nmOf_51, nmOf_52, ↓reduceIte, reduceIte, Bool.false_eq_true, eq_self, true_or, or_true, true_and, and_true, false_or, or_false, Nat.reduceAdd, Nat.reduceSub, Nat.reduceEqDiff, Nat.reduceLT, Nat.reduceLeDiff, reduceCtorEq, true_implies, List.length_cons, List.length_nil, List.replicate, List.cons_append, List.nil_append, mrt_X4_needIndex, mhh_X4_needIndex, mow_X4_needIndex, mnl_X4_needIndex, DX4_needIndex_0, DX4_needIndex_1, DX4_needIndex_4, DX4_needIndex_5, DX4_needIndex_6, DX4_needIndex_9, DX4_needIndex_12, DX4_needIndex_13, DX4_needIndex_16, DX4_needIndex_19, DX4_needIndex_20]
  simp (disch := omega) only [i32_lit, i32_neg, i32_add, i32_mul, i32_sub, i32_nI, i32_lt, i32_le, i32_eq, inR_i, i32_clamp, i32_div, i32_max, i32_min, ite_max, ite_min, b2i_0, b2i_1, b2i_01, i32_toInt, tn_i, Int.toNat_natCast, em_t, true_and, and_true, Int.reduceToNat, Int.reduceLE, Int.reduceLT, Int.reduceAdd, Int.reduceMul, Int.reduceSub, Int.reduceNeg, Int.reduceEq, true_implies, not_true_eq_false, false_implies, not_false_eq_true]
  trace_state
  done
