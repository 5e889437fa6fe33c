/-! ===== the class: needIndex and such ===== -/
def IOB : String := "java/lang/IndexOutOfBoundsException"
def IAE : String := "java/lang/IllegalArgumentException"
def ISE : String := "java/lang/IllegalStateException"
def ct_X4_needIndex : Ct := fun As h Q _ => sI As fun i r => sI r fun n r => s0 r ((0 ≤ i.toInt ∧ i.toInt < n.toInt) ∧ Q none h)
def ce_X4_needIndex : CE := (1, yX4_needIndex, MX4_needIndex, 2, 7, 0, 0, ct_X4_needIndex)
set_option maxRecDepth 100000 in
set_option maxHeartbeats 4000000 in
theorem ok_X4_needIndex (G : GT) : OKm G yX4_needIndex MX4_needIndex 7 0 0 ct_X4_needIndex := by
  refine mkOK (ini := false) (by decide) rfl (by first | exact fun _ => rfl | (intro hh; cases hh)) (fun As h Q QX hc => ?_)
  replace hc := sI_e hc; obtain ⟨i, r, rfl, hc⟩ := hc
  replace hc := sI_e hc; obtain ⟨n, r, rfl, hc⟩ := hc
  replace hc := s0_e hc; obtain ⟨rfl, hc⟩ := hc
  obtain ⟨iV, hiV, rfl⟩ := i32_all i
  obtain ⟨nV, hnV, rfl⟩ := i32_all n
  rw [i32_toInt hiV, i32_toInt hnV] at hc
  obtain ⟨h1, hq⟩ := hc
  refine ⟨Nat.le_of_ble_eq_true rfl, ?_⟩
  simp only [ent, entL, catN, List.length_cons, List.length_nil, List.replicate, List.cons_append, List.nil_append, reduceIte, Nat.reduceEqDiff,  Nat.reduceAdd, Nat.reduceSub, mnl_X4_needIndex]
  refine wpW (cs := []) (stop := [9]) (n := 200) (env_nil0 (env_hh rfl)) ?_
  simp only [↓wpN_S, ↓step_u, ↓stC_s, stC_s, ↓stF_u, stF_u, ↓stepI, lenI, ↓kN_u, isS, ↓gI_0, ↓gI_S, ↓gL_0, ↓gL_S, ↓gD_0, ↓gD_S, ↓gR_0, ↓gR_S, ↓sI_c, ↓sL_c, ↓sD_c, ↓sR_c, ↓s1_r, ↓s1_i, ↓vR_r, ↓vR_n, ↓s0_n, s0_n, ↓oR_u, ↓sP_u, ↓sPa_0, ↓sPa_S, ↓lkC_c, ↓callK_u, ↓cQ_s, ↓cQ_n, putL, putW, clr, kil, catS, catN, refF, booF, finF, nF, nmOf_0, nmOf_1, nmOf_2, nmOf_3, nmOf_4, nmOf_5, nmOf_6, nmOf_50, nmOf_51, nmOf_52, ↓reduceIte, reduceIte, Bool.false_eq_true, eq_self, true_or, or_true, true_and, and_true, false_or, or_false, Nat.reduceAdd, Nat.reduceSub, Nat.reduceEqDiff, Nat.reduceLT, Nat.reduceLeDiff, reduceCtorEq, true_implies, List.length_cons, List.length_nil, List.replicate, List.cons_append, List.nil_append, mrt_X4_needIndex, mhh_X4_needIndex, mow_X4_needIndex, mnl_X4_needIndex, DX4_needIndex_0, DX4_needIndex_1, DX4_needIndex_4, DX4_needIndex_5, DX4_needIndex_6, DX4_needIndex_9, DX4_needIndex_12, DX4_needIndex_13, DX4_needIndex_16, DX4_needIndex_19, DX4_needIndex_20]
  simp (disch := omega) only [i32_lit, i32_neg, i32_add, i32_mul, i32_sub, i32_nI, i32_lt, i32_le, i32_eq, inR_i, i32_clamp, i32_div, i32_max, i32_min, ite_max, ite_min, b2i_0, b2i_1, b2i_01, i32_toInt, tn_i, Int.toNat_natCast, em_t, true_and, and_true, Int.reduceToNat, Int.reduceLE, Int.reduceLT, Int.reduceAdd, Int.reduceMul, Int.reduceSub, Int.reduceNeg, Int.reduceEq, true_implies, not_true_eq_false, false_implies, not_false_eq_true]
  exact ⟨fun z => by omega, fun _ => ⟨fun _ => hq, fun z => by omega⟩⟩
def ct_X4_needIndex_t : Ct := fun As h Q QX => sI As fun i r => sI r fun n r => s0 r ((0 ≤ i.toInt ∧ i.toInt < n.toInt → Q none h) ∧ (¬ (0 ≤ i.toInt ∧ i.toInt < n.toInt) → QX IOB h))
def ce_X4_needIndex_t : CE := (1, yX4_needIndex, MX4_needIndex, 2, 7, 1, 6, ct_X4_needIndex_t)
theorem thr_X4_needIndex : thrOK MX4_needIndex 9 52 := by
  refine ⟨by decide +kernel, by decide +kernel, ?_, by decide +kernel⟩
  first | exact Or.inl ⟨by decide +kernel, by decide +kernel, by decide +kernel⟩ | exact Or.inr ⟨by decide +kernel, by decide +kernel, by decide +kernel⟩
theorem thr_X4_needArgument : thrOK MX4_needArgument 10 51 := by
  refine ⟨by decide +kernel, by decide +kernel, ?_, by decide +kernel⟩
  first | exact Or.inl ⟨by decide +kernel, by decide +kernel, by decide +kernel⟩ | exact Or.inr ⟨by decide +kernel, by decide +kernel, by decide +kernel⟩
theorem thr_X4_standingBuilding : thrOK MX4_standingBuilding 13 52 := by
  refine ⟨by decide +kernel, by decide +kernel, ?_, by decide +kernel⟩
  first | exact Or.inl ⟨by decide +kernel, by decide +kernel, by decide +kernel⟩ | exact Or.inr ⟨by decide +kernel, by decide +kernel, by decide +kernel⟩
theorem thr_X4_build : thrOK MX4_build 101 50 := by
  refine ⟨by decide +kernel, by decide +kernel, ?_, by decide +kernel⟩
  first | exact Or.inl ⟨by decide +kernel, by decide +kernel, by decide +kernel⟩ | exact Or.inr ⟨by decide +kernel, by decide +kernel, by decide +kernel⟩
theorem thr_X4_setSun : thrOK MX4_setSun 35 51 := by
  refine ⟨by decide +kernel, by decide +kernel, ?_, by decide +kernel⟩
  first | exact Or.inl ⟨by decide +kernel, by decide +kernel, by decide +kernel⟩ | exact Or.inr ⟨by decide +kernel, by decide +kernel, by decide +kernel⟩
theorem thr_X4_let : thrOK MX4_let 60 50 := by
  refine ⟨by decide +kernel, by decide +kernel, ?_, by decide +kernel⟩
  first | exact Or.inl ⟨by decide +kernel, by decide +kernel, by decide +kernel⟩ | exact Or.inr ⟨by decide +kernel, by decide +kernel, by decide +kernel⟩
theorem thr_X4_pass : thrOK MX4_pass 19 50 := by
  refine ⟨by decide +kernel, by decide +kernel, ?_, by decide +kernel⟩
  first | exact Or.inl ⟨by decide +kernel, by decide +kernel, by decide +kernel⟩ | exact Or.inr ⟨by decide +kernel, by decide +kernel, by decide +kernel⟩
set_option maxRecDepth 100000 in
set_option maxHeartbeats 4000000 in
theorem ok_X4_needIndex_t (G : GT) : OKm G yX4_needIndex MX4_needIndex 7 1 6 ct_X4_needIndex_t := by
  refine mkOK (ini := false) (by decide) rfl (by first | exact fun _ => rfl | (intro hh; cases hh)) (fun As h Q QX hc => ?_)
  replace hc := sI_e hc; obtain ⟨i, r, rfl, hc⟩ := hc
  replace hc := sI_e hc; obtain ⟨n, r, rfl, hc⟩ := hc
  replace hc := s0_e hc; obtain ⟨rfl, hc⟩ := hc
  obtain ⟨iV, hiV, rfl⟩ := i32_all i
  obtain ⟨nV, hnV, rfl⟩ := i32_all n
  rw [i32_toInt hiV, i32_toInt hnV] at hc
  obtain ⟨h1, h2⟩ := hc
  refine ⟨Nat.le_of_ble_eq_true rfl, ?_⟩
  simp only [ent, entL, catN, List.length_cons, List.length_nil, List.replicate, List.cons_append, List.nil_append, reduceIte, Nat.reduceEqDiff,  Nat.reduceAdd, Nat.reduceSub, mnl_X4_needIndex]
  refine wpW (cs := []) (stop := []) (n := 200) (env_nil0 (env_hh rfl)) ?_
  simp only [↓wpN_S, ↓step_u, ↓stC_s, stC_s, ↓stF_u, stF_u, ↓stepI, lenI, ↓kN_u, isS, ↓gI_0, ↓gI_S, ↓gL_0, ↓gL_S, ↓gD_0, ↓gD_S, ↓gR_0, ↓gR_S, ↓sI_c, ↓sL_c, ↓sD_c, ↓sR_c, ↓s1_r, ↓s1_i, ↓vR_r, ↓vR_n, ↓s0_n, s0_n, ↓oR_u, ↓sP_u, ↓sPa_0, ↓sPa_S, ↓lkC_c, ↓callK_u, ↓cQ_s, ↓cQ_n, putL, putW, clr, kil, catS, catN, refF, booF, finF, nF, nmOf_0, nmOf_1, nmOf_2, nmOf_3, nmOf_4, nmOf_5, nmOf_6, nmOf_50, nmOf_51, nmOf_52, ↓reduceIte, reduceIte, Bool.false_eq_true, eq_self, true_or, or_true, true_and, and_true, false_or, or_false, Nat.reduceAdd, Nat.reduceSub, Nat.reduceEqDiff, Nat.reduceLT, Nat.reduceLeDiff, reduceCtorEq, true_implies, List.length_cons, List.length_nil, List.replicate, List.cons_append, List.nil_append, mrt_X4_needIndex, mhh_X4_needIndex, mow_X4_needIndex, mnl_X4_needIndex, DX4_needIndex_0, DX4_needIndex_1, DX4_needIndex_4, DX4_needIndex_5, DX4_needIndex_6, DX4_needIndex_9, DX4_needIndex_12, DX4_needIndex_13, DX4_needIndex_16, DX4_needIndex_19, DX4_needIndex_20]
  simp (disch := omega) only [i32_lit, i32_neg, i32_add, i32_mul, i32_sub, i32_nI, i32_lt, i32_le, i32_eq, inR_i, i32_clamp, i32_div, i32_max, i32_min, ite_max, ite_min, b2i_0, b2i_1, b2i_01, i32_toInt, tn_i, Int.toNat_natCast, em_t, true_and, and_true, Int.reduceToNat, Int.reduceLE, Int.reduceLT, Int.reduceAdd, Int.reduceMul, Int.reduceSub, Int.reduceNeg, Int.reduceEq, true_implies, not_true_eq_false, false_implies, not_false_eq_true]
  exact ⟨fun z => ⟨thr_X4_needIndex, h2 (by omega)⟩, fun z => ⟨fun z2 => h1 (by omega), fun z2 => ⟨thr_X4_needIndex, h2 (by omega)⟩⟩⟩
def ct_X4_needArgument_t : Ct := fun As h Q QX => sI As fun i r => sI r fun a r => sI r fun b r => s0 r ((a.toInt ≤ i.toInt ∧ i.toInt ≤ b.toInt → Q none h) ∧ (¬ (a.toInt ≤ i.toInt ∧ i.toInt ≤ b.toInt) → QX IAE h))
def ce_X4_needArgument_t : CE := (1, yX4_needArgument, MX4_needArgument, 3, 7, 1, 6, ct_X4_needArgument_t)
set_option maxRecDepth 100000 in
set_option maxHeartbeats 4000000 in
theorem ok_X4_needArgument_t (G : GT) : OKm G yX4_needArgument MX4_needArgument 7 1 6 ct_X4_needArgument_t := by
  refine mkOK (ini := false) (by decide) rfl (by first | exact fun _ => rfl | (intro hh; cases hh)) (fun As h Q QX hc => ?_)
  replace hc := sI_e hc; obtain ⟨i, r, rfl, hc⟩ := hc
  replace hc := sI_e hc; obtain ⟨a, r, rfl, hc⟩ := hc
  replace hc := sI_e hc; obtain ⟨b, r, rfl, hc⟩ := hc
  replace hc := s0_e hc; obtain ⟨rfl, hc⟩ := hc
  obtain ⟨iV, hiV, rfl⟩ := i32_all i
  obtain ⟨aV, haV, rfl⟩ := i32_all a
  obtain ⟨bV, hbV, rfl⟩ := i32_all b
  rw [i32_toInt hiV, i32_toInt haV, i32_toInt hbV] at hc
  obtain ⟨h1, h2⟩ := hc
  refine ⟨Nat.le_of_ble_eq_true rfl, ?_⟩
  simp only [ent, entL, catN, List.length_cons, List.length_nil, List.replicate, List.cons_append, List.nil_append, reduceIte, Nat.reduceEqDiff,  Nat.reduceAdd, Nat.reduceSub, mnl_X4_needArgument]
  refine wpW (cs := []) (stop := []) (n := 200) (env_nil0 (env_hh rfl)) ?_
  simp only [↓wpN_S, ↓step_u, ↓stC_s, stC_s, ↓stF_u, stF_u, ↓stepI, lenI, ↓kN_u, isS, ↓gI_0, ↓gI_S, ↓gL_0, ↓gL_S, ↓gD_0, ↓gD_S, ↓gR_0, ↓gR_S, ↓sI_c, ↓sL_c, ↓sD_c, ↓sR_c, ↓s1_r, ↓s1_i, ↓vR_r, ↓vR_n, ↓s0_n, s0_n, ↓oR_u, ↓sP_u, ↓sPa_0, ↓sPa_S, ↓lkC_c, ↓callK_u, ↓cQ_s, ↓cQ_n, putL, putW, clr, kil, catS, catN, refF, booF, finF, nF, nmOf_0, nmOf_1, nmOf_2, nmOf_3, nmOf_4, nmOf_5, nmOf_6, nmOf_50, nmOf_51, nmOf_52, ↓reduceIte, reduceIte, Bool.false_eq_true, eq_self, true_or, or_true, true_and, and_true, false_or, or_false, Nat.reduceAdd, Nat.reduceSub, Nat.reduceEqDiff, Nat.reduceLT, Nat.reduceLeDiff, reduceCtorEq, true_implies, List.length_cons, List.length_nil, List.replicate, List.cons_append, List.nil_append, mrt_X4_needArgument, mhh_X4_needArgument, mow_X4_needArgument, mnl_X4_needArgument, DX4_needArgument_0, DX4_needArgument_1, DX4_needArgument_2, DX4_needArgument_5, DX4_needArgument_6, DX4_needArgument_7, DX4_needArgument_10, DX4_needArgument_13, DX4_needArgument_14, DX4_needArgument_17, DX4_needArgument_20, DX4_needArgument_21]
  simp (disch := omega) only [i32_lit, i32_neg, i32_add, i32_mul, i32_sub, i32_nI, i32_lt, i32_le, i32_eq, inR_i, i32_clamp, i32_div, i32_max, i32_min, ite_max, ite_min, b2i_0, b2i_1, b2i_01, i32_toInt, tn_i, Int.toNat_natCast, em_t, true_and, and_true, Int.reduceToNat, Int.reduceLE, Int.reduceLT, Int.reduceAdd, Int.reduceMul, Int.reduceSub, Int.reduceNeg, Int.reduceEq, true_implies, not_true_eq_false, false_implies, not_false_eq_true]
  exact ⟨fun z => ⟨thr_X4_needArgument, h2 (by omega)⟩, fun z => ⟨fun z2 => h1 (by omega), fun z2 => ⟨thr_X4_needArgument, h2 (by omega)⟩⟩⟩
theorem CI.cd {G : GT} {h : Hp} {D : WD} {S : SS} (f : CI G h D S) : CD G h D S := ⟨f.1, f.2.1⟩
def ct_X4_buildingAt (G : GT) (D : WD) (S : SS) : Ct := fun As h Q _ => sR As fun c r => sI r fun i r => s0 r (CD G h D S ∧ c = D 0 0 ∧ (0 ≤ i.toInt ∧ i.toInt < S.nb) ∧ Q (some (.ref (D 1 (tn i)))) h)
def ce_X4_buildingAt (G : GT) (D : WD) (S : SS) : CE := (0, yX4_buildingAt, MX4_buildingAt, 1, 8, 0, 0, ct_X4_buildingAt G D S)
set_option maxRecDepth 100000 in
set_option maxHeartbeats 4000000 in
theorem ok_X4_buildingAt (G : GT) (G : GT) (D : WD) (S : SS) (hW : WF S) : OKm G yX4_buildingAt MX4_buildingAt 8 0 0 (ct_X4_buildingAt G D S) := by
  refine mkOK (ini := false) (by decide) rfl (by first | exact fun _ => rfl | (intro hh; cases hh)) (fun As h Q QX hc => ?_)
  replace hc := sR_e hc; obtain ⟨c, r, rfl, hc⟩ := hc
  replace hc := sI_e hc; obtain ⟨i, r, rfl, hc⟩ := hc
  replace hc := s0_e hc; obtain ⟨rfl, hc⟩ := hc
  obtain ⟨hD, rfl, hi, hq⟩ := hc
  obtain ⟨iV, hiV, rfl⟩ := i32_all i
  rw [i32_toInt hiV] at hi
  rw [tn_i hiV] at hq
  obtain ⟨b, rfl⟩ := Int.eq_ofNat_of_zero_le hi.1
  rw [Int.toNat_natCast] at hq
  have hA0 := hD.1
  have hB0 := hD.2
  obtain ⟨⟨kC, rC0, rC1, rC2, rC3, rC4⟩, ⟨kQ, rQ0, rQ1⟩, ⟨kV, lV⟩, ⟨kG, lG⟩, ⟨kP, lP⟩, ⟨kT, lT⟩, ⟨⟨LB1, LB2, LB3, LB4, LB5, LB6, LB7⟩, ⟨LH1, LH2, LH3, LH4, LH5, LH6, LH7⟩, ⟨LL1, LL2, LL3, LL4, LL5, LL6, LL7⟩⟩, hKB, hHA, hKL, hCJ⟩ := hA0
  obtain ⟨dDy, dEv, dG, dP, dV, dB, dL, dH⟩ := hB0
  have hnb := hW.1
  have hnl := hW.2.1
  have kB := hKB b (by omega)
  obtain ⟨eB0, eB1, eB2, eB3, eB4, eB5, eB6, eB7⟩ := dB b (by omega)
  have qB := LB7 b (by omega)
  obtain ⟨kqB, lqB⟩ := LB6 (by omega)
  obtain ⟨vB0, vB2, vB2', vB02, vB1, vB3, vB3', vB13, vB4, vB4', vB5, vB5', vB6⟩ := hW.2.2.1 b (by omega)
  refine ⟨Nat.le_of_ble_eq_true rfl, ?_⟩
  simp only [ent, entL, catN, List.length_cons, List.length_nil, List.replicate, List.cons_append, List.nil_append, reduceIte, Nat.reduceEqDiff,  Nat.reduceAdd, Nat.reduceSub, mnl_X4_buildingAt]
  refine wpW (cs := [(49, ce_Jx4a65c_size_8abf5), (130, ce_X4_needIndex), (84, ce_Jx4a65c_get_915e3)]) (stop := []) (n := 200) (env_cons (ceV (by decide +kernel) ⟨by decide, by decide, by decide +kernel⟩ (by decide) rfl (ok_Jx4a65c_size_8abf5 G)) (env_cons (ceS (by decide +kernel) ⟨by decide, by decide, by decide +kernel⟩ (by decide) (ok_X4_needIndex G)) (env_cons (ceV (by decide +kernel) ⟨by decide, by decide, by decide +kernel⟩ (by decide) rfl (ok_Jx4a65c_get_915e3 G)) (env_nil0 (env_hh rfl))))) ?_
  simp only [↓wpN_S, ↓step_u, ↓stC_s, stC_s, ↓stF_u, stF_u, ↓stepI, lenI, ↓kN_u, isS, ↓gI_0, ↓gI_S, ↓gL_0, ↓gL_S, ↓gD_0, ↓gD_S, ↓gR_0, ↓gR_S, ↓sI_c, ↓sL_c, ↓sD_c, ↓sR_c, ↓s1_r, ↓s1_i, ↓vR_r, ↓vR_n, ↓s0_n, s0_n, ↓oR_u, ↓sP_u, ↓sPa_0, ↓sPa_S, ↓lkC_c, ↓callK_u, ↓cQ_s, ↓cQ_n, putL, putW, clr, kil, catS, catN, refF, booF, finF, nF, nmOf_0, nmOf_1, nmOf_2, nmOf_3, nmOf_4, nmOf_5, nmOf_6, nmOf_50, nmOf_51, nmOf_52, ↓reduceIte, reduceIte, Bool.false_eq_true, eq_self, true_or, or_true, true_and, and_true, false_or, or_false, Nat.reduceAdd, Nat.reduceSub, Nat.reduceEqDiff, Nat.reduceLT, Nat.reduceLeDiff, reduceCtorEq, true_implies, List.length_cons, List.length_nil, List.replicate, List.cons_append, List.nil_append, mrt_X4_buildingAt, mhh_X4_buildingAt, mow_X4_buildingAt, mnl_X4_buildingAt, DX4_buildingAt_0, DX4_buildingAt_1, DX4_buildingAt_2, DX4_buildingAt_5, DX4_buildingAt_8, DX4_buildingAt_11, DX4_buildingAt_14, DX4_buildingAt_15, DX4_buildingAt_18, DX4_buildingAt_21, DX4_buildingAt_22, DX4_buildingAt_25, DX4_buildingAt_28, ce_Jx4a65c_size_8abf5, ↓ct_Jx4a65c_size_8abf5, ycl_Jx4a65c_size_8abf5, ce_X4_needIndex, ↓ct_X4_needIndex, ycl_X4_needIndex, ce_Jx4a65c_get_915e3, ↓ct_Jx4a65c_get_915e3, ycl_Jx4a65c_get_915e3, cX_nil mhh_X4_buildingAt]
  simp (disch := omega) only [i32_lit, i32_neg, i32_add, i32_mul, i32_sub, i32_nI, i32_lt, i32_le, i32_eq, inR_i, i32_clamp, i32_div, i32_max, i32_min, ite_max, ite_min, b2i_0, b2i_1, b2i_01, i32_toInt, tn_i, Int.toNat_natCast, em_t, true_and, and_true, Int.reduceToNat, Int.reduceLE, Int.reduceLT, Int.reduceAdd, Int.reduceMul, Int.reduceSub, Int.reduceNeg, Int.reduceEq, true_implies, not_true_eq_false, false_implies, not_false_eq_true, kC, rC0, rC1, rC2, rC3, rC4, kQ, rQ0, rQ1, kV, lV, kG, lG, kP, lP, kT, lT, LB1, LB2, LB3, LH1, LH2, LH3, LL1, LL2, LL3, dDy, dEv, true_and, and_true, Option.some.injEq, exists_eq_left', nmOf_0, nmOf_1, nmOf_2, nmOf_3, nmOf_4, nmOf_5, nmOf_6, Nat.add_sub_cancel, Nat.reduceSub, Nat.reduceLT, Nat.reduceEqDiff, ne_eq, not_false_eq_true, kB, eB0, eB1, eB2, eB3, eB4, eB5, eB6, eB7, qB, kqB, lqB]
  exact ⟨by omega, by omega, by omega, by omega, hq⟩
def ct_X4_buildingAt_t (G : GT) (D : WD) (S : SS) : Ct := fun As h Q QX => sR As fun c r => sI r fun i r => s0 r (CD G h D S ∧ c = D 0 0 ∧ (0 ≤ i.toInt ∧ i.toInt < S.nb → Q (some (.ref (D 1 (tn i)))) h) ∧ (¬ (0 ≤ i.toInt ∧ i.toInt < S.nb) → QX IOB h))
def ce_X4_buildingAt_t (G : GT) (D : WD) (S : SS) : CE := (0, yX4_buildingAt, MX4_buildingAt, 1, 8, 1, 6, ct_X4_buildingAt_t G D S)
set_option maxRecDepth 100000 in
set_option maxHeartbeats 4000000 in
theorem ok_X4_buildingAt_t (G : GT) (G : GT) (D : WD) (S : SS) (hW : WF S) : OKm G yX4_buildingAt MX4_buildingAt 8 1 6 (ct_X4_buildingAt_t G D S) := by
  refine mkOK (ini := false) (by decide) rfl (by first | exact fun _ => rfl | (intro hh; cases hh)) (fun As h Q QX hc => ?_)
  replace hc := sR_e hc; obtain ⟨c, r, rfl, hc⟩ := hc
  replace hc := sI_e hc; obtain ⟨i, r, rfl, hc⟩ := hc
  replace hc := s0_e hc; obtain ⟨rfl, hc⟩ := hc
  obtain ⟨hD, rfl, hq, hx⟩ := hc
  obtain ⟨iV, hiV, rfl⟩ := i32_all i
  rw [i32_toInt hiV] at hq hx
  rw [tn_i hiV] at hq
  have hA0 := hD.1
  have hB0 := hD.2
  obtain ⟨⟨kC, rC0, rC1, rC2, rC3, rC4⟩, ⟨kQ, rQ0, rQ1⟩, ⟨kV, lV⟩, ⟨kG, lG⟩, ⟨kP, lP⟩, ⟨kT, lT⟩, ⟨⟨LB1, LB2, LB3, LB4, LB5, LB6, LB7⟩, ⟨LH1, LH2, LH3, LH4, LH5, LH6, LH7⟩, ⟨LL1, LL2, LL3, LL4, LL5, LL6, LL7⟩⟩, hKB, hHA, hKL, hCJ⟩ := hA0
  obtain ⟨dDy, dEv, dG, dP, dV, dB, dL, dH⟩ := hB0
  have hnb := hW.1
  have hnl := hW.2.1
  refine ⟨Nat.le_of_ble_eq_true rfl, ?_⟩
  simp only [ent, entL, catN, List.length_cons, List.length_nil, List.replicate, List.cons_append, List.nil_append, reduceIte, Nat.reduceEqDiff,  Nat.reduceAdd, Nat.reduceSub, mnl_X4_buildingAt]
  refine wpW (cs := [(49, ce_Jx4a65c_size_8abf5), (130, ce_X4_needIndex_t), (84, ce_Jx4a65c_get_915e3)]) (stop := [14]) (n := 200) (env_cons (ceV (by decide +kernel) ⟨by decide, by decide, by decide +kernel⟩ (by decide) rfl (ok_Jx4a65c_size_8abf5 G)) (env_cons (ceS (by decide +kernel) ⟨by decide, by decide, by decide +kernel⟩ (by decide) (ok_X4_needIndex_t G)) (env_cons (ceV (by decide +kernel) ⟨by decide, by decide, by decide +kernel⟩ (by decide) rfl (ok_Jx4a65c_get_915e3 G)) (env_nil0 (env_hh rfl))))) ?_
  simp only [↓wpN_S, ↓step_u, ↓stC_s, stC_s, ↓stF_u, stF_u, ↓stepI, lenI, ↓kN_u, isS, ↓gI_0, ↓gI_S, ↓gL_0, ↓gL_S, ↓gD_0, ↓gD_S, ↓gR_0, ↓gR_S, ↓sI_c, ↓sL_c, ↓sD_c, ↓sR_c, ↓s1_r, ↓s1_i, ↓vR_r, ↓vR_n, ↓s0_n, s0_n, ↓oR_u, ↓sP_u, ↓sPa_0, ↓sPa_S, ↓lkC_c, ↓callK_u, ↓cQ_s, ↓cQ_n, putL, putW, clr, kil, catS, catN, refF, booF, finF, nF, nmOf_0, nmOf_1, nmOf_2, nmOf_3, nmOf_4, nmOf_5, nmOf_6, nmOf_50, nmOf_51, nmOf_52, ↓reduceIte, reduceIte, Bool.false_eq_true, eq_self, true_or, or_true, true_and, and_true, false_or, or_false, Nat.reduceAdd, Nat.reduceSub, Nat.reduceEqDiff, Nat.reduceLT, Nat.reduceLeDiff, reduceCtorEq, true_implies, List.length_cons, List.length_nil, List.replicate, List.cons_append, List.nil_append, mrt_X4_buildingAt, mhh_X4_buildingAt, mow_X4_buildingAt, mnl_X4_buildingAt, DX4_buildingAt_0, DX4_buildingAt_1, DX4_buildingAt_2, DX4_buildingAt_5, DX4_buildingAt_8, DX4_buildingAt_11, DX4_buildingAt_14, DX4_buildingAt_15, DX4_buildingAt_18, DX4_buildingAt_21, DX4_buildingAt_22, DX4_buildingAt_25, DX4_buildingAt_28, ce_Jx4a65c_size_8abf5, ↓ct_Jx4a65c_size_8abf5, ycl_Jx4a65c_size_8abf5, ce_X4_needIndex_t, ↓ct_X4_needIndex_t, ycl_X4_needIndex, ce_Jx4a65c_get_915e3, ↓ct_Jx4a65c_get_915e3, ycl_Jx4a65c_get_915e3, cX_nil mhh_X4_buildingAt]
  simp (disch := omega) only [i32_lit, i32_neg, i32_add, i32_mul, i32_sub, i32_nI, i32_lt, i32_le, i32_eq, inR_i, i32_clamp, i32_div, i32_max, i32_min, ite_max, ite_min, b2i_0, b2i_1, b2i_01, i32_toInt, tn_i, Int.toNat_natCast, em_t, true_and, and_true, Int.reduceToNat, Int.reduceLE, Int.reduceLT, Int.reduceAdd, Int.reduceMul, Int.reduceSub, Int.reduceNeg, Int.reduceEq, true_implies, not_true_eq_false, false_implies, not_false_eq_true, kC, rC0, rC1, rC2, rC3, rC4, kQ, rQ0, rQ1, kV, lV, kG, lG, kP, lP, kT, lT, LB1, LB2, LB3, LH1, LH2, LH3, LL1, LL2, LL3, dDy, dEv, true_and, and_true, Option.some.injEq, exists_eq_left', nmOf_0, nmOf_1, nmOf_2, nmOf_3, nmOf_4, nmOf_5, nmOf_6, Nat.add_sub_cancel, Nat.reduceSub, Nat.reduceLT, Nat.reduceEqDiff, ne_eq, not_false_eq_true]
  refine ⟨fun hi => ?_, fun z => hx z⟩
  obtain ⟨b, rfl⟩ := Int.eq_ofNat_of_zero_le hi.1
  replace hq := hq hi
  rw [Int.toNat_natCast] at hq
  have kB := hKB b (by omega)
  obtain ⟨eB0, eB1, eB2, eB3, eB4, eB5, eB6, eB7⟩ := dB b (by omega)
  have qB := LB7 b (by omega)
  obtain ⟨kqB, lqB⟩ := LB6 (by omega)
  obtain ⟨vB0, vB2, vB2', vB02, vB1, vB3, vB3', vB13, vB4, vB4', vB5, vB5', vB6⟩ := hW.2.2.1 b (by omega)
  refine wpW (cs := [(49, ce_Jx4a65c_size_8abf5), (130, ce_X4_needIndex_t), (84, ce_Jx4a65c_get_915e3)]) (stop := []) (n := 200) (env_cons (ceV (by decide +kernel) ⟨by decide, by decide, by decide +kernel⟩ (by decide) rfl (ok_Jx4a65c_size_8abf5 G)) (env_cons (ceS (by decide +kernel) ⟨by decide, by decide, by decide +kernel⟩ (by decide) (ok_X4_needIndex_t G)) (env_cons (ceV (by decide +kernel) ⟨by decide, by decide, by decide +kernel⟩ (by decide) rfl (ok_Jx4a65c_get_915e3 G)) (env_nil0 (env_hh rfl))))) ?_
  simp only [↓wpN_S, ↓step_u, ↓stC_s, stC_s, ↓stF_u, stF_u, ↓stepI, lenI, ↓kN_u, isS, ↓gI_0, ↓gI_S, ↓gL_0, ↓gL_S, ↓gD_0, ↓gD_S, ↓gR_0, ↓gR_S, ↓sI_c, ↓sL_c, ↓sD_c, ↓sR_c, ↓s1_r, ↓s1_i, ↓vR_r, ↓vR_n, ↓s0_n, s0_n, ↓oR_u, ↓sP_u, ↓sPa_0, ↓sPa_S, ↓lkC_c, ↓callK_u, ↓cQ_s, ↓cQ_n, putL, putW, clr, kil, catS, catN, refF, booF, finF, nF, nmOf_0, nmOf_1, nmOf_2, nmOf_3, nmOf_4, nmOf_5, nmOf_6, nmOf_50, nmOf_51, nmOf_52, ↓reduceIte, reduceIte, Bool.false_eq_true, eq_self, true_or, or_true, true_and, and_true, false_or, or_false, Nat.reduceAdd, Nat.reduceSub, Nat.reduceEqDiff, Nat.reduceLT, Nat.reduceLeDiff, reduceCtorEq, true_implies, List.length_cons, List.length_nil, List.replicate, List.cons_append, List.nil_append, mrt_X4_buildingAt, mhh_X4_buildingAt, mow_X4_buildingAt, mnl_X4_buildingAt, DX4_buildingAt_0, DX4_buildingAt_1, DX4_buildingAt_2, DX4_buildingAt_5, DX4_buildingAt_8, DX4_buildingAt_11, DX4_buildingAt_14, DX4_buildingAt_15, DX4_buildingAt_18, DX4_buildingAt_21, DX4_buildingAt_22, DX4_buildingAt_25, DX4_buildingAt_28, ce_Jx4a65c_size_8abf5, ↓ct_Jx4a65c_size_8abf5, ycl_Jx4a65c_size_8abf5, ce_X4_needIndex_t, ↓ct_X4_needIndex_t, ycl_X4_needIndex, ce_Jx4a65c_get_915e3, ↓ct_Jx4a65c_get_915e3, ycl_Jx4a65c_get_915e3, cX_nil mhh_X4_buildingAt]
  simp (disch := omega) only [i32_lit, i32_neg, i32_add, i32_mul, i32_sub, i32_nI, i32_lt, i32_le, i32_eq, inR_i, i32_clamp, i32_div, i32_max, i32_min, ite_max, ite_min, b2i_0, b2i_1, b2i_01, i32_toInt, tn_i, Int.toNat_natCast, em_t, true_and, and_true, Int.reduceToNat, Int.reduceLE, Int.reduceLT, Int.reduceAdd, Int.reduceMul, Int.reduceSub, Int.reduceNeg, Int.reduceEq, true_implies, not_true_eq_false, false_implies, not_false_eq_true, kC, rC0, rC1, rC2, rC3, rC4, kQ, rQ0, rQ1, kV, lV, kG, lG, kP, lP, kT, lT, LB1, LB2, LB3, LH1, LH2, LH3, LL1, LL2, LL3, dDy, dEv, true_and, and_true, Option.some.injEq, exists_eq_left', nmOf_0, nmOf_1, nmOf_2, nmOf_3, nmOf_4, nmOf_5, nmOf_6, Nat.add_sub_cancel, Nat.reduceSub, Nat.reduceLT, Nat.reduceEqDiff, ne_eq, not_false_eq_true, kB, eB0, eB1, eB2, eB3, eB4, eB5, eB6, eB7, qB, kqB, lqB]
  exact ⟨by omega, by omega, by omega, hq⟩
def ct_X4_standingBuilding_t (G : GT) (D : WD) (S : SS) : Ct := fun As h Q QX => sR As fun c r => sI r fun i r => s0 r (CD G h D S ∧ c = D 0 0 ∧ ((0 ≤ i.toInt ∧ i.toInt < S.nb) ∧ S.bf (tn i) 6 = 1 → Q (some (.ref (D 1 (tn i)))) h) ∧ (¬ ((0 ≤ i.toInt ∧ i.toInt < S.nb) ∧ S.bf (tn i) 6 = 1) → QX IOB h))
def ce_X4_standingBuilding_t (G : GT) (D : WD) (S : SS) : CE := (0, yX4_standingBuilding, MX4_standingBuilding, 1, 9, 2, 12, ct_X4_standingBuilding_t G D S)
set_option maxRecDepth 100000 in
set_option maxHeartbeats 4000000 in
theorem ok_X4_standingBuilding_t (G : GT) (G : GT) (D : WD) (S : SS) (hW : WF S) : OKm G yX4_standingBuilding MX4_standingBuilding 9 2 12 (ct_X4_standingBuilding_t G D S) := by
  refine mkOK (ini := false) (by decide) rfl (by first | exact fun _ => rfl | (intro hh; cases hh)) (fun As h Q QX hc => ?_)
  replace hc := sR_e hc; obtain ⟨c, r, rfl, hc⟩ := hc
  replace hc := sI_e hc; obtain ⟨i, r, rfl, hc⟩ := hc
  replace hc := s0_e hc; obtain ⟨rfl, hc⟩ := hc
  obtain ⟨hD, rfl, hq, hx⟩ := hc
  obtain ⟨iV, hiV, rfl⟩ := i32_all i
  rw [i32_toInt hiV, tn_i hiV] at hq hx
  have hD0 := hD
  have hA0 := hD.1
  have hB0 := hD.2
  obtain ⟨⟨kC, rC0, rC1, rC2, rC3, rC4⟩, ⟨kQ, rQ0, rQ1⟩, ⟨kV, lV⟩, ⟨kG, lG⟩, ⟨kP, lP⟩, ⟨kT, lT⟩, ⟨⟨LB1, LB2, LB3, LB4, LB5, LB6, LB7⟩, ⟨LH1, LH2, LH3, LH4, LH5, LH6, LH7⟩, ⟨LL1, LL2, LL3, LL4, LL5, LL6, LL7⟩⟩, hKB, hHA, hKL, hCJ⟩ := hA0
  obtain ⟨dDy, dEv, dG, dP, dV, dB, dL, dH⟩ := hB0
  have hnb := hW.1
  have hnl := hW.2.1
  refine ⟨Nat.le_of_ble_eq_true rfl, ?_⟩
  simp only [ent, entL, catN, List.length_cons, List.length_nil, List.replicate, List.cons_append, List.nil_append, reduceIte, Nat.reduceEqDiff,  Nat.reduceAdd, Nat.reduceSub, mnl_X4_standingBuilding]
  refine wpW (cs := [(127, ce_X4_buildingAt_t G D S)]) (stop := [5]) (n := 200) (env_cons (ceV (by decide +kernel) ⟨by decide, by decide, by decide +kernel⟩ (by decide) rfl (ok_X4_buildingAt_t G G D S hW)) (env_nil0 (env_hh rfl))) ?_
  simp only [↓wpN_S, ↓step_u, ↓stC_s, stC_s, ↓stF_u, stF_u, ↓stepI, lenI, ↓kN_u, isS, ↓gI_0, ↓gI_S, ↓gL_0, ↓gL_S, ↓gD_0, ↓gD_S, ↓gR_0, ↓gR_S, ↓sI_c, ↓sL_c, ↓sD_c, ↓sR_c, ↓s1_r, ↓s1_i, ↓vR_r, ↓vR_n, ↓s0_n, s0_n, ↓oR_u, ↓sP_u, ↓sPa_0, ↓sPa_S, ↓lkC_c, ↓callK_u, ↓cQ_s, ↓cQ_n, putL, putW, clr, kil, catS, catN, refF, booF, finF, nF, nmOf_0, nmOf_1, nmOf_2, nmOf_3, nmOf_4, nmOf_5, nmOf_6, nmOf_50, nmOf_51, nmOf_52, ↓reduceIte, reduceIte, Bool.false_eq_true, eq_self, true_or, or_true, true_and, and_true, false_or, or_false, Nat.reduceAdd, Nat.reduceSub, Nat.reduceEqDiff, Nat.reduceLT, Nat.reduceLeDiff, reduceCtorEq, true_implies, List.length_cons, List.length_nil, List.replicate, List.cons_append, List.nil_append, mrt_X4_standingBuilding, mhh_X4_standingBuilding, mow_X4_standingBuilding, mnl_X4_standingBuilding, DX4_standingBuilding_0, DX4_standingBuilding_1, DX4_standingBuilding_2, DX4_standingBuilding_5, DX4_standingBuilding_6, DX4_standingBuilding_7, DX4_standingBuilding_10, DX4_standingBuilding_13, DX4_standingBuilding_16, DX4_standingBuilding_17, DX4_standingBuilding_20, DX4_standingBuilding_23, DX4_standingBuilding_24, DX4_standingBuilding_25, ce_X4_buildingAt_t, ↓ct_X4_buildingAt_t, ycl_X4_buildingAt, cX_nil mhh_X4_standingBuilding]
  simp (disch := omega) only [i32_lit, i32_neg, i32_add, i32_mul, i32_sub, i32_nI, i32_lt, i32_le, i32_eq, inR_i, i32_clamp, i32_div, i32_max, i32_min, ite_max, ite_min, b2i_0, b2i_1, b2i_01, i32_toInt, tn_i, Int.toNat_natCast, em_t, true_and, and_true, Int.reduceToNat, Int.reduceLE, Int.reduceLT, Int.reduceAdd, Int.reduceMul, Int.reduceSub, Int.reduceNeg, Int.reduceEq, true_implies, not_true_eq_false, false_implies, not_false_eq_true, kC, rC0, rC1, rC2, rC3, rC4, kQ, rQ0, rQ1, kV, lV, kG, lG, kP, lP, kT, lT, LB1, LB2, LB3, LH1, LH2, LH3, LL1, LL2, LL3, dDy, dEv, true_and, and_true, Option.some.injEq, exists_eq_left', nmOf_0, nmOf_1, nmOf_2, nmOf_3, nmOf_4, nmOf_5, nmOf_6, Nat.add_sub_cancel, Nat.reduceSub, Nat.reduceLT, Nat.reduceEqDiff, ne_eq, not_false_eq_true, hD0]
  refine ⟨fun hi => ?_, fun z => hx (fun q => z q.1)⟩
  obtain ⟨b, rfl⟩ := Int.eq_ofNat_of_zero_le hi.1
  rw [Int.toNat_natCast] at hq hx ⊢
  have kB := hKB b (by omega)
  obtain ⟨eB0, eB1, eB2, eB3, eB4, eB5, eB6, eB7⟩ := dB b (by omega)
  have qB := LB7 b (by omega)
  obtain ⟨kqB, lqB⟩ := LB6 (by omega)
  obtain ⟨vB0, vB2, vB2', vB02, vB1, vB3, vB3', vB13, vB4, vB4', vB5, vB5', vB6⟩ := hW.2.2.1 b (by omega)
  refine wpW (cs := [(127, ce_X4_buildingAt_t G D S)]) (stop := []) (n := 200) (env_cons (ceV (by decide +kernel) ⟨by decide, by decide, by decide +kernel⟩ (by decide) rfl (ok_X4_buildingAt_t G G D S hW)) (env_nil0 (env_hh rfl))) ?_
  simp only [↓wpN_S, ↓step_u, ↓stC_s, stC_s, ↓stF_u, stF_u, ↓stepI, lenI, ↓kN_u, isS, ↓gI_0, ↓gI_S, ↓gL_0, ↓gL_S, ↓gD_0, ↓gD_S, ↓gR_0, ↓gR_S, ↓sI_c, ↓sL_c, ↓sD_c, ↓sR_c, ↓s1_r, ↓s1_i, ↓vR_r, ↓vR_n, ↓s0_n, s0_n, ↓oR_u, ↓sP_u, ↓sPa_0, ↓sPa_S, ↓lkC_c, ↓callK_u, ↓cQ_s, ↓cQ_n, putL, putW, clr, kil, catS, catN, refF, booF, finF, nF, nmOf_0, nmOf_1, nmOf_2, nmOf_3, nmOf_4, nmOf_5, nmOf_6, nmOf_50, nmOf_51, nmOf_52, ↓reduceIte, reduceIte, Bool.false_eq_true, eq_self, true_or, or_true, true_and, and_true, false_or, or_false, Nat.reduceAdd, Nat.reduceSub, Nat.reduceEqDiff, Nat.reduceLT, Nat.reduceLeDiff, reduceCtorEq, true_implies, List.length_cons, List.length_nil, List.replicate, List.cons_append, List.nil_append, mrt_X4_standingBuilding, mhh_X4_standingBuilding, mow_X4_standingBuilding, mnl_X4_standingBuilding, DX4_standingBuilding_0, DX4_standingBuilding_1, DX4_standingBuilding_2, DX4_standingBuilding_5, DX4_standingBuilding_6, DX4_standingBuilding_7, DX4_standingBuilding_10, DX4_standingBuilding_13, DX4_standingBuilding_16, DX4_standingBuilding_17, DX4_standingBuilding_20, DX4_standingBuilding_23, DX4_standingBuilding_24, DX4_standingBuilding_25, ce_X4_buildingAt_t, ↓ct_X4_buildingAt_t, ycl_X4_buildingAt, cX_nil mhh_X4_standingBuilding]
  simp (disch := omega) only [i32_lit, i32_neg, i32_add, i32_mul, i32_sub, i32_nI, i32_lt, i32_le, i32_eq, inR_i, i32_clamp, i32_div, i32_max, i32_min, ite_max, ite_min, b2i_0, b2i_1, b2i_01, i32_toInt, tn_i, Int.toNat_natCast, em_t, true_and, and_true, Int.reduceToNat, Int.reduceLE, Int.reduceLT, Int.reduceAdd, Int.reduceMul, Int.reduceSub, Int.reduceNeg, Int.reduceEq, true_implies, not_true_eq_false, false_implies, not_false_eq_true, kC, rC0, rC1, rC2, rC3, rC4, kQ, rQ0, rQ1, kV, lV, kG, lG, kP, lP, kT, lT, LB1, LB2, LB3, LH1, LH2, LH3, LL1, LL2, LL3, dDy, dEv, true_and, and_true, Option.some.injEq, exists_eq_left', nmOf_0, nmOf_1, nmOf_2, nmOf_3, nmOf_4, nmOf_5, nmOf_6, Nat.add_sub_cancel, Nat.reduceSub, Nat.reduceLT, Nat.reduceEqDiff, ne_eq, not_false_eq_true, kB, eB0, eB1, eB2, eB3, eB4, eB5, eB6, eB7, qB, kqB, lqB]
  exact ⟨fun z => hq ⟨hi, by omega⟩, fun z => ⟨thr_X4_standingBuilding, hx (fun q => by omega)⟩⟩
def ct_X4_leaseAt (G : GT) (D : WD) (S : SS) : Ct := fun As h Q _ => sR As fun c r => sI r fun i r => s0 r (CD G h D S ∧ c = D 0 0 ∧ (0 ≤ i.toInt ∧ i.toInt < S.nl) ∧ Q (some (.ref (D 3 (tn i)))) h)
def ce_X4_leaseAt (G : GT) (D : WD) (S : SS) : CE := (0, yX4_leaseAt, MX4_leaseAt, 1, 8, 0, 0, ct_X4_leaseAt G D S)
set_option maxRecDepth 100000 in
set_option maxHeartbeats 4000000 in
theorem ok_X4_leaseAt (G : GT) (G : GT) (D : WD) (S : SS) (hW : WF S) : OKm G yX4_leaseAt MX4_leaseAt 8 0 0 (ct_X4_leaseAt G D S) := by
  refine mkOK (ini := false) (by decide) rfl (by first | exact fun _ => rfl | (intro hh; cases hh)) (fun As h Q QX hc => ?_)
  replace hc := sR_e hc; obtain ⟨c, r, rfl, hc⟩ := hc
  replace hc := sI_e hc; obtain ⟨i, r, rfl, hc⟩ := hc
  replace hc := s0_e hc; obtain ⟨rfl, hc⟩ := hc
  obtain ⟨hD, rfl, hi, hq⟩ := hc
  obtain ⟨iV, hiV, rfl⟩ := i32_all i
  rw [i32_toInt hiV] at hi
  rw [tn_i hiV] at hq
  obtain ⟨b, rfl⟩ := Int.eq_ofNat_of_zero_le hi.1
  rw [Int.toNat_natCast] at hq
  have hA0 := hD.1
  have hB0 := hD.2
  obtain ⟨⟨kC, rC0, rC1, rC2, rC3, rC4⟩, ⟨kQ, rQ0, rQ1⟩, ⟨kV, lV⟩, ⟨kG, lG⟩, ⟨kP, lP⟩, ⟨kT, lT⟩, ⟨⟨LB1, LB2, LB3, LB4, LB5, LB6, LB7⟩, ⟨LH1, LH2, LH3, LH4, LH5, LH6, LH7⟩, ⟨LL1, LL2, LL3, LL4, LL5, LL6, LL7⟩⟩, hKB, hHA, hKL, hCJ⟩ := hA0
  obtain ⟨dDy, dEv, dG, dP, dV, dB, dL, dH⟩ := hB0
  have hnb := hW.1
  have hnl := hW.2.1
  have kL := hKL b (by omega)
  obtain ⟨eL0, eL1, eL2, eL3, eL4, eL5, eL6, eL7, eL8, eL9⟩ := dL b (by omega)
  have qL := LL7 b (by omega)
  obtain ⟨kqL, lqL⟩ := LL6 (by omega)
  obtain ⟨vL0, vL0', vL1, vL1', vL2, vL2', vL3, vL4, vL4', vL5, vL5', vL6, vL7, vL7'⟩ := hW.2.2.2.1 b (by omega)
  refine ⟨Nat.le_of_ble_eq_true rfl, ?_⟩
  simp only [ent, entL, catN, List.length_cons, List.length_nil, List.replicate, List.cons_append, List.nil_append, reduceIte, Nat.reduceEqDiff,  Nat.reduceAdd, Nat.reduceSub, mnl_X4_leaseAt]
  refine wpW (cs := [(49, ce_Jx4a65c_size_8abf5), (130, ce_X4_needIndex), (84, ce_Jx4a65c_get_915e3)]) (stop := []) (n := 200) (env_cons (ceV (by decide +kernel) ⟨by decide, by decide, by decide +kernel⟩ (by decide) rfl (ok_Jx4a65c_size_8abf5 G)) (env_cons (ceS (by decide +kernel) ⟨by decide, by decide, by decide +kernel⟩ (by decide) (ok_X4_needIndex G)) (env_cons (ceV (by decide +kernel) ⟨by decide, by decide, by decide +kernel⟩ (by decide) rfl (ok_Jx4a65c_get_915e3 G)) (env_nil0 (env_hh rfl))))) ?_
  simp only [↓wpN_S, ↓step_u, ↓stC_s, stC_s, ↓stF_u, stF_u, ↓stepI, lenI, ↓kN_u, isS, ↓gI_0, ↓gI_S, ↓gL_0, ↓gL_S, ↓gD_0, ↓gD_S, ↓gR_0, ↓gR_S, ↓sI_c, ↓sL_c, ↓sD_c, ↓sR_c, ↓s1_r, ↓s1_i, ↓vR_r, ↓vR_n, ↓s0_n, s0_n, ↓oR_u, ↓sP_u, ↓sPa_0, ↓sPa_S, ↓lkC_c, ↓callK_u, ↓cQ_s, ↓cQ_n, putL, putW, clr, kil, catS, catN, refF, booF, finF, nF, nmOf_0, nmOf_1, nmOf_2, nmOf_3, nmOf_4, nmOf_5, nmOf_6, nmOf_50, nmOf_51, nmOf_52, ↓reduceIte, reduceIte, Bool.false_eq_true, eq_self, true_or, or_true, true_and, and_true, false_or, or_false, Nat.reduceAdd, Nat.reduceSub, Nat.reduceEqDiff, Nat.reduceLT, Nat.reduceLeDiff, reduceCtorEq, true_implies, List.length_cons, List.length_nil, List.replicate, List.cons_append, List.nil_append, mrt_X4_leaseAt, mhh_X4_leaseAt, mow_X4_leaseAt, mnl_X4_leaseAt, DX4_leaseAt_0, DX4_leaseAt_1, DX4_leaseAt_2, DX4_leaseAt_5, DX4_leaseAt_8, DX4_leaseAt_11, DX4_leaseAt_12, DX4_leaseAt_15, DX4_leaseAt_16, DX4_leaseAt_19, DX4_leaseAt_22, ce_Jx4a65c_size_8abf5, ↓ct_Jx4a65c_size_8abf5, ycl_Jx4a65c_size_8abf5, ce_X4_needIndex, ↓ct_X4_needIndex, ycl_X4_needIndex, ce_Jx4a65c_get_915e3, ↓ct_Jx4a65c_get_915e3, ycl_Jx4a65c_get_915e3, cX_nil mhh_X4_leaseAt]
  simp (disch := omega) only [i32_lit, i32_neg, i32_add, i32_mul, i32_sub, i32_nI, i32_lt, i32_le, i32_eq, inR_i, i32_clamp, i32_div, i32_max, i32_min, ite_max, ite_min, b2i_0, b2i_1, b2i_01, i32_toInt, tn_i, Int.toNat_natCast, em_t, true_and, and_true, Int.reduceToNat, Int.reduceLE, Int.reduceLT, Int.reduceAdd, Int.reduceMul, Int.reduceSub, Int.reduceNeg, Int.reduceEq, true_implies, not_true_eq_false, false_implies, not_false_eq_true, kC, rC0, rC1, rC2, rC3, rC4, kQ, rQ0, rQ1, kV, lV, kG, lG, kP, lP, kT, lT, LB1, LB2, LB3, LH1, LH2, LH3, LL1, LL2, LL3, dDy, dEv, true_and, and_true, Option.some.injEq, exists_eq_left', nmOf_0, nmOf_1, nmOf_2, nmOf_3, nmOf_4, nmOf_5, nmOf_6, Nat.add_sub_cancel, Nat.reduceSub, Nat.reduceLT, Nat.reduceEqDiff, ne_eq, not_false_eq_true, kL, eL0, eL1, eL2, eL3, eL4, eL5, eL6, eL7, eL8, eL9, qL, kqL, lqL]
  exact ⟨by omega, by omega, by omega, by omega, hq⟩
def ct_X4_leaseAt_t (G : GT) (D : WD) (S : SS) : Ct := fun As h Q QX => sR As fun c r => sI r fun i r => s0 r (CD G h D S ∧ c = D 0 0 ∧ (0 ≤ i.toInt ∧ i.toInt < S.nl → Q (some (.ref (D 3 (tn i)))) h) ∧ (¬ (0 ≤ i.toInt ∧ i.toInt < S.nl) → QX IOB h))
def ce_X4_leaseAt_t (G : GT) (D : WD) (S : SS) : CE := (0, yX4_leaseAt, MX4_leaseAt, 1, 8, 1, 6, ct_X4_leaseAt_t G D S)
set_option maxRecDepth 100000 in
set_option maxHeartbeats 4000000 in
theorem ok_X4_leaseAt_t (G : GT) (G : GT) (D : WD) (S : SS) (hW : WF S) : OKm G yX4_leaseAt MX4_leaseAt 8 1 6 (ct_X4_leaseAt_t G D S) := by
  refine mkOK (ini := false) (by decide) rfl (by first | exact fun _ => rfl | (intro hh; cases hh)) (fun As h Q QX hc => ?_)
  replace hc := sR_e hc; obtain ⟨c, r, rfl, hc⟩ := hc
  replace hc := sI_e hc; obtain ⟨i, r, rfl, hc⟩ := hc
  replace hc := s0_e hc; obtain ⟨rfl, hc⟩ := hc
  obtain ⟨hD, rfl, hq, hx⟩ := hc
  obtain ⟨iV, hiV, rfl⟩ := i32_all i
  rw [i32_toInt hiV] at hq hx
  rw [tn_i hiV] at hq
  have hA0 := hD.1
  have hB0 := hD.2
  obtain ⟨⟨kC, rC0, rC1, rC2, rC3, rC4⟩, ⟨kQ, rQ0, rQ1⟩, ⟨kV, lV⟩, ⟨kG, lG⟩, ⟨kP, lP⟩, ⟨kT, lT⟩, ⟨⟨LB1, LB2, LB3, LB4, LB5, LB6, LB7⟩, ⟨LH1, LH2, LH3, LH4, LH5, LH6, LH7⟩, ⟨LL1, LL2, LL3, LL4, LL5, LL6, LL7⟩⟩, hKB, hHA, hKL, hCJ⟩ := hA0
  obtain ⟨dDy, dEv, dG, dP, dV, dB, dL, dH⟩ := hB0
  have hnb := hW.1
  have hnl := hW.2.1
  refine ⟨Nat.le_of_ble_eq_true rfl, ?_⟩
  simp only [ent, entL, catN, List.length_cons, List.length_nil, List.replicate, List.cons_append, List.nil_append, reduceIte, Nat.reduceEqDiff,  Nat.reduceAdd, Nat.reduceSub, mnl_X4_leaseAt]
  refine wpW (cs := [(49, ce_Jx4a65c_size_8abf5), (130, ce_X4_needIndex_t), (84, ce_Jx4a65c_get_915e3)]) (stop := [11]) (n := 200) (env_cons (ceV (by decide +kernel) ⟨by decide, by decide, by decide +kernel⟩ (by decide) rfl (ok_Jx4a65c_size_8abf5 G)) (env_cons (ceS (by decide +kernel) ⟨by decide, by decide, by decide +kernel⟩ (by decide) (ok_X4_needIndex_t G)) (env_cons (ceV (by decide +kernel) ⟨by decide, by decide, by decide +kernel⟩ (by decide) rfl (ok_Jx4a65c_get_915e3 G)) (env_nil0 (env_hh rfl))))) ?_
  simp only [↓wpN_S, ↓step_u, ↓stC_s, stC_s, ↓stF_u, stF_u, ↓stepI, lenI, ↓kN_u, isS, ↓gI_0, ↓gI_S, ↓gL_0, ↓gL_S, ↓gD_0, ↓gD_S, ↓gR_0, ↓gR_S, ↓sI_c, ↓sL_c, ↓sD_c, ↓sR_c, ↓s1_r, ↓s1_i, ↓vR_r, ↓vR_n, ↓s0_n, s0_n, ↓oR_u, ↓sP_u, ↓sPa_0, ↓sPa_S, ↓lkC_c, ↓callK_u, ↓cQ_s, ↓cQ_n, putL, putW, clr, kil, catS, catN, refF, booF, finF, nF, nmOf_0, nmOf_1, nmOf_2, nmOf_3, nmOf_4, nmOf_5, nmOf_6, nmOf_50, nmOf_51, nmOf_52, ↓reduceIte, reduceIte, Bool.false_eq_true, eq_self, true_or, or_true, true_and, and_true, false_or, or_false, Nat.reduceAdd, Nat.reduceSub, Nat.reduceEqDiff, Nat.reduceLT, Nat.reduceLeDiff, reduceCtorEq, true_implies, List.length_cons, List.length_nil, List.replicate, List.cons_append, List.nil_append, mrt_X4_leaseAt, mhh_X4_leaseAt, mow_X4_leaseAt, mnl_X4_leaseAt, DX4_leaseAt_0, DX4_leaseAt_1, DX4_leaseAt_2, DX4_leaseAt_5, DX4_leaseAt_8, DX4_leaseAt_11, DX4_leaseAt_12, DX4_leaseAt_15, DX4_leaseAt_16, DX4_leaseAt_19, DX4_leaseAt_22, ce_Jx4a65c_size_8abf5, ↓ct_Jx4a65c_size_8abf5, ycl_Jx4a65c_size_8abf5, ce_X4_needIndex_t, ↓ct_X4_needIndex_t, ycl_X4_needIndex, ce_Jx4a65c_get_915e3, ↓ct_Jx4a65c_get_915e3, ycl_Jx4a65c_get_915e3, cX_nil mhh_X4_leaseAt]
  simp (disch := omega) only [i32_lit, i32_neg, i32_add, i32_mul, i32_sub, i32_nI, i32_lt, i32_le, i32_eq, inR_i, i32_clamp, i32_div, i32_max, i32_min, ite_max, ite_min, b2i_0, b2i_1, b2i_01, i32_toInt, tn_i, Int.toNat_natCast, em_t, true_and, and_true, Int.reduceToNat, Int.reduceLE, Int.reduceLT, Int.reduceAdd, Int.reduceMul, Int.reduceSub, Int.reduceNeg, Int.reduceEq, true_implies, not_true_eq_false, false_implies, not_false_eq_true, kC, rC0, rC1, rC2, rC3, rC4, kQ, rQ0, rQ1, kV, lV, kG, lG, kP, lP, kT, lT, LB1, LB2, LB3, LH1, LH2, LH3, LL1, LL2, LL3, dDy, dEv, true_and, and_true, Option.some.injEq, exists_eq_left', nmOf_0, nmOf_1, nmOf_2, nmOf_3, nmOf_4, nmOf_5, nmOf_6, Nat.add_sub_cancel, Nat.reduceSub, Nat.reduceLT, Nat.reduceEqDiff, ne_eq, not_false_eq_true]
  refine ⟨fun hi => ?_, fun z => hx z⟩
  obtain ⟨b, rfl⟩ := Int.eq_ofNat_of_zero_le hi.1
  replace hq := hq hi
  rw [Int.toNat_natCast] at hq
  have kL := hKL b (by omega)
  obtain ⟨eL0, eL1, eL2, eL3, eL4, eL5, eL6, eL7, eL8, eL9⟩ := dL b (by omega)
  have qL := LL7 b (by omega)
  obtain ⟨kqL, lqL⟩ := LL6 (by omega)
  obtain ⟨vL0, vL0', vL1, vL1', vL2, vL2', vL3, vL4, vL4', vL5, vL5', vL6, vL7, vL7'⟩ := hW.2.2.2.1 b (by omega)
  refine wpW (cs := [(49, ce_Jx4a65c_size_8abf5), (130, ce_X4_needIndex_t), (84, ce_Jx4a65c_get_915e3)]) (stop := []) (n := 200) (env_cons (ceV (by decide +kernel) ⟨by decide, by decide, by decide +kernel⟩ (by decide) rfl (ok_Jx4a65c_size_8abf5 G)) (env_cons (ceS (by decide +kernel) ⟨by decide, by decide, by decide +kernel⟩ (by decide) (ok_X4_needIndex_t G)) (env_cons (ceV (by decide +kernel) ⟨by decide, by decide, by decide +kernel⟩ (by decide) rfl (ok_Jx4a65c_get_915e3 G)) (env_nil0 (env_hh rfl))))) ?_
  simp only [↓wpN_S, ↓step_u, ↓stC_s, stC_s, ↓stF_u, stF_u, ↓stepI, lenI, ↓kN_u, isS, ↓gI_0, ↓gI_S, ↓gL_0, ↓gL_S, ↓gD_0, ↓gD_S, ↓gR_0, ↓gR_S, ↓sI_c, ↓sL_c, ↓sD_c, ↓sR_c, ↓s1_r, ↓s1_i, ↓vR_r, ↓vR_n, ↓s0_n, s0_n, ↓oR_u, ↓sP_u, ↓sPa_0, ↓sPa_S, ↓lkC_c, ↓callK_u, ↓cQ_s, ↓cQ_n, putL, putW, clr, kil, catS, catN, refF, booF, finF, nF, nmOf_0, nmOf_1, nmOf_2, nmOf_3, nmOf_4, nmOf_5, nmOf_6, nmOf_50, nmOf_51, nmOf_52, ↓reduceIte, reduceIte, Bool.false_eq_true, eq_self, true_or, or_true, true_and, and_true, false_or, or_false, Nat.reduceAdd, Nat.reduceSub, Nat.reduceEqDiff, Nat.reduceLT, Nat.reduceLeDiff, reduceCtorEq, true_implies, List.length_cons, List.length_nil, List.replicate, List.cons_append, List.nil_append, mrt_X4_leaseAt, mhh_X4_leaseAt, mow_X4_leaseAt, mnl_X4_leaseAt, DX4_leaseAt_0, DX4_leaseAt_1, DX4_leaseAt_2, DX4_leaseAt_5, DX4_leaseAt_8, DX4_leaseAt_11, DX4_leaseAt_12, DX4_leaseAt_15, DX4_leaseAt_16, DX4_leaseAt_19, DX4_leaseAt_22, ce_Jx4a65c_size_8abf5, ↓ct_Jx4a65c_size_8abf5, ycl_Jx4a65c_size_8abf5, ce_X4_needIndex_t, ↓ct_X4_needIndex_t, ycl_X4_needIndex, ce_Jx4a65c_get_915e3, ↓ct_Jx4a65c_get_915e3, ycl_Jx4a65c_get_915e3, cX_nil mhh_X4_leaseAt]
  simp (disch := omega) only [i32_lit, i32_neg, i32_add, i32_mul, i32_sub, i32_nI, i32_lt, i32_le, i32_eq, inR_i, i32_clamp, i32_div, i32_max, i32_min, ite_max, ite_min, b2i_0, b2i_1, b2i_01, i32_toInt, tn_i, Int.toNat_natCast, em_t, true_and, and_true, Int.reduceToNat, Int.reduceLE, Int.reduceLT, Int.reduceAdd, Int.reduceMul, Int.reduceSub, Int.reduceNeg, Int.reduceEq, true_implies, not_true_eq_false, false_implies, not_false_eq_true, kC, rC0, rC1, rC2, rC3, rC4, kQ, rQ0, rQ1, kV, lV, kG, lG, kP, lP, kT, lT, LB1, LB2, LB3, LH1, LH2, LH3, LL1, LL2, LL3, dDy, dEv, true_and, and_true, Option.some.injEq, exists_eq_left', nmOf_0, nmOf_1, nmOf_2, nmOf_3, nmOf_4, nmOf_5, nmOf_6, Nat.add_sub_cancel, Nat.reduceSub, Nat.reduceLT, Nat.reduceEqDiff, ne_eq, not_false_eq_true, kL, eL0, eL1, eL2, eL3, eL4, eL5, eL6, eL7, eL8, eL9, qL, kqL, lqL]
  exact ⟨by omega, by omega, by omega, hq⟩
def ct_X4_hourAt (G : GT) (D : WD) (S : SS) : Ct := fun As h Q _ => sR As fun c r => sI r fun i r => s0 r (CD G h D S ∧ c = D 0 0 ∧ (0 ≤ i.toInt ∧ i.toInt < 12) ∧ Q (some (.ref (D 2 (tn i)))) h)
def ce_X4_hourAt (G : GT) (D : WD) (S : SS) : CE := (0, yX4_hourAt, MX4_hourAt, 1, 8, 0, 0, ct_X4_hourAt G D S)
set_option maxRecDepth 100000 in
set_option maxHeartbeats 4000000 in
theorem ok_X4_hourAt (G : GT) (G : GT) (D : WD) (S : SS) (hW : WF S) : OKm G yX4_hourAt MX4_hourAt 8 0 0 (ct_X4_hourAt G D S) := by
  refine mkOK (ini := false) (by decide) rfl (by first | exact fun _ => rfl | (intro hh; cases hh)) (fun As h Q QX hc => ?_)
  replace hc := sR_e hc; obtain ⟨c, r, rfl, hc⟩ := hc
  replace hc := sI_e hc; obtain ⟨i, r, rfl, hc⟩ := hc
  replace hc := s0_e hc; obtain ⟨rfl, hc⟩ := hc
  obtain ⟨hD, rfl, hi, hq⟩ := hc
  obtain ⟨iV, hiV, rfl⟩ := i32_all i
  rw [i32_toInt hiV] at hi
  rw [tn_i hiV] at hq
  obtain ⟨b, rfl⟩ := Int.eq_ofNat_of_zero_le hi.1
  rw [Int.toNat_natCast] at hq
  have hA0 := hD.1
  have hB0 := hD.2
  obtain ⟨⟨kC, rC0, rC1, rC2, rC3, rC4⟩, ⟨kQ, rQ0, rQ1⟩, ⟨kV, lV⟩, ⟨kG, lG⟩, ⟨kP, lP⟩, ⟨kT, lT⟩, ⟨⟨LB1, LB2, LB3, LB4, LB5, LB6, LB7⟩, ⟨LH1, LH2, LH3, LH4, LH5, LH6, LH7⟩, ⟨LL1, LL2, LL3, LL4, LL5, LL6, LL7⟩⟩, hKB, hHA, hKL, hCJ⟩ := hA0
  obtain ⟨dDy, dEv, dG, dP, dV, dB, dL, dH⟩ := hB0
  have hnb := hW.1
  have hnl := hW.2.1
  obtain ⟨kH, ⟨rH5, rH6, rH7, rH8, rH12⟩, ⟨kH4, lH4⟩, ⟨kH5, lH5⟩, ⟨kH6, lH6⟩, ⟨kH7, lH7⟩⟩ := hHA b (by omega)
  obtain ⟨eH0, eH1, eH2, eH3⟩ := dH b (by omega)
  have qH := LH7 b (by omega)
  obtain ⟨kqH, lqH⟩ := LH6 (by omega)
  obtain ⟨vH0, vH0', vH1, vH1', -, vH2, vH2'⟩ := hW.2.2.2.2.1 b (by omega)
  refine ⟨Nat.le_of_ble_eq_true rfl, ?_⟩
  simp only [ent, entL, catN, List.length_cons, List.length_nil, List.replicate, List.cons_append, List.nil_append, reduceIte, Nat.reduceEqDiff,  Nat.reduceAdd, Nat.reduceSub, mnl_X4_hourAt]
  refine wpW (cs := [(49, ce_Jx4a65c_size_8abf5), (130, ce_X4_needIndex), (84, ce_Jx4a65c_get_915e3)]) (stop := []) (n := 200) (env_cons (ceV (by decide +kernel) ⟨by decide, by decide, by decide +kernel⟩ (by decide) rfl (ok_Jx4a65c_size_8abf5 G)) (env_cons (ceS (by decide +kernel) ⟨by decide, by decide, by decide +kernel⟩ (by decide) (ok_X4_needIndex G)) (env_cons (ceV (by decide +kernel) ⟨by decide, by decide, by decide +kernel⟩ (by decide) rfl (ok_Jx4a65c_get_915e3 G)) (env_nil0 (env_hh rfl))))) ?_
  simp only [↓wpN_S, ↓step_u, ↓stC_s, stC_s, ↓stF_u, stF_u, ↓stepI, lenI, ↓kN_u, isS, ↓gI_0, ↓gI_S, ↓gL_0, ↓gL_S, ↓gD_0, ↓gD_S, ↓gR_0, ↓gR_S, ↓sI_c, ↓sL_c, ↓sD_c, ↓sR_c, ↓s1_r, ↓s1_i, ↓vR_r, ↓vR_n, ↓s0_n, s0_n, ↓oR_u, ↓sP_u, ↓sPa_0, ↓sPa_S, ↓lkC_c, ↓callK_u, ↓cQ_s, ↓cQ_n, putL, putW, clr, kil, catS, catN, refF, booF, finF, nF, nmOf_0, nmOf_1, nmOf_2, nmOf_3, nmOf_4, nmOf_5, nmOf_6, nmOf_50, nmOf_51, nmOf_52, ↓reduceIte, reduceIte, Bool.false_eq_true, eq_self, true_or, or_true, true_and, and_true, false_or, or_false, Nat.reduceAdd, Nat.reduceSub, Nat.reduceEqDiff, Nat.reduceLT, Nat.reduceLeDiff, reduceCtorEq, true_implies, List.length_cons, List.length_nil, List.replicate, List.cons_append, List.nil_append, mrt_X4_hourAt, mhh_X4_hourAt, mow_X4_hourAt, mnl_X4_hourAt, DX4_hourAt_0, DX4_hourAt_1, DX4_hourAt_2, DX4_hourAt_5, DX4_hourAt_8, DX4_hourAt_11, DX4_hourAt_12, DX4_hourAt_15, DX4_hourAt_16, DX4_hourAt_19, DX4_hourAt_22, ce_Jx4a65c_size_8abf5, ↓ct_Jx4a65c_size_8abf5, ycl_Jx4a65c_size_8abf5, ce_X4_needIndex, ↓ct_X4_needIndex, ycl_X4_needIndex, ce_Jx4a65c_get_915e3, ↓ct_Jx4a65c_get_915e3, ycl_Jx4a65c_get_915e3, cX_nil mhh_X4_hourAt]
  simp (disch := omega) only [i32_lit, i32_neg, i32_add, i32_mul, i32_sub, i32_nI, i32_lt, i32_le, i32_eq, inR_i, i32_clamp, i32_div, i32_max, i32_min, ite_max, ite_min, b2i_0, b2i_1, b2i_01, i32_toInt, tn_i, Int.toNat_natCast, em_t, true_and, and_true, Int.reduceToNat, Int.reduceLE, Int.reduceLT, Int.reduceAdd, Int.reduceMul, Int.reduceSub, Int.reduceNeg, Int.reduceEq, true_implies, not_true_eq_false, false_implies, not_false_eq_true, kC, rC0, rC1, rC2, rC3, rC4, kQ, rQ0, rQ1, kV, lV, kG, lG, kP, lP, kT, lT, LB1, LB2, LB3, LH1, LH2, LH3, LL1, LL2, LL3, dDy, dEv, true_and, and_true, Option.some.injEq, exists_eq_left', nmOf_0, nmOf_1, nmOf_2, nmOf_3, nmOf_4, nmOf_5, nmOf_6, Nat.add_sub_cancel, Nat.reduceSub, Nat.reduceLT, Nat.reduceEqDiff, ne_eq, not_false_eq_true, kH, rH5, rH6, rH7, rH8, rH12, kH4, lH4, kH5, lH5, kH6, lH6, kH7, lH7, eH0, eH1, eH2, eH3, qH, kqH, lqH]
  exact ⟨by omega, by omega, by omega, by omega, hq⟩
def ct_X4_hourAt_t (G : GT) (D : WD) (S : SS) : Ct := fun As h Q QX => sR As fun c r => sI r fun i r => s0 r (CD G h D S ∧ c = D 0 0 ∧ (0 ≤ i.toInt ∧ i.toInt < 12 → Q (some (.ref (D 2 (tn i)))) h) ∧ (¬ (0 ≤ i.toInt ∧ i.toInt < 12) → QX IOB h))
def ce_X4_hourAt_t (G : GT) (D : WD) (S : SS) : CE := (0, yX4_hourAt, MX4_hourAt, 1, 8, 1, 6, ct_X4_hourAt_t G D S)
set_option maxRecDepth 100000 in
set_option maxHeartbeats 4000000 in
theorem ok_X4_hourAt_t (G : GT) (G : GT) (D : WD) (S : SS) (hW : WF S) : OKm G yX4_hourAt MX4_hourAt 8 1 6 (ct_X4_hourAt_t G D S) := by
  refine mkOK (ini := false) (by decide) rfl (by first | exact fun _ => rfl | (intro hh; cases hh)) (fun As h Q QX hc => ?_)
  replace hc := sR_e hc; obtain ⟨c, r, rfl, hc⟩ := hc
  replace hc := sI_e hc; obtain ⟨i, r, rfl, hc⟩ := hc
  replace hc := s0_e hc; obtain ⟨rfl, hc⟩ := hc
  obtain ⟨hD, rfl, hq, hx⟩ := hc
  obtain ⟨iV, hiV, rfl⟩ := i32_all i
  rw [i32_toInt hiV] at hq hx
  rw [tn_i hiV] at hq
  have hA0 := hD.1
  have hB0 := hD.2
  obtain ⟨⟨kC, rC0, rC1, rC2, rC3, rC4⟩, ⟨kQ, rQ0, rQ1⟩, ⟨kV, lV⟩, ⟨kG, lG⟩, ⟨kP, lP⟩, ⟨kT, lT⟩, ⟨⟨LB1, LB2, LB3, LB4, LB5, LB6, LB7⟩, ⟨LH1, LH2, LH3, LH4, LH5, LH6, LH7⟩, ⟨LL1, LL2, LL3, LL4, LL5, LL6, LL7⟩⟩, hKB, hHA, hKL, hCJ⟩ := hA0
  obtain ⟨dDy, dEv, dG, dP, dV, dB, dL, dH⟩ := hB0
  have hnb := hW.1
  have hnl := hW.2.1
  refine ⟨Nat.le_of_ble_eq_true rfl, ?_⟩
  simp only [ent, entL, catN, List.length_cons, List.length_nil, List.replicate, List.cons_append, List.nil_append, reduceIte, Nat.reduceEqDiff,  Nat.reduceAdd, Nat.reduceSub, mnl_X4_hourAt]
  refine wpW (cs := [(49, ce_Jx4a65c_size_8abf5), (130, ce_X4_needIndex_t), (84, ce_Jx4a65c_get_915e3)]) (stop := [11]) (n := 200) (env_cons (ceV (by decide +kernel) ⟨by decide, by decide, by decide +kernel⟩ (by decide) rfl (ok_Jx4a65c_size_8abf5 G)) (env_cons (ceS (by decide +kernel) ⟨by decide, by decide, by decide +kernel⟩ (by decide) (ok_X4_needIndex_t G)) (env_cons (ceV (by decide +kernel) ⟨by decide, by decide, by decide +kernel⟩ (by decide) rfl (ok_Jx4a65c_get_915e3 G)) (env_nil0 (env_hh rfl))))) ?_
  simp only [↓wpN_S, ↓step_u, ↓stC_s, stC_s, ↓stF_u, stF_u, ↓stepI, lenI, ↓kN_u, isS, ↓gI_0, ↓gI_S, ↓gL_0, ↓gL_S, ↓gD_0, ↓gD_S, ↓gR_0, ↓gR_S, ↓sI_c, ↓sL_c, ↓sD_c, ↓sR_c, ↓s1_r, ↓s1_i, ↓vR_r, ↓vR_n, ↓s0_n, s0_n, ↓oR_u, ↓sP_u, ↓sPa_0, ↓sPa_S, ↓lkC_c, ↓callK_u, ↓cQ_s, ↓cQ_n, putL, putW, clr, kil, catS, catN, refF, booF, finF, nF, nmOf_0, nmOf_1, nmOf_2, nmOf_3, nmOf_4, nmOf_5, nmOf_6, nmOf_50, nmOf_51, nmOf_52, ↓reduceIte, reduceIte, Bool.false_eq_true, eq_self, true_or, or_true, true_and, and_true, false_or, or_false, Nat.reduceAdd, Nat.reduceSub, Nat.reduceEqDiff, Nat.reduceLT, Nat.reduceLeDiff, reduceCtorEq, true_implies, List.length_cons, List.length_nil, List.replicate, List.cons_append, List.nil_append, mrt_X4_hourAt, mhh_X4_hourAt, mow_X4_hourAt, mnl_X4_hourAt, DX4_hourAt_0, DX4_hourAt_1, DX4_hourAt_2, DX4_hourAt_5, DX4_hourAt_8, DX4_hourAt_11, DX4_hourAt_12, DX4_hourAt_15, DX4_hourAt_16, DX4_hourAt_19, DX4_hourAt_22, ce_Jx4a65c_size_8abf5, ↓ct_Jx4a65c_size_8abf5, ycl_Jx4a65c_size_8abf5, ce_X4_needIndex_t, ↓ct_X4_needIndex_t, ycl_X4_needIndex, ce_Jx4a65c_get_915e3, ↓ct_Jx4a65c_get_915e3, ycl_Jx4a65c_get_915e3, cX_nil mhh_X4_hourAt]
  simp (disch := omega) only [i32_lit, i32_neg, i32_add, i32_mul, i32_sub, i32_nI, i32_lt, i32_le, i32_eq, inR_i, i32_clamp, i32_div, i32_max, i32_min, ite_max, ite_min, b2i_0, b2i_1, b2i_01, i32_toInt, tn_i, Int.toNat_natCast, em_t, true_and, and_true, Int.reduceToNat, Int.reduceLE, Int.reduceLT, Int.reduceAdd, Int.reduceMul, Int.reduceSub, Int.reduceNeg, Int.reduceEq, true_implies, not_true_eq_false, false_implies, not_false_eq_true, kC, rC0, rC1, rC2, rC3, rC4, kQ, rQ0, rQ1, kV, lV, kG, lG, kP, lP, kT, lT, LB1, LB2, LB3, LH1, LH2, LH3, LL1, LL2, LL3, dDy, dEv, true_and, and_true, Option.some.injEq, exists_eq_left', nmOf_0, nmOf_1, nmOf_2, nmOf_3, nmOf_4, nmOf_5, nmOf_6, Nat.add_sub_cancel, Nat.reduceSub, Nat.reduceLT, Nat.reduceEqDiff, ne_eq, not_false_eq_true]
  refine ⟨fun hi => ?_, fun z => hx z⟩
  obtain ⟨b, rfl⟩ := Int.eq_ofNat_of_zero_le hi.1
  replace hq := hq hi
  rw [Int.toNat_natCast] at hq
  obtain ⟨kH, ⟨rH5, rH6, rH7, rH8, rH12⟩, ⟨kH4, lH4⟩, ⟨kH5, lH5⟩, ⟨kH6, lH6⟩, ⟨kH7, lH7⟩⟩ := hHA b (by omega)
  obtain ⟨eH0, eH1, eH2, eH3⟩ := dH b (by omega)
  have qH := LH7 b (by omega)
  obtain ⟨kqH, lqH⟩ := LH6 (by omega)
  obtain ⟨vH0, vH0', vH1, vH1', -, vH2, vH2'⟩ := hW.2.2.2.2.1 b (by omega)
  refine wpW (cs := [(49, ce_Jx4a65c_size_8abf5), (130, ce_X4_needIndex_t), (84, ce_Jx4a65c_get_915e3)]) (stop := []) (n := 200) (env_cons (ceV (by decide +kernel) ⟨by decide, by decide, by decide +kernel⟩ (by decide) rfl (ok_Jx4a65c_size_8abf5 G)) (env_cons (ceS (by decide +kernel) ⟨by decide, by decide, by decide +kernel⟩ (by decide) (ok_X4_needIndex_t G)) (env_cons (ceV (by decide +kernel) ⟨by decide, by decide, by decide +kernel⟩ (by decide) rfl (ok_Jx4a65c_get_915e3 G)) (env_nil0 (env_hh rfl))))) ?_
  simp only [↓wpN_S, ↓step_u, ↓stC_s, stC_s, ↓stF_u, stF_u, ↓stepI, lenI, ↓kN_u, isS, ↓gI_0, ↓gI_S, ↓gL_0, ↓gL_S, ↓gD_0, ↓gD_S, ↓gR_0, ↓gR_S, ↓sI_c, ↓sL_c, ↓sD_c, ↓sR_c, ↓s1_r, ↓s1_i, ↓vR_r, ↓vR_n, ↓s0_n, s0_n, ↓oR_u, ↓sP_u, ↓sPa_0, ↓sPa_S, ↓lkC_c, ↓callK_u, ↓cQ_s, ↓cQ_n, putL, putW, clr, kil, catS, catN, refF, booF, finF, nF, nmOf_0, nmOf_1, nmOf_2, nmOf_3, nmOf_4, nmOf_5, nmOf_6, nmOf_50, nmOf_51, nmOf_52, ↓reduceIte, reduceIte, Bool.false_eq_true, eq_self, true_or, or_true, true_and, and_true, false_or, or_false, Nat.reduceAdd, Nat.reduceSub, Nat.reduceEqDiff, Nat.reduceLT, Nat.reduceLeDiff, reduceCtorEq, true_implies, List.length_cons, List.length_nil, List.replicate, List.cons_append, List.nil_append, mrt_X4_hourAt, mhh_X4_hourAt, mow_X4_hourAt, mnl_X4_hourAt, DX4_hourAt_0, DX4_hourAt_1, DX4_hourAt_2, DX4_hourAt_5, DX4_hourAt_8, DX4_hourAt_11, DX4_hourAt_12, DX4_hourAt_15, DX4_hourAt_16, DX4_hourAt_19, DX4_hourAt_22, ce_Jx4a65c_size_8abf5, ↓ct_Jx4a65c_size_8abf5, ycl_Jx4a65c_size_8abf5, ce_X4_needIndex_t, ↓ct_X4_needIndex_t, ycl_X4_needIndex, ce_Jx4a65c_get_915e3, ↓ct_Jx4a65c_get_915e3, ycl_Jx4a65c_get_915e3, cX_nil mhh_X4_hourAt]
  simp (disch := omega) only [i32_lit, i32_neg, i32_add, i32_mul, i32_sub, i32_nI, i32_lt, i32_le, i32_eq, inR_i, i32_clamp, i32_div, i32_max, i32_min, ite_max, ite_min, b2i_0, b2i_1, b2i_01, i32_toInt, tn_i, Int.toNat_natCast, em_t, true_and, and_true, Int.reduceToNat, Int.reduceLE, Int.reduceLT, Int.reduceAdd, Int.reduceMul, Int.reduceSub, Int.reduceNeg, Int.reduceEq, true_implies, not_true_eq_false, false_implies, not_false_eq_true, kC, rC0, rC1, rC2, rC3, rC4, kQ, rQ0, rQ1, kV, lV, kG, lG, kP, lP, kT, lT, LB1, LB2, LB3, LH1, LH2, LH3, LL1, LL2, LL3, dDy, dEv, true_and, and_true, Option.some.injEq, exists_eq_left', nmOf_0, nmOf_1, nmOf_2, nmOf_3, nmOf_4, nmOf_5, nmOf_6, Nat.add_sub_cancel, Nat.reduceSub, Nat.reduceLT, Nat.reduceEqDiff, ne_eq, not_false_eq_true, kH, rH5, rH6, rH7, rH8, rH12, kH4, lH4, kH5, lH5, kH6, lH6, kH7, lH7, eH0, eH1, eH2, eH3, qH, kqH, lqH]
  exact ⟨by omega, by omega, by omega, hq⟩
/-! the hours, measured and allotted -/
def WK (D : WD) : Nat → Prop := fun a => a = D 0 8 ∨ ∃ r, r < 12 ∧ (a = D 2 r ∨ a = D 4 r ∨ a = D 5 r ∨ a = D 6 r ∨ a = D 7 r)
theorem FH.fr {h h' : Hp} {D : WD} {r : Nat} (f : FH h h' D r) (hr : r < 12) : Fr h h' (WK D) := fun a _ => by
  obtain ⟨g1, g2, g3, g4, g5, g6, g7⟩ := f
  refine ⟨⟨g1 a, g4 a⟩, fun q => ⟨fun c k => g2 c k a (fun z => q (Or.inr ⟨r, hr, Or.inl z.2.1⟩)), fun c k => g3 c k a, fun i => g5 a i (fun z => q (Or.inl z)) (fun z => q (Or.inr ⟨r, hr, Or.inr (Or.inl z)⟩)) (fun z => q (Or.inr ⟨r, hr, Or.inr (Or.inr (Or.inl z))⟩)) (fun z => q (Or.inr ⟨r, hr, Or.inr (Or.inr (Or.inr (Or.inl z)))⟩)) (fun z => q (Or.inr ⟨r, hr, Or.inr (Or.inr (Or.inr (Or.inr z)))⟩)), fun i => g6 a i, fun i => g7 a i⟩⟩
def ct_X4_measuredHour (G : GT) (D : WD) (S : SS) : Ct := fun As h Q _ => sR As fun c r => sI r fun i r => s0 r (CI G h D S ∧ c = D 0 0 ∧ (0 ≤ i.toInt ∧ i.toInt < 12) ∧ ∀ h', Fr h h' (WK D) → CI G h' D S → HM h' D S (tn i) → Q (some (.ref (D 2 (tn i)))) h')
def ce_X4_measuredHour (G : GT) (D : WD) (S : SS) : CE := (0, yX4_measuredHour, MX4_measuredHour, 1, 9, 0, 0, ct_X4_measuredHour G D S)
set_option maxRecDepth 100000 in
set_option maxHeartbeats 4000000 in
theorem tl_X4_measuredHour (G : GT) {D : WD} {S : SS} (hW : WF S) {h : Hp} {r : Nat} {v : Int32} {bb : Nat × Nat} {Q : Option Value → Hp → Prop} {QX : String → Hp → Prop} (hr : r < 12) (hI : CI G h D S) (hq : ∀ h', Fr h h' (WK D) → CI G h' D S → HM h' D S r → Q (some (.ref (D 2 r))) h') :
    Wp G MX4_measuredHour false 9 Q QX 5 [some (.ref (D 0 0)), some (.int v), none] [.ref (D 2 r)] h bb := by
  have hD := hI.cd
  have hD0 := hD
  have hH := hI.2.2 r hr
  refine Wp.z ?_
  have hA0 := hD.1
  have hB0 := hD.2
  obtain ⟨⟨kC, rC0, rC1, rC2, rC3, rC4⟩, ⟨kQ, rQ0, rQ1⟩, ⟨kV, lV⟩, ⟨kG, lG⟩, ⟨kP, lP⟩, ⟨kT, lT⟩, ⟨⟨LB1, LB2, LB3, LB4, LB5, LB6, LB7⟩, ⟨LH1, LH2, LH3, LH4, LH5, LH6, LH7⟩, ⟨LL1, LL2, LL3, LL4, LL5, LL6, LL7⟩⟩, hKB, hHA, hKL, hCJ⟩ := hA0
  obtain ⟨dDy, dEv, dG, dP, dV, dB, dL, dH⟩ := hB0
  have hnb := hW.1
  have hnl := hW.2.1
  obtain ⟨kH, ⟨rH5, rH6, rH7, rH8, rH12⟩, ⟨kH4, lH4⟩, ⟨kH5, lH5⟩, ⟨kH6, lH6⟩, ⟨kH7, lH7⟩⟩ := hHA r hr
  obtain ⟨eH0, eH1, eH2, eH3⟩ := dH r hr
  have qH := LH7 r hr
  obtain ⟨kqH, lqH⟩ := LH6 (by omega)
  obtain ⟨vH0, vH0', vH1, vH1', -, vH2, vH2'⟩ := hW.2.2.2.2.1 r hr
  rcases hH.1 with e | e
  · refine wpW (cs := [(106, ce_X4_hourAt G D S), (298, ce_X1_measure G D S)]) (stop := []) (n := 200) (env_cons (ceV (by decide +kernel) ⟨by decide, by decide, by decide +kernel⟩ (by decide) rfl (ok_X4_hourAt G G D S hW)) (env_cons (ceV (by decide +kernel) ⟨by decide, by decide, by decide +kernel⟩ (by decide) rfl (ok_X1_measure G G D S hW)) (env_nil0 (env_hh rfl)))) ?_
    simp only [↓wpN_S, ↓step_u, ↓stC_s, stC_s, ↓stF_u, stF_u, ↓stepI, lenI, ↓kN_u, isS, ↓gI_0, ↓gI_S, ↓gL_0, ↓gL_S, ↓gD_0, ↓gD_S, ↓gR_0, ↓gR_S, ↓sI_c, ↓sL_c, ↓sD_c, ↓sR_c, ↓s1_r, ↓s1_i, ↓vR_r, ↓vR_n, ↓s0_n, s0_n, ↓oR_u, ↓sP_u, ↓sPa_0, ↓sPa_S, ↓lkC_c, ↓callK_u, ↓cQ_s, ↓cQ_n, putL, putW, clr, kil, catS, catN, refF, booF, finF, nF, nmOf_0, nmOf_1, nmOf_2, nmOf_3, nmOf_4, nmOf_5, nmOf_6, nmOf_50, nmOf_51, nmOf_52, ↓reduceIte, reduceIte, Bool.false_eq_true, eq_self, true_or, or_true, true_and, and_true, false_or, or_false, Nat.reduceAdd, Nat.reduceSub, Nat.reduceEqDiff, Nat.reduceLT, Nat.reduceLeDiff, reduceCtorEq, true_implies, List.length_cons, List.length_nil, List.replicate, List.cons_append, List.nil_append, mrt_X4_measuredHour, mhh_X4_measuredHour, mow_X4_measuredHour, mnl_X4_measuredHour, DX4_measuredHour_0, DX4_measuredHour_1, DX4_measuredHour_2, DX4_measuredHour_5, DX4_measuredHour_6, DX4_measuredHour_7, DX4_measuredHour_10, DX4_measuredHour_13, DX4_measuredHour_14, DX4_measuredHour_15, DX4_measuredHour_18, DX4_measuredHour_21, DX4_measuredHour_22, ce_X4_hourAt, ↓ct_X4_hourAt, ycl_X4_hourAt, ce_X1_measure, ↓ct_X1_measure, ycl_X1_measure, cX_nil mhh_X4_measuredHour]
    simp (disch := omega) only [i32_lit, i32_neg, i32_add, i32_mul, i32_sub, i32_nI, i32_lt, i32_le, i32_eq, inR_i, i32_clamp, i32_div, i32_max, i32_min, ite_max, ite_min, b2i_0, b2i_1, b2i_01, i32_toInt, tn_i, Int.toNat_natCast, em_t, true_and, and_true, Int.reduceToNat, Int.reduceLE, Int.reduceLT, Int.reduceAdd, Int.reduceMul, Int.reduceSub, Int.reduceNeg, Int.reduceEq, true_implies, not_true_eq_false, false_implies, not_false_eq_true, kC, rC0, rC1, rC2, rC3, rC4, kQ, rQ0, rQ1, kV, lV, kG, lG, kP, lP, kT, lT, LB1, LB2, LB3, LH1, LH2, LH3, LL1, LL2, LL3, dDy, dEv, true_and, and_true, Option.some.injEq, exists_eq_left', nmOf_0, nmOf_1, nmOf_2, nmOf_3, nmOf_4, nmOf_5, nmOf_6, Nat.add_sub_cancel, Nat.reduceSub, Nat.reduceLT, Nat.reduceEqDiff, ne_eq, not_false_eq_true, kH, rH5, rH6, rH7, rH8, rH12, kH4, lH4, kH5, lH5, kH6, lH6, kH7, lH7, eH0, eH1, eH2, eH3, qH, kqH, lqH, e, hD0]
    refine ⟨r, hr, rfl, fun h' g1 g2 g3 g4 => ?_⟩
    have e11 : ¬ fi h 2 11 (D 2 r) = i32 1 := fun z => by
      have := (hH.2.2.2 z).1
      rw [e, i32_eq (by omega) (by omega)] at this
      omega
    have g11 := g2 11 (by omega) (by omega) (by omega)
    exact hq h' (g1.fr hr) (hI.fh hr g1 ⟨Or.inr g3, by rw [g11]; exact hH.2.1, fun _ => g4, fun z => absurd (g11.symm.trans z) e11⟩) g4
  · have hz := hq h Fr.rf hI (hH.2.2.1 e)
    refine wpW (cs := [(106, ce_X4_hourAt G D S), (298, ce_X1_measure G D S)]) (stop := []) (n := 200) (env_cons (ceV (by decide +kernel) ⟨by decide, by decide, by decide +kernel⟩ (by decide) rfl (ok_X4_hourAt G G D S hW)) (env_cons (ceV (by decide +kernel) ⟨by decide, by decide, by decide +kernel⟩ (by decide) rfl (ok_X1_measure G G D S hW)) (env_nil0 (env_hh rfl)))) ?_
    simp only [↓wpN_S, ↓step_u, ↓stC_s, stC_s, ↓stF_u, stF_u, ↓stepI, lenI, ↓kN_u, isS, ↓gI_0, ↓gI_S, ↓gL_0, ↓gL_S, ↓gD_0, ↓gD_S, ↓gR_0, ↓gR_S, ↓sI_c, ↓sL_c, ↓sD_c, ↓sR_c, ↓s1_r, ↓s1_i, ↓vR_r, ↓vR_n, ↓s0_n, s0_n, ↓oR_u, ↓sP_u, ↓sPa_0, ↓sPa_S, ↓lkC_c, ↓callK_u, ↓cQ_s, ↓cQ_n, putL, putW, clr, kil, catS, catN, refF, booF, finF, nF, nmOf_0, nmOf_1, nmOf_2, nmOf_3, nmOf_4, nmOf_5, nmOf_6, nmOf_50, nmOf_51, nmOf_52, ↓reduceIte, reduceIte, Bool.false_eq_true, eq_self, true_or, or_true, true_and, and_true, false_or, or_false, Nat.reduceAdd, Nat.reduceSub, Nat.reduceEqDiff, Nat.reduceLT, Nat.reduceLeDiff, reduceCtorEq, true_implies, List.length_cons, List.length_nil, List.replicate, List.cons_append, List.nil_append, mrt_X4_measuredHour, mhh_X4_measuredHour, mow_X4_measuredHour, mnl_X4_measuredHour, DX4_measuredHour_0, DX4_measuredHour_1, DX4_measuredHour_2, DX4_measuredHour_5, DX4_measuredHour_6, DX4_measuredHour_7, DX4_measuredHour_10, DX4_measuredHour_13, DX4_measuredHour_14, DX4_measuredHour_15, DX4_measuredHour_18, DX4_measuredHour_21, DX4_measuredHour_22, ce_X4_hourAt, ↓ct_X4_hourAt, ycl_X4_hourAt, ce_X1_measure, ↓ct_X1_measure, ycl_X1_measure, cX_nil mhh_X4_measuredHour]
    simp (disch := omega) only [i32_lit, i32_neg, i32_add, i32_mul, i32_sub, i32_nI, i32_lt, i32_le, i32_eq, inR_i, i32_clamp, i32_div, i32_max, i32_min, ite_max, ite_min, b2i_0, b2i_1, b2i_01, i32_toInt, tn_i, Int.toNat_natCast, em_t, true_and, and_true, Int.reduceToNat, Int.reduceLE, Int.reduceLT, Int.reduceAdd, Int.reduceMul, Int.reduceSub, Int.reduceNeg, Int.reduceEq, true_implies, not_true_eq_false, false_implies, not_false_eq_true, kC, rC0, rC1, rC2, rC3, rC4, kQ, rQ0, rQ1, kV, lV, kG, lG, kP, lP, kT, lT, LB1, LB2, LB3, LH1, LH2, LH3, LL1, LL2, LL3, dDy, dEv, true_and, and_true, Option.some.injEq, exists_eq_left', nmOf_0, nmOf_1, nmOf_2, nmOf_3, nmOf_4, nmOf_5, nmOf_6, Nat.add_sub_cancel, Nat.reduceSub, Nat.reduceLT, Nat.reduceEqDiff, ne_eq, not_false_eq_true, kH, rH5, rH6, rH7, rH8, rH12, kH4, lH4, kH5, lH5, kH6, lH6, kH7, lH7, eH0, eH1, eH2, eH3, qH, kqH, lqH, e, hD0]
    exact hz
set_option maxRecDepth 100000 in
set_option maxHeartbeats 4000000 in
theorem ok_X4_measuredHour (G : GT) (G : GT) (D : WD) (S : SS) (hW : WF S) : OKm G yX4_measuredHour MX4_measuredHour 9 0 0 (ct_X4_measuredHour G D S) := by
  refine mkOK (ini := false) (by decide) rfl (by first | exact fun _ => rfl | (intro hh; cases hh)) (fun As h Q QX hc => ?_)
  replace hc := sR_e hc; obtain ⟨c, r, rfl, hc⟩ := hc
  replace hc := sI_e hc; obtain ⟨i, r, rfl, hc⟩ := hc
  replace hc := s0_e hc; obtain ⟨rfl, hc⟩ := hc
  obtain ⟨hI, rfl, hi, hq⟩ := hc
  obtain ⟨iV, hiV, rfl⟩ := i32_all i
  rw [i32_toInt hiV] at hi
  rw [tn_i hiV] at hq
  obtain ⟨r, rfl⟩ := Int.eq_ofNat_of_zero_le hi.1
  rw [Int.toNat_natCast] at hq
  have hD := hI.cd
  have hD0 := hD
  have hz := tl_X4_measuredHour (Q := Q) (QX := QX) (v := i32 r) (bb := (0, 0)) G hW (by omega) hI hq
  have hA0 := hD.1
  have hB0 := hD.2
  obtain ⟨⟨kC, rC0, rC1, rC2, rC3, rC4⟩, ⟨kQ, rQ0, rQ1⟩, ⟨kV, lV⟩, ⟨kG, lG⟩, ⟨kP, lP⟩, ⟨kT, lT⟩, ⟨⟨LB1, LB2, LB3, LB4, LB5, LB6, LB7⟩, ⟨LH1, LH2, LH3, LH4, LH5, LH6, LH7⟩, ⟨LL1, LL2, LL3, LL4, LL5, LL6, LL7⟩⟩, hKB, hHA, hKL, hCJ⟩ := hA0
  obtain ⟨dDy, dEv, dG, dP, dV, dB, dL, dH⟩ := hB0
  have hnb := hW.1
  have hnl := hW.2.1
  refine ⟨Nat.le_of_ble_eq_true rfl, ?_⟩
  simp only [ent, entL, catN, List.length_cons, List.length_nil, List.replicate, List.cons_append, List.nil_append, reduceIte, Nat.reduceEqDiff,  Nat.reduceAdd, Nat.reduceSub, mnl_X4_measuredHour]
  refine wpW (cs := [(106, ce_X4_hourAt G D S), (298, ce_X1_measure G D S)]) (stop := [5]) (n := 200) (env_cons (ceV (by decide +kernel) ⟨by decide, by decide, by decide +kernel⟩ (by decide) rfl (ok_X4_hourAt G G D S hW)) (env_cons (ceV (by decide +kernel) ⟨by decide, by decide, by decide +kernel⟩ (by decide) rfl (ok_X1_measure G G D S hW)) (env_nil0 (env_hh rfl)))) ?_
  simp only [↓wpN_S, ↓step_u, ↓stC_s, stC_s, ↓stF_u, stF_u, ↓stepI, lenI, ↓kN_u, isS, ↓gI_0, ↓gI_S, ↓gL_0, ↓gL_S, ↓gD_0, ↓gD_S, ↓gR_0, ↓gR_S, ↓sI_c, ↓sL_c, ↓sD_c, ↓sR_c, ↓s1_r, ↓s1_i, ↓vR_r, ↓vR_n, ↓s0_n, s0_n, ↓oR_u, ↓sP_u, ↓sPa_0, ↓sPa_S, ↓lkC_c, ↓callK_u, ↓cQ_s, ↓cQ_n, putL, putW, clr, kil, catS, catN, refF, booF, finF, nF, nmOf_0, nmOf_1, nmOf_2, nmOf_3, nmOf_4, nmOf_5, nmOf_6, nmOf_50, nmOf_51, nmOf_52, ↓reduceIte, reduceIte, Bool.false_eq_true, eq_self, true_or, or_true, true_and, and_true, false_or, or_false, Nat.reduceAdd, Nat.reduceSub, Nat.reduceEqDiff, Nat.reduceLT, Nat.reduceLeDiff, reduceCtorEq, true_implies, List.length_cons, List.length_nil, List.replicate, List.cons_append, List.nil_append, mrt_X4_measuredHour, mhh_X4_measuredHour, mow_X4_measuredHour, mnl_X4_measuredHour, DX4_measuredHour_0, DX4_measuredHour_1, DX4_measuredHour_2, DX4_measuredHour_5, DX4_measuredHour_6, DX4_measuredHour_7, DX4_measuredHour_10, DX4_measuredHour_13, DX4_measuredHour_14, DX4_measuredHour_15, DX4_measuredHour_18, DX4_measuredHour_21, DX4_measuredHour_22, ce_X4_hourAt, ↓ct_X4_hourAt, ycl_X4_hourAt, ce_X1_measure, ↓ct_X1_measure, ycl_X1_measure, cX_nil mhh_X4_measuredHour]
  simp (disch := omega) only [i32_lit, i32_neg, i32_add, i32_mul, i32_sub, i32_nI, i32_lt, i32_le, i32_eq, inR_i, i32_clamp, i32_div, i32_max, i32_min, ite_max, ite_min, b2i_0, b2i_1, b2i_01, i32_toInt, tn_i, Int.toNat_natCast, em_t, true_and, and_true, Int.reduceToNat, Int.reduceLE, Int.reduceLT, Int.reduceAdd, Int.reduceMul, Int.reduceSub, Int.reduceNeg, Int.reduceEq, true_implies, not_true_eq_false, false_implies, not_false_eq_true, kC, rC0, rC1, rC2, rC3, rC4, kQ, rQ0, rQ1, kV, lV, kG, lG, kP, lP, kT, lT, LB1, LB2, LB3, LH1, LH2, LH3, LL1, LL2, LL3, dDy, dEv, true_and, and_true, Option.some.injEq, exists_eq_left', nmOf_0, nmOf_1, nmOf_2, nmOf_3, nmOf_4, nmOf_5, nmOf_6, Nat.add_sub_cancel, Nat.reduceSub, Nat.reduceLT, Nat.reduceEqDiff, ne_eq, not_false_eq_true, hD0]
  exact ⟨by omega, hz⟩
def ct_X4_measuredHour_t (G : GT) (D : WD) (S : SS) : Ct := fun As h Q QX => sR As fun c r => sI r fun i r => s0 r (CI G h D S ∧ c = D 0 0 ∧ (0 ≤ i.toInt ∧ i.toInt < 12 → ∀ h', Fr h h' (WK D) → CI G h' D S → HM h' D S (tn i) → Q (some (.ref (D 2 (tn i)))) h') ∧ (¬ (0 ≤ i.toInt ∧ i.toInt < 12) → QX IOB h))
def ce_X4_measuredHour_t (G : GT) (D : WD) (S : SS) : CE := (0, yX4_measuredHour, MX4_measuredHour, 1, 9, 1, 6, ct_X4_measuredHour_t G D S)
set_option maxRecDepth 100000 in
set_option maxHeartbeats 4000000 in
theorem ok_X4_measuredHour_t (G : GT) (G : GT) (D : WD) (S : SS) (hW : WF S) : OKm G yX4_measuredHour MX4_measuredHour 9 1 6 (ct_X4_measuredHour_t G D S) := by
  refine mkOK (ini := false) (by decide) rfl (by first | exact fun _ => rfl | (intro hh; cases hh)) (fun As h Q QX hc => ?_)
  replace hc := sR_e hc; obtain ⟨c, r, rfl, hc⟩ := hc
  replace hc := sI_e hc; obtain ⟨i, r, rfl, hc⟩ := hc
  replace hc := s0_e hc; obtain ⟨rfl, hc⟩ := hc
  obtain ⟨hI, rfl, hq, hx⟩ := hc
  obtain ⟨iV, hiV, rfl⟩ := i32_all i
  rw [i32_toInt hiV] at hq hx
  rw [tn_i hiV] at hq
  have hD := hI.cd
  have hD0 := hD
  have hA0 := hD.1
  have hB0 := hD.2
  obtain ⟨⟨kC, rC0, rC1, rC2, rC3, rC4⟩, ⟨kQ, rQ0, rQ1⟩, ⟨kV, lV⟩, ⟨kG, lG⟩, ⟨kP, lP⟩, ⟨kT, lT⟩, ⟨⟨LB1, LB2, LB3, LB4, LB5, LB6, LB7⟩, ⟨LH1, LH2, LH3, LH4, LH5, LH6, LH7⟩, ⟨LL1, LL2, LL3, LL4, LL5, LL6, LL7⟩⟩, hKB, hHA, hKL, hCJ⟩ := hA0
  obtain ⟨dDy, dEv, dG, dP, dV, dB, dL, dH⟩ := hB0
  have hnb := hW.1
  have hnl := hW.2.1
  refine ⟨Nat.le_of_ble_eq_true rfl, ?_⟩
  simp only [ent, entL, catN, List.length_cons, List.length_nil, List.replicate, List.cons_append, List.nil_append, reduceIte, Nat.reduceEqDiff,  Nat.reduceAdd, Nat.reduceSub, mnl_X4_measuredHour]
  refine wpW (cs := [(106, ce_X4_hourAt_t G D S), (298, ce_X1_measure G D S)]) (stop := [5]) (n := 200) (env_cons (ceV (by decide +kernel) ⟨by decide, by decide, by decide +kernel⟩ (by decide) rfl (ok_X4_hourAt_t G G D S hW)) (env_cons (ceV (by decide +kernel) ⟨by decide, by decide, by decide +kernel⟩ (by decide) rfl (ok_X1_measure G G D S hW)) (env_nil0 (env_hh rfl)))) ?_
  simp only [↓wpN_S, ↓step_u, ↓stC_s, stC_s, ↓stF_u, stF_u, ↓stepI, lenI, ↓kN_u, isS, ↓gI_0, ↓gI_S, ↓gL_0, ↓gL_S, ↓gD_0, ↓gD_S, ↓gR_0, ↓gR_S, ↓sI_c, ↓sL_c, ↓sD_c, ↓sR_c, ↓s1_r, ↓s1_i, ↓vR_r, ↓vR_n, ↓s0_n, s0_n, ↓oR_u, ↓sP_u, ↓sPa_0, ↓sPa_S, ↓lkC_c, ↓callK_u, ↓cQ_s, ↓cQ_n, putL, putW, clr, kil, catS, catN, refF, booF, finF, nF, nmOf_0, nmOf_1, nmOf_2, nmOf_3, nmOf_4, nmOf_5, nmOf_6, nmOf_50, nmOf_51, nmOf_52, ↓reduceIte, reduceIte, Bool.false_eq_true, eq_self, true_or, or_true, true_and, and_true, false_or, or_false, Nat.reduceAdd, Nat.reduceSub, Nat.reduceEqDiff, Nat.reduceLT, Nat.reduceLeDiff, reduceCtorEq, true_implies, List.length_cons, List.length_nil, List.replicate, List.cons_append, List.nil_append, mrt_X4_measuredHour, mhh_X4_measuredHour, mow_X4_measuredHour, mnl_X4_measuredHour, DX4_measuredHour_0, DX4_measuredHour_1, DX4_measuredHour_2, DX4_measuredHour_5, DX4_measuredHour_6, DX4_measuredHour_7, DX4_measuredHour_10, DX4_measuredHour_13, DX4_measuredHour_14, DX4_measuredHour_15, DX4_measuredHour_18, DX4_measuredHour_21, DX4_measuredHour_22, ce_X4_hourAt_t, ↓ct_X4_hourAt_t, ycl_X4_hourAt, ce_X1_measure, ↓ct_X1_measure, ycl_X1_measure, cX_nil mhh_X4_measuredHour]
  simp (disch := omega) only [i32_lit, i32_neg, i32_add, i32_mul, i32_sub, i32_nI, i32_lt, i32_le, i32_eq, inR_i, i32_clamp, i32_div, i32_max, i32_min, ite_max, ite_min, b2i_0, b2i_1, b2i_01, i32_toInt, tn_i, Int.toNat_natCast, em_t, true_and, and_true, Int.reduceToNat, Int.reduceLE, Int.reduceLT, Int.reduceAdd, Int.reduceMul, Int.reduceSub, Int.reduceNeg, Int.reduceEq, true_implies, not_true_eq_false, false_implies, not_false_eq_true, kC, rC0, rC1, rC2, rC3, rC4, kQ, rQ0, rQ1, kV, lV, kG, lG, kP, lP, kT, lT, LB1, LB2, LB3, LH1, LH2, LH3, LL1, LL2, LL3, dDy, dEv, true_and, and_true, Option.some.injEq, exists_eq_left', nmOf_0, nmOf_1, nmOf_2, nmOf_3, nmOf_4, nmOf_5, nmOf_6, Nat.add_sub_cancel, Nat.reduceSub, Nat.reduceLT, Nat.reduceEqDiff, ne_eq, not_false_eq_true, hD0]
  refine ⟨fun hi => ?_, fun z => hx z⟩
  obtain ⟨r, rfl⟩ := Int.eq_ofNat_of_zero_le hi.1
  replace hq := hq hi
  rw [Int.toNat_natCast] at hq
  exact tl_X4_measuredHour (Q := Q) (QX := QX) (v := i32 r) G hW (by omega) hI hq
def ct_X4_allottedHour (G : GT) (D : WD) (S : SS) : Ct := fun As h Q _ => sR As fun c r => sI r fun i r => s0 r (CI G h D S ∧ c = D 0 0 ∧ (0 ≤ i.toInt ∧ i.toInt < 12) ∧ ∀ h', Fr h h' (WK D) → CI G h' D S → HM h' D S (tn i) → HL h' D S (tn i) → Q (some (.ref (D 2 (tn i)))) h')
def ce_X4_allottedHour (G : GT) (D : WD) (S : SS) : CE := (0, yX4_allottedHour, MX4_allottedHour, 1, 9, 0, 0, ct_X4_allottedHour G D S)
set_option maxRecDepth 100000 in
set_option maxHeartbeats 4000000 in
theorem tl_X4_allottedHour21 (G : GT) {D : WD} {S : SS} (hW : WF S) {h : Hp} {r : Nat} {v : Int32} {Q : Option Value → Hp → Prop} {QX : String → Hp → Prop} (hr : r < 12) (hI : CI G h D S) (h4 : fi h 2 4 (D 2 r) = i32 1) (hq : ∀ h', Fr h h' (WK D) → CI G h' D S → HM h' D S r → HL h' D S r → Q (some (.ref (D 2 r))) h') :
    Wp G MX4_allottedHour false 9 Q QX 21 [some (.ref (D 0 0)), some (.int v), some (.ref (D 2 r))] [] h (0, 0) := by
  have hD := hI.cd
  have hD0 := hD
  have hH := hI.2.2 r hr
  have hM := hH.2.2.1 h4
  have hA0 := hD.1
  have hB0 := hD.2
  obtain ⟨⟨kC, rC0, rC1, rC2, rC3, rC4⟩, ⟨kQ, rQ0, rQ1⟩, ⟨kV, lV⟩, ⟨kG, lG⟩, ⟨kP, lP⟩, ⟨kT, lT⟩, ⟨⟨LB1, LB2, LB3, LB4, LB5, LB6, LB7⟩, ⟨LH1, LH2, LH3, LH4, LH5, LH6, LH7⟩, ⟨LL1, LL2, LL3, LL4, LL5, LL6, LL7⟩⟩, hKB, hHA, hKL, hCJ⟩ := hA0
  obtain ⟨dDy, dEv, dG, dP, dV, dB, dL, dH⟩ := hB0
  have hnb := hW.1
  have hnl := hW.2.1
  obtain ⟨kH, ⟨rH5, rH6, rH7, rH8, rH12⟩, ⟨kH4, lH4⟩, ⟨kH5, lH5⟩, ⟨kH6, lH6⟩, ⟨kH7, lH7⟩⟩ := hHA r hr
  obtain ⟨eH0, eH1, eH2, eH3⟩ := dH r hr
  have qH := LH7 r hr
  obtain ⟨kqH, lqH⟩ := LH6 (by omega)
  obtain ⟨vH0, vH0', vH1, vH1', -, vH2, vH2'⟩ := hW.2.2.2.2.1 r hr
  rcases hH.2.1 with e | e
  · refine wpW (cs := [(106, ce_X4_hourAt G D S), (298, ce_X1_measure G D S), (305, ce_X1_allot G D S)]) (stop := []) (n := 200) (env_cons (ceV (by decide +kernel) ⟨by decide, by decide, by decide +kernel⟩ (by decide) rfl (ok_X4_hourAt G G D S hW)) (env_cons (ceV (by decide +kernel) ⟨by decide, by decide, by decide +kernel⟩ (by decide) rfl (ok_X1_measure G G D S hW)) (env_cons (ceV (by decide +kernel) ⟨by decide, by decide, by decide +kernel⟩ (by decide) rfl (ok_X1_allot G G D S hW)) (env_nil0 (env_hh rfl))))) ?_
    simp only [↓wpN_S, ↓step_u, ↓stC_s, stC_s, ↓stF_u, stF_u, ↓stepI, lenI, ↓kN_u, isS, ↓gI_0, ↓gI_S, ↓gL_0, ↓gL_S, ↓gD_0, ↓gD_S, ↓gR_0, ↓gR_S, ↓sI_c, ↓sL_c, ↓sD_c, ↓sR_c, ↓s1_r, ↓s1_i, ↓vR_r, ↓vR_n, ↓s0_n, s0_n, ↓oR_u, ↓sP_u, ↓sPa_0, ↓sPa_S, ↓lkC_c, ↓callK_u, ↓cQ_s, ↓cQ_n, putL, putW, clr, kil, catS, catN, refF, booF, finF, nF, nmOf_0, nmOf_1, nmOf_2, nmOf_3, nmOf_4, nmOf_5, nmOf_6, nmOf_50, nmOf_51, nmOf_52, ↓reduceIte, reduceIte, Bool.false_eq_true, eq_self, true_or, or_true, true_and, and_true, false_or, or_false, Nat.reduceAdd, Nat.reduceSub, Nat.reduceEqDiff, Nat.reduceLT, Nat.reduceLeDiff, reduceCtorEq, true_implies, List.length_cons, List.length_nil, List.replicate, List.cons_append, List.nil_append, mrt_X4_allottedHour, mhh_X4_allottedHour, mow_X4_allottedHour, mnl_X4_allottedHour, DX4_allottedHour_0, DX4_allottedHour_1, DX4_allottedHour_2, DX4_allottedHour_5, DX4_allottedHour_6, DX4_allottedHour_7, DX4_allottedHour_10, DX4_allottedHour_13, DX4_allottedHour_14, DX4_allottedHour_15, DX4_allottedHour_18, DX4_allottedHour_21, DX4_allottedHour_22, DX4_allottedHour_25, DX4_allottedHour_28, DX4_allottedHour_29, DX4_allottedHour_30, DX4_allottedHour_33, DX4_allottedHour_36, DX4_allottedHour_37, ce_X4_hourAt, ↓ct_X4_hourAt, ycl_X4_hourAt, ce_X1_measure, ↓ct_X1_measure, ycl_X1_measure, ce_X1_allot, ↓ct_X1_allot, ycl_X1_allot, cX_nil mhh_X4_allottedHour]
    simp (disch := omega) only [i32_lit, i32_neg, i32_add, i32_mul, i32_sub, i32_nI, i32_lt, i32_le, i32_eq, inR_i, i32_clamp, i32_div, i32_max, i32_min, ite_max, ite_min, b2i_0, b2i_1, b2i_01, i32_toInt, tn_i, Int.toNat_natCast, em_t, true_and, and_true, Int.reduceToNat, Int.reduceLE, Int.reduceLT, Int.reduceAdd, Int.reduceMul, Int.reduceSub, Int.reduceNeg, Int.reduceEq, true_implies, not_true_eq_false, false_implies, not_false_eq_true, kC, rC0, rC1, rC2, rC3, rC4, kQ, rQ0, rQ1, kV, lV, kG, lG, kP, lP, kT, lT, LB1, LB2, LB3, LH1, LH2, LH3, LL1, LL2, LL3, dDy, dEv, true_and, and_true, Option.some.injEq, exists_eq_left', nmOf_0, nmOf_1, nmOf_2, nmOf_3, nmOf_4, nmOf_5, nmOf_6, Nat.add_sub_cancel, Nat.reduceSub, Nat.reduceLT, Nat.reduceEqDiff, ne_eq, not_false_eq_true, kH, rH5, rH6, rH7, rH8, rH12, kH4, lH4, kH5, lH5, kH6, lH6, kH7, lH7, eH0, eH1, eH2, eH3, qH, kqH, lqH, e, hD0]
    refine ⟨r, hr, rfl, hM, fun h' g1 g2 g3 g4 g5 => ?_⟩
    have g4' := g2 4 (by omega) (by omega) (by omega)
    exact hq h' (g1.fr hr) (hI.fh hr g1 ⟨Or.inr (g4'.trans h4), Or.inr g3, fun _ => g4, fun _ => ⟨g4'.trans h4, g5⟩⟩) g4 g5
  · have hz := hq h Fr.rf hI hM (hH.2.2.2 e).2
    refine wpW (cs := [(106, ce_X4_hourAt G D S), (298, ce_X1_measure G D S), (305, ce_X1_allot G D S)]) (stop := []) (n := 200) (env_cons (ceV (by decide +kernel) ⟨by decide, by decide, by decide +kernel⟩ (by decide) rfl (ok_X4_hourAt G G D S hW)) (env_cons (ceV (by decide +kernel) ⟨by decide, by decide, by decide +kernel⟩ (by decide) rfl (ok_X1_measure G G D S hW)) (env_cons (ceV (by decide +kernel) ⟨by decide, by decide, by decide +kernel⟩ (by decide) rfl (ok_X1_allot G G D S hW)) (env_nil0 (env_hh rfl))))) ?_
    simp only [↓wpN_S, ↓step_u, ↓stC_s, stC_s, ↓stF_u, stF_u, ↓stepI, lenI, ↓kN_u, isS, ↓gI_0, ↓gI_S, ↓gL_0, ↓gL_S, ↓gD_0, ↓gD_S, ↓gR_0, ↓gR_S, ↓sI_c, ↓sL_c, ↓sD_c, ↓sR_c, ↓s1_r, ↓s1_i, ↓vR_r, ↓vR_n, ↓s0_n, s0_n, ↓oR_u, ↓sP_u, ↓sPa_0, ↓sPa_S, ↓lkC_c, ↓callK_u, ↓cQ_s, ↓cQ_n, putL, putW, clr, kil, catS, catN, refF, booF, finF, nF, nmOf_0, nmOf_1, nmOf_2, nmOf_3, nmOf_4, nmOf_5, nmOf_6, nmOf_50, nmOf_51, nmOf_52, ↓reduceIte, reduceIte, Bool.false_eq_true, eq_self, true_or, or_true, true_and, and_true, false_or, or_false, Nat.reduceAdd, Nat.reduceSub, Nat.reduceEqDiff, Nat.reduceLT, Nat.reduceLeDiff, reduceCtorEq, true_implies, List.length_cons, List.length_nil, List.replicate, List.cons_append, List.nil_append, mrt_X4_allottedHour, mhh_X4_allottedHour, mow_X4_allottedHour, mnl_X4_allottedHour, DX4_allottedHour_0, DX4_allottedHour_1, DX4_allottedHour_2, DX4_allottedHour_5, DX4_allottedHour_6, DX4_allottedHour_7, DX4_allottedHour_10, DX4_allottedHour_13, DX4_allottedHour_14, DX4_allottedHour_15, DX4_allottedHour_18, DX4_allottedHour_21, DX4_allottedHour_22, DX4_allottedHour_25, DX4_allottedHour_28, DX4_allottedHour_29, DX4_allottedHour_30, DX4_allottedHour_33, DX4_allottedHour_36, DX4_allottedHour_37, ce_X4_hourAt, ↓ct_X4_hourAt, ycl_X4_hourAt, ce_X1_measure, ↓ct_X1_measure, ycl_X1_measure, ce_X1_allot, ↓ct_X1_allot, ycl_X1_allot, cX_nil mhh_X4_allottedHour]
    simp (disch := omega) only [i32_lit, i32_neg, i32_add, i32_mul, i32_sub, i32_nI, i32_lt, i32_le, i32_eq, inR_i, i32_clamp, i32_div, i32_max, i32_min, ite_max, ite_min, b2i_0, b2i_1, b2i_01, i32_toInt, tn_i, Int.toNat_natCast, em_t, true_and, and_true, Int.reduceToNat, Int.reduceLE, Int.reduceLT, Int.reduceAdd, Int.reduceMul, Int.reduceSub, Int.reduceNeg, Int.reduceEq, true_implies, not_true_eq_false, false_implies, not_false_eq_true, kC, rC0, rC1, rC2, rC3, rC4, kQ, rQ0, rQ1, kV, lV, kG, lG, kP, lP, kT, lT, LB1, LB2, LB3, LH1, LH2, LH3, LL1, LL2, LL3, dDy, dEv, true_and, and_true, Option.some.injEq, exists_eq_left', nmOf_0, nmOf_1, nmOf_2, nmOf_3, nmOf_4, nmOf_5, nmOf_6, Nat.add_sub_cancel, Nat.reduceSub, Nat.reduceLT, Nat.reduceEqDiff, ne_eq, not_false_eq_true, kH, rH5, rH6, rH7, rH8, rH12, kH4, lH4, kH5, lH5, kH6, lH6, kH7, lH7, eH0, eH1, eH2, eH3, qH, kqH, lqH, e, hD0]
    exact hz
set_option maxRecDepth 100000 in
set_option maxHeartbeats 4000000 in
theorem tl_X4_allottedHour (G : GT) {D : WD} {S : SS} (hW : WF S) {h : Hp} {r : Nat} {v : Int32} {bb : Nat × Nat} {Q : Option Value → Hp → Prop} {QX : String → Hp → Prop} (hr : r < 12) (hI : CI G h D S) (hq : ∀ h', Fr h h' (WK D) → CI G h' D S → HM h' D S r → HL h' D S r → Q (some (.ref (D 2 r))) h') :
    Wp G MX4_allottedHour false 9 Q QX 5 [some (.ref (D 0 0)), some (.int v), none] [.ref (D 2 r)] h bb := by
  have hD := hI.cd
  have hD0 := hD
  have hH := hI.2.2 r hr
  refine Wp.z ?_
  have hA0 := hD.1
  have hB0 := hD.2
  obtain ⟨⟨kC, rC0, rC1, rC2, rC3, rC4⟩, ⟨kQ, rQ0, rQ1⟩, ⟨kV, lV⟩, ⟨kG, lG⟩, ⟨kP, lP⟩, ⟨kT, lT⟩, ⟨⟨LB1, LB2, LB3, LB4, LB5, LB6, LB7⟩, ⟨LH1, LH2, LH3, LH4, LH5, LH6, LH7⟩, ⟨LL1, LL2, LL3, LL4, LL5, LL6, LL7⟩⟩, hKB, hHA, hKL, hCJ⟩ := hA0
  obtain ⟨dDy, dEv, dG, dP, dV, dB, dL, dH⟩ := hB0
  have hnb := hW.1
  have hnl := hW.2.1
  obtain ⟨kH, ⟨rH5, rH6, rH7, rH8, rH12⟩, ⟨kH4, lH4⟩, ⟨kH5, lH5⟩, ⟨kH6, lH6⟩, ⟨kH7, lH7⟩⟩ := hHA r hr
  obtain ⟨eH0, eH1, eH2, eH3⟩ := dH r hr
  have qH := LH7 r hr
  obtain ⟨kqH, lqH⟩ := LH6 (by omega)
  obtain ⟨vH0, vH0', vH1, vH1', -, vH2, vH2'⟩ := hW.2.2.2.2.1 r hr
  rcases hH.1 with e | e
  · refine wpW (cs := [(106, ce_X4_hourAt G D S), (298, ce_X1_measure G D S), (305, ce_X1_allot G D S)]) (stop := [21]) (n := 200) (env_cons (ceV (by decide +kernel) ⟨by decide, by decide, by decide +kernel⟩ (by decide) rfl (ok_X4_hourAt G G D S hW)) (env_cons (ceV (by decide +kernel) ⟨by decide, by decide, by decide +kernel⟩ (by decide) rfl (ok_X1_measure G G D S hW)) (env_cons (ceV (by decide +kernel) ⟨by decide, by decide, by decide +kernel⟩ (by decide) rfl (ok_X1_allot G G D S hW)) (env_nil0 (env_hh rfl))))) ?_
    simp only [↓wpN_S, ↓step_u, ↓stC_s, stC_s, ↓stF_u, stF_u, ↓stepI, lenI, ↓kN_u, isS, ↓gI_0, ↓gI_S, ↓gL_0, ↓gL_S, ↓gD_0, ↓gD_S, ↓gR_0, ↓gR_S, ↓sI_c, ↓sL_c, ↓sD_c, ↓sR_c, ↓s1_r, ↓s1_i, ↓vR_r, ↓vR_n, ↓s0_n, s0_n, ↓oR_u, ↓sP_u, ↓sPa_0, ↓sPa_S, ↓lkC_c, ↓callK_u, ↓cQ_s, ↓cQ_n, putL, putW, clr, kil, catS, catN, refF, booF, finF, nF, nmOf_0, nmOf_1, nmOf_2, nmOf_3, nmOf_4, nmOf_5, nmOf_6, nmOf_50, nmOf_51, nmOf_52, ↓reduceIte, reduceIte, Bool.false_eq_true, eq_self, true_or, or_true, true_and, and_true, false_or, or_false, Nat.reduceAdd, Nat.reduceSub, Nat.reduceEqDiff, Nat.reduceLT, Nat.reduceLeDiff, reduceCtorEq, true_implies, List.length_cons, List.length_nil, List.replicate, List.cons_append, List.nil_append, mrt_X4_allottedHour, mhh_X4_allottedHour, mow_X4_allottedHour, mnl_X4_allottedHour, DX4_allottedHour_0, DX4_allottedHour_1, DX4_allottedHour_2, DX4_allottedHour_5, DX4_allottedHour_6, DX4_allottedHour_7, DX4_allottedHour_10, DX4_allottedHour_13, DX4_allottedHour_14, DX4_allottedHour_15, DX4_allottedHour_18, DX4_allottedHour_21, DX4_allottedHour_22, DX4_allottedHour_25, DX4_allottedHour_28, DX4_allottedHour_29, DX4_allottedHour_30, DX4_allottedHour_33, DX4_allottedHour_36, DX4_allottedHour_37, ce_X4_hourAt, ↓ct_X4_hourAt, ycl_X4_hourAt, ce_X1_measure, ↓ct_X1_measure, ycl_X1_measure, ce_X1_allot, ↓ct_X1_allot, ycl_X1_allot, cX_nil mhh_X4_allottedHour]
    simp (disch := omega) only [i32_lit, i32_neg, i32_add, i32_mul, i32_sub, i32_nI, i32_lt, i32_le, i32_eq, inR_i, i32_clamp, i32_div, i32_max, i32_min, ite_max, ite_min, b2i_0, b2i_1, b2i_01, i32_toInt, tn_i, Int.toNat_natCast, em_t, true_and, and_true, Int.reduceToNat, Int.reduceLE, Int.reduceLT, Int.reduceAdd, Int.reduceMul, Int.reduceSub, Int.reduceNeg, Int.reduceEq, true_implies, not_true_eq_false, false_implies, not_false_eq_true, kC, rC0, rC1, rC2, rC3, rC4, kQ, rQ0, rQ1, kV, lV, kG, lG, kP, lP, kT, lT, LB1, LB2, LB3, LH1, LH2, LH3, LL1, LL2, LL3, dDy, dEv, true_and, and_true, Option.some.injEq, exists_eq_left', nmOf_0, nmOf_1, nmOf_2, nmOf_3, nmOf_4, nmOf_5, nmOf_6, Nat.add_sub_cancel, Nat.reduceSub, Nat.reduceLT, Nat.reduceEqDiff, ne_eq, not_false_eq_true, kH, rH5, rH6, rH7, rH8, rH12, kH4, lH4, kH5, lH5, kH6, lH6, kH7, lH7, eH0, eH1, eH2, eH3, qH, kqH, lqH, e, hD0]
    refine ⟨r, hr, rfl, fun h' g1 g2 g3 g4 => ?_⟩
    have e11 : ¬ fi h 2 11 (D 2 r) = i32 1 := fun z => by
      have := (hH.2.2.2 z).1
      rw [e, i32_eq (by omega) (by omega)] at this
      omega
    have g11 := g2 11 (by omega) (by omega) (by omega)
    exact tl_X4_allottedHour21 (Q := Q) (QX := QX) G hW hr (hI.fh hr g1 ⟨Or.inr g3, by rw [g11]; exact hH.2.1, fun _ => g4, fun z => absurd (g11.symm.trans z) e11⟩) g3 (fun h'' k1 => hq h'' ((g1.fr hr).tr k1))
  · have hz := tl_X4_allottedHour21 (v := v) (Q := Q) (QX := QX) G hW hr hI e hq
    refine wpW (cs := [(106, ce_X4_hourAt G D S), (298, ce_X1_measure G D S), (305, ce_X1_allot G D S)]) (stop := [21]) (n := 200) (env_cons (ceV (by decide +kernel) ⟨by decide, by decide, by decide +kernel⟩ (by decide) rfl (ok_X4_hourAt G G D S hW)) (env_cons (ceV (by decide +kernel) ⟨by decide, by decide, by decide +kernel⟩ (by decide) rfl (ok_X1_measure G G D S hW)) (env_cons (ceV (by decide +kernel) ⟨by decide, by decide, by decide +kernel⟩ (by decide) rfl (ok_X1_allot G G D S hW)) (env_nil0 (env_hh rfl))))) ?_
    simp only [↓wpN_S, ↓step_u, ↓stC_s, stC_s, ↓stF_u, stF_u, ↓stepI, lenI, ↓kN_u, isS, ↓gI_0, ↓gI_S, ↓gL_0, ↓gL_S, ↓gD_0, ↓gD_S, ↓gR_0, ↓gR_S, ↓sI_c, ↓sL_c, ↓sD_c, ↓sR_c, ↓s1_r, ↓s1_i, ↓vR_r, ↓vR_n, ↓s0_n, s0_n, ↓oR_u, ↓sP_u, ↓sPa_0, ↓sPa_S, ↓lkC_c, ↓callK_u, ↓cQ_s, ↓cQ_n, putL, putW, clr, kil, catS, catN, refF, booF, finF, nF, nmOf_0, nmOf_1, nmOf_2, nmOf_3, nmOf_4, nmOf_5, nmOf_6, nmOf_50, nmOf_51, nmOf_52, ↓reduceIte, reduceIte, Bool.false_eq_true, eq_self, true_or, or_true, true_and, and_true, false_or, or_false, Nat.reduceAdd, Nat.reduceSub, Nat.reduceEqDiff, Nat.reduceLT, Nat.reduceLeDiff, reduceCtorEq, true_implies, List.length_cons, List.length_nil, List.replicate, List.cons_append, List.nil_append, mrt_X4_allottedHour, mhh_X4_allottedHour, mow_X4_allottedHour, mnl_X4_allottedHour, DX4_allottedHour_0, DX4_allottedHour_1, DX4_allottedHour_2, DX4_allottedHour_5, DX4_allottedHour_6, DX4_allottedHour_7, DX4_allottedHour_10, DX4_allottedHour_13, DX4_allottedHour_14, DX4_allottedHour_15, DX4_allottedHour_18, DX4_allottedHour_21, DX4_allottedHour_22, DX4_allottedHour_25, DX4_allottedHour_28, DX4_allottedHour_29, DX4_allottedHour_30, DX4_allottedHour_33, DX4_allottedHour_36, DX4_allottedHour_37, ce_X4_hourAt, ↓ct_X4_hourAt, ycl_X4_hourAt, ce_X1_measure, ↓ct_X1_measure, ycl_X1_measure, ce_X1_allot, ↓ct_X1_allot, ycl_X1_allot, cX_nil mhh_X4_allottedHour]
    simp (disch := omega) only [i32_lit, i32_neg, i32_add, i32_mul, i32_sub, i32_nI, i32_lt, i32_le, i32_eq, inR_i, i32_clamp, i32_div, i32_max, i32_min, ite_max, ite_min, b2i_0, b2i_1, b2i_01, i32_toInt, tn_i, Int.toNat_natCast, em_t, true_and, and_true, Int.reduceToNat, Int.reduceLE, Int.reduceLT, Int.reduceAdd, Int.reduceMul, Int.reduceSub, Int.reduceNeg, Int.reduceEq, true_implies, not_true_eq_false, false_implies, not_false_eq_true, kC, rC0, rC1, rC2, rC3, rC4, kQ, rQ0, rQ1, kV, lV, kG, lG, kP, lP, kT, lT, LB1, LB2, LB3, LH1, LH2, LH3, LL1, LL2, LL3, dDy, dEv, true_and, and_true, Option.some.injEq, exists_eq_left', nmOf_0, nmOf_1, nmOf_2, nmOf_3, nmOf_4, nmOf_5, nmOf_6, Nat.add_sub_cancel, Nat.reduceSub, Nat.reduceLT, Nat.reduceEqDiff, ne_eq, not_false_eq_true, kH, rH5, rH6, rH7, rH8, rH12, kH4, lH4, kH5, lH5, kH6, lH6, kH7, lH7, eH0, eH1, eH2, eH3, qH, kqH, lqH, e, hD0]
    exact hz
set_option maxRecDepth 100000 in
set_option maxHeartbeats 4000000 in
theorem ok_X4_allottedHour (G : GT) (G : GT) (D : WD) (S : SS) (hW : WF S) : OKm G yX4_allottedHour MX4_allottedHour 9 0 0 (ct_X4_allottedHour G D S) := by
  refine mkOK (ini := false) (by decide) rfl (by first | exact fun _ => rfl | (intro hh; cases hh)) (fun As h Q QX hc => ?_)
  replace hc := sR_e hc; obtain ⟨c, r, rfl, hc⟩ := hc
  replace hc := sI_e hc; obtain ⟨i, r, rfl, hc⟩ := hc
  replace hc := s0_e hc; obtain ⟨rfl, hc⟩ := hc
  obtain ⟨hI, rfl, hi, hq⟩ := hc
  obtain ⟨iV, hiV, rfl⟩ := i32_all i
  rw [i32_toInt hiV] at hi
  rw [tn_i hiV] at hq
  obtain ⟨r, rfl⟩ := Int.eq_ofNat_of_zero_le hi.1
  rw [Int.toNat_natCast] at hq
  have hD := hI.cd
  have hD0 := hD
  have hz := tl_X4_allottedHour (Q := Q) (QX := QX) (v := i32 r) (bb := (0, 0)) G hW (by omega) hI hq
  have hA0 := hD.1
  have hB0 := hD.2
  obtain ⟨⟨kC, rC0, rC1, rC2, rC3, rC4⟩, ⟨kQ, rQ0, rQ1⟩, ⟨kV, lV⟩, ⟨kG, lG⟩, ⟨kP, lP⟩, ⟨kT, lT⟩, ⟨⟨LB1, LB2, LB3, LB4, LB5, LB6, LB7⟩, ⟨LH1, LH2, LH3, LH4, LH5, LH6, LH7⟩, ⟨LL1, LL2, LL3, LL4, LL5, LL6, LL7⟩⟩, hKB, hHA, hKL, hCJ⟩ := hA0
  obtain ⟨dDy, dEv, dG, dP, dV, dB, dL, dH⟩ := hB0
  have hnb := hW.1
  have hnl := hW.2.1
  refine ⟨Nat.le_of_ble_eq_true rfl, ?_⟩
  simp only [ent, entL, catN, List.length_cons, List.length_nil, List.replicate, List.cons_append, List.nil_append, reduceIte, Nat.reduceEqDiff,  Nat.reduceAdd, Nat.reduceSub, mnl_X4_allottedHour]
  refine wpW (cs := [(106, ce_X4_hourAt G D S), (298, ce_X1_measure G D S), (305, ce_X1_allot G D S)]) (stop := [5]) (n := 200) (env_cons (ceV (by decide +kernel) ⟨by decide, by decide, by decide +kernel⟩ (by decide) rfl (ok_X4_hourAt G G D S hW)) (env_cons (ceV (by decide +kernel) ⟨by decide, by decide, by decide +kernel⟩ (by decide) rfl (ok_X1_measure G G D S hW)) (env_cons (ceV (by decide +kernel) ⟨by decide, by decide, by decide +kernel⟩ (by decide) rfl (ok_X1_allot G G D S hW)) (env_nil0 (env_hh rfl))))) ?_
  simp only [↓wpN_S, ↓step_u, ↓stC_s, stC_s, ↓stF_u, stF_u, ↓stepI, lenI, ↓kN_u, isS, ↓gI_0, ↓gI_S, ↓gL_0, ↓gL_S, ↓gD_0, ↓gD_S, ↓gR_0, ↓gR_S, ↓sI_c, ↓sL_c, ↓sD_c, ↓sR_c, ↓s1_r, ↓s1_i, ↓vR_r, ↓vR_n, ↓s0_n, s0_n, ↓oR_u, ↓sP_u, ↓sPa_0, ↓sPa_S, ↓lkC_c, ↓callK_u, ↓cQ_s, ↓cQ_n, putL, putW, clr, kil, catS, catN, refF, booF, finF, nF, nmOf_0, nmOf_1, nmOf_2, nmOf_3, nmOf_4, nmOf_5, nmOf_6, nmOf_50, nmOf_51, nmOf_52, ↓reduceIte, reduceIte, Bool.false_eq_true, eq_self, true_or, or_true, true_and, and_true, false_or, or_false, Nat.reduceAdd, Nat.reduceSub, Nat.reduceEqDiff, Nat.reduceLT, Nat.reduceLeDiff, reduceCtorEq, true_implies, List.length_cons, List.length_nil, List.replicate, List.cons_append, List.nil_append, mrt_X4_allottedHour, mhh_X4_allottedHour, mow_X4_allottedHour, mnl_X4_allottedHour, DX4_allottedHour_0, DX4_allottedHour_1, DX4_allottedHour_2, DX4_allottedHour_5, DX4_allottedHour_6, DX4_allottedHour_7, DX4_allottedHour_10, DX4_allottedHour_13, DX4_allottedHour_14, DX4_allottedHour_15, DX4_allottedHour_18, DX4_allottedHour_21, DX4_allottedHour_22, DX4_allottedHour_25, DX4_allottedHour_28, DX4_allottedHour_29, DX4_allottedHour_30, DX4_allottedHour_33, DX4_allottedHour_36, DX4_allottedHour_37, ce_X4_hourAt, ↓ct_X4_hourAt, ycl_X4_hourAt, ce_X1_measure, ↓ct_X1_measure, ycl_X1_measure, ce_X1_allot, ↓ct_X1_allot, ycl_X1_allot, cX_nil mhh_X4_allottedHour]
  simp (disch := omega) only [i32_lit, i32_neg, i32_add, i32_mul, i32_sub, i32_nI, i32_lt, i32_le, i32_eq, inR_i, i32_clamp, i32_div, i32_max, i32_min, ite_max, ite_min, b2i_0, b2i_1, b2i_01, i32_toInt, tn_i, Int.toNat_natCast, em_t, true_and, and_true, Int.reduceToNat, Int.reduceLE, Int.reduceLT, Int.reduceAdd, Int.reduceMul, Int.reduceSub, Int.reduceNeg, Int.reduceEq, true_implies, not_true_eq_false, false_implies, not_false_eq_true, kC, rC0, rC1, rC2, rC3, rC4, kQ, rQ0, rQ1, kV, lV, kG, lG, kP, lP, kT, lT, LB1, LB2, LB3, LH1, LH2, LH3, LL1, LL2, LL3, dDy, dEv, true_and, and_true, Option.some.injEq, exists_eq_left', nmOf_0, nmOf_1, nmOf_2, nmOf_3, nmOf_4, nmOf_5, nmOf_6, Nat.add_sub_cancel, Nat.reduceSub, Nat.reduceLT, Nat.reduceEqDiff, ne_eq, not_false_eq_true, hD0]
  exact ⟨by omega, hz⟩
def ct_X4_allottedHour_t (G : GT) (D : WD) (S : SS) : Ct := fun As h Q QX => sR As fun c r => sI r fun i r => s0 r (CI G h D S ∧ c = D 0 0 ∧ (0 ≤ i.toInt ∧ i.toInt < 12 → ∀ h', Fr h h' (WK D) → CI G h' D S → HM h' D S (tn i) → HL h' D S (tn i) → Q (some (.ref (D 2 (tn i)))) h') ∧ (¬ (0 ≤ i.toInt ∧ i.toInt < 12) → QX IOB h))
def ce_X4_allottedHour_t (G : GT) (D : WD) (S : SS) : CE := (0, yX4_allottedHour, MX4_allottedHour, 1, 9, 1, 6, ct_X4_allottedHour_t G D S)
set_option maxRecDepth 100000 in
set_option maxHeartbeats 4000000 in
theorem ok_X4_allottedHour_t (G : GT) (G : GT) (D : WD) (S : SS) (hW : WF S) : OKm G yX4_allottedHour MX4_allottedHour 9 1 6 (ct_X4_allottedHour_t G D S) := by
  refine mkOK (ini := false) (by decide) rfl (by first | exact fun _ => rfl | (intro hh; cases hh)) (fun As h Q QX hc => ?_)
  replace hc := sR_e hc; obtain ⟨c, r, rfl, hc⟩ := hc
  replace hc := sI_e hc; obtain ⟨i, r, rfl, hc⟩ := hc
  replace hc := s0_e hc; obtain ⟨rfl, hc⟩ := hc
  obtain ⟨hI, rfl, hq, hx⟩ := hc
  obtain ⟨iV, hiV, rfl⟩ := i32_all i
  rw [i32_toInt hiV] at hq hx
  rw [tn_i hiV] at hq
  have hD := hI.cd
  have hD0 := hD
  have hA0 := hD.1
  have hB0 := hD.2
  obtain ⟨⟨kC, rC0, rC1, rC2, rC3, rC4⟩, ⟨kQ, rQ0, rQ1⟩, ⟨kV, lV⟩, ⟨kG, lG⟩, ⟨kP, lP⟩, ⟨kT, lT⟩, ⟨⟨LB1, LB2, LB3, LB4, LB5, LB6, LB7⟩, ⟨LH1, LH2, LH3, LH4, LH5, LH6, LH7⟩, ⟨LL1, LL2, LL3, LL4, LL5, LL6, LL7⟩⟩, hKB, hHA, hKL, hCJ⟩ := hA0
  obtain ⟨dDy, dEv, dG, dP, dV, dB, dL, dH⟩ := hB0
  have hnb := hW.1
  have hnl := hW.2.1
  refine ⟨Nat.le_of_ble_eq_true rfl, ?_⟩
  simp only [ent, entL, catN, List.length_cons, List.length_nil, List.replicate, List.cons_append, List.nil_append, reduceIte, Nat.reduceEqDiff,  Nat.reduceAdd, Nat.reduceSub, mnl_X4_allottedHour]
  refine wpW (cs := [(106, ce_X4_hourAt_t G D S), (298, ce_X1_measure G D S), (305, ce_X1_allot G D S)]) (stop := [5]) (n := 200) (env_cons (ceV (by decide +kernel) ⟨by decide, by decide, by decide +kernel⟩ (by decide) rfl (ok_X4_hourAt_t G G D S hW)) (env_cons (ceV (by decide +kernel) ⟨by decide, by decide, by decide +kernel⟩ (by decide) rfl (ok_X1_measure G G D S hW)) (env_cons (ceV (by decide +kernel) ⟨by decide, by decide, by decide +kernel⟩ (by decide) rfl (ok_X1_allot G G D S hW)) (env_nil0 (env_hh rfl))))) ?_
  simp only [↓wpN_S, ↓step_u, ↓stC_s, stC_s, ↓stF_u, stF_u, ↓stepI, lenI, ↓kN_u, isS, ↓gI_0, ↓gI_S, ↓gL_0, ↓gL_S, ↓gD_0, ↓gD_S, ↓gR_0, ↓gR_S, ↓sI_c, ↓sL_c, ↓sD_c, ↓sR_c, ↓s1_r, ↓s1_i, ↓vR_r, ↓vR_n, ↓s0_n, s0_n, ↓oR_u, ↓sP_u, ↓sPa_0, ↓sPa_S, ↓lkC_c, ↓callK_u, ↓cQ_s, ↓cQ_n, putL, putW, clr, kil, catS, catN, refF, booF, finF, nF, nmOf_0, nmOf_1, nmOf_2, nmOf_3, nmOf_4, nmOf_5, nmOf_6, nmOf_50, nmOf_51, nmOf_52, ↓reduceIte, reduceIte, Bool.false_eq_true, eq_self, true_or, or_true, true_and, and_true, false_or, or_false, Nat.reduceAdd, Nat.reduceSub, Nat.reduceEqDiff, Nat.reduceLT, Nat.reduceLeDiff, reduceCtorEq, true_implies, List.length_cons, List.length_nil, List.replicate, List.cons_append, List.nil_append, mrt_X4_allottedHour, mhh_X4_allottedHour, mow_X4_allottedHour, mnl_X4_allottedHour, DX4_allottedHour_0, DX4_allottedHour_1, DX4_allottedHour_2, DX4_allottedHour_5, DX4_allottedHour_6, DX4_allottedHour_7, DX4_allottedHour_10, DX4_allottedHour_13, DX4_allottedHour_14, DX4_allottedHour_15, DX4_allottedHour_18, DX4_allottedHour_21, DX4_allottedHour_22, DX4_allottedHour_25, DX4_allottedHour_28, DX4_allottedHour_29, DX4_allottedHour_30, DX4_allottedHour_33, DX4_allottedHour_36, DX4_allottedHour_37, ce_X4_hourAt_t, ↓ct_X4_hourAt_t, ycl_X4_hourAt, ce_X1_measure, ↓ct_X1_measure, ycl_X1_measure, ce_X1_allot, ↓ct_X1_allot, ycl_X1_allot, cX_nil mhh_X4_allottedHour]
  simp (disch := omega) only [i32_lit, i32_neg, i32_add, i32_mul, i32_sub, i32_nI, i32_lt, i32_le, i32_eq, inR_i, i32_clamp, i32_div, i32_max, i32_min, ite_max, ite_min, b2i_0, b2i_1, b2i_01, i32_toInt, tn_i, Int.toNat_natCast, em_t, true_and, and_true, Int.reduceToNat, Int.reduceLE, Int.reduceLT, Int.reduceAdd, Int.reduceMul, Int.reduceSub, Int.reduceNeg, Int.reduceEq, true_implies, not_true_eq_false, false_implies, not_false_eq_true, kC, rC0, rC1, rC2, rC3, rC4, kQ, rQ0, rQ1, kV, lV, kG, lG, kP, lP, kT, lT, LB1, LB2, LB3, LH1, LH2, LH3, LL1, LL2, LL3, dDy, dEv, true_and, and_true, Option.some.injEq, exists_eq_left', nmOf_0, nmOf_1, nmOf_2, nmOf_3, nmOf_4, nmOf_5, nmOf_6, Nat.add_sub_cancel, Nat.reduceSub, Nat.reduceLT, Nat.reduceEqDiff, ne_eq, not_false_eq_true, hD0]
  refine ⟨fun hi => ?_, fun z => hx z⟩
  obtain ⟨r, rfl⟩ := Int.eq_ofNat_of_zero_le hi.1
  replace hq := hq hi
  rw [Int.toNat_natCast] at hq
  exact tl_X4_allottedHour (Q := Q) (QX := QX) (v := i32 r) G hW (by omega) hI hq

