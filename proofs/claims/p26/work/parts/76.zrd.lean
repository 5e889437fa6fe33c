/-! ===== the class: reads of valid arguments, that make nothing ===== -/
def ct_X4_shade (G : GT) (D : WD) (S : SS) : Ct := fun As h Q _ => sR As fun c r => sI r fun hr r => sI r fun x r => sI r fun y r => s0 r (CI G h D S ∧ c = D 0 0 ∧ ((0 ≤ hr.toInt ∧ hr.toInt ≤ 11) ∧ (0 ≤ x.toInt ∧ x.toInt ≤ 15) ∧ (0 ≤ y.toInt ∧ y.toInt ≤ 15)) ∧ nxr G h D S Q (.int (i32 (bel S (tn hr) (x.toInt + 16 * y.toInt).toNat))))
def ce_X4_shade (G : GT) (D : WD) (S : SS) : CE := (0, yX4_shade, MX4_shade, 3, 10, 0, 0, ct_X4_shade G D S)
set_option maxRecDepth 100000 in
set_option maxHeartbeats 4000000 in
theorem ok_X4_shade (G : GT) (G : GT) (D : WD) (S : SS) (hW : WF S) : OKm G yX4_shade MX4_shade 10 0 0 (ct_X4_shade G D S) := by
  refine mkOK (ini := false) (by decide) rfl (by first | exact fun _ => rfl | (intro hh; cases hh)) (fun As h Q QX hc => ?_)
  replace hc := sR_e hc; obtain ⟨c, r, rfl, hc⟩ := hc
  replace hc := sI_e hc; obtain ⟨hr, r, rfl, hc⟩ := hc
  replace hc := sI_e hc; obtain ⟨x, r, rfl, hc⟩ := hc
  replace hc := sI_e hc; obtain ⟨y, r, rfl, hc⟩ := hc
  replace hc := s0_e hc; obtain ⟨rfl, hc⟩ := hc
  obtain ⟨hI, rfl, hv, hq⟩ := hc
  obtain ⟨rV, hrV, rfl⟩ := i32_all hr
  obtain ⟨xV, hxV, rfl⟩ := i32_all x
  obtain ⟨yV, hyV, rfl⟩ := i32_all y
  simp only [i32_toInt hrV, tn_i hrV, i32_toInt hxV, i32_toInt hyV] at hq hv
  have hD := hI.cd
  have hA0 := hD.1
  have hB0 := hD.2
  obtain ⟨⟨kC, rC0, rC1, rC2, rC3, rC4⟩, ⟨kQ, rQ0, rQ1⟩, ⟨kV, lV⟩, ⟨kG, lG⟩, ⟨kP, lP⟩, ⟨kT, lT⟩, ⟨⟨LB1, LB2, LB3, LB4, LB5, LB6, LB7⟩, ⟨LH1, LH2, LH3, LH4, LH5, LH6, LH7⟩, ⟨LL1, LL2, LL3, LL4, LL5, LL6, LL7⟩⟩, hKB, hHA, hKL, hCJ⟩ := hA0
  obtain ⟨dDy, dEv, dG, dP, dV, dB, dL, dH⟩ := hB0
  have hnb := hW.1
  have hnl := hW.2.1
  refine ⟨Nat.le_of_ble_eq_true rfl, ?_⟩
  simp only [ent, entL, catN, List.length_cons, List.length_nil, List.replicate, List.cons_append, List.nil_append, reduceIte, Nat.reduceEqDiff,  Nat.reduceAdd, Nat.reduceSub, mnl_X4_shade]
  refine wpW (cs := [(130, ce_X4_needIndex), (149, ce_X4_measuredHour G D S)]) (stop := [17]) (n := 200) (env_cons (ceS (by decide +kernel) ⟨by decide, by decide, by decide +kernel⟩ (by decide) (ok_X4_needIndex G)) (env_cons (ceV (by decide +kernel) ⟨by decide, by decide, by decide +kernel⟩ (by decide) rfl (ok_X4_measuredHour G G D S hW)) (env_nil0 (env_hh rfl)))) ?_
  simp only [↓wpN_S, ↓step_u, ↓stC_s, stC_s, ↓stF_u, stF_u, ↓stepI, lenI, ↓kN_u, isS, ↓gI_0, ↓gI_S, ↓gL_0, ↓gL_S, ↓gD_0, ↓gD_S, ↓gR_0, ↓gR_S, ↓sI_c, ↓sL_c, ↓sD_c, ↓sR_c, ↓s1_r, ↓s1_i, ↓vR_r, ↓vR_n, ↓s0_n, s0_n, ↓oR_u, ↓sP_u, ↓sPa_0, ↓sPa_S, ↓lkC_c, ↓callK_u, ↓cQ_s, ↓cQ_n, putL, putW, clr, kil, catS, catN, refF, booF, finF, nF, nmOf_0, nmOf_1, nmOf_2, nmOf_3, nmOf_4, nmOf_5, nmOf_6, nmOf_50, nmOf_51, nmOf_52, ↓reduceIte, reduceIte, Bool.false_eq_true, eq_self, true_or, or_true, true_and, and_true, false_or, or_false, Nat.reduceAdd, Nat.reduceSub, Nat.reduceEqDiff, Nat.reduceLT, Nat.reduceLeDiff, reduceCtorEq, true_implies, List.length_cons, List.length_nil, List.replicate, List.cons_append, List.nil_append, mrt_X4_shade, mhh_X4_shade, mow_X4_shade, mnl_X4_shade, DX4_shade_0, DX4_shade_1, DX4_shade_3, DX4_shade_6, DX4_shade_7, DX4_shade_9, DX4_shade_12, DX4_shade_13, DX4_shade_14, DX4_shade_17, DX4_shade_20, DX4_shade_21, DX4_shade_23, DX4_shade_24, DX4_shade_25, DX4_shade_26, DX4_shade_27, ce_X4_needIndex, ↓ct_X4_needIndex, ycl_X4_needIndex, ce_X4_measuredHour, ↓ct_X4_measuredHour, ycl_X4_measuredHour, cX_nil mhh_X4_shade]
  simp (disch := omega) only [i32_lit, i32_neg, i32_add, i32_mul, i32_sub, i32_nI, i32_lt, i32_le, i32_eq, inR_i, i32_clamp, i32_div, i32_max, i32_min, ite_max, ite_min, b2i_0, b2i_1, b2i_01, i32_toInt, tn_i, Int.toNat_natCast, em_t, true_and, and_true, Int.reduceToNat, Int.reduceLE, Int.reduceLT, Int.reduceAdd, Int.reduceMul, Int.reduceSub, Int.reduceNeg, Int.reduceEq, true_implies, not_true_eq_false, false_implies, not_false_eq_true, kC, rC0, rC1, rC2, rC3, rC4, kQ, rQ0, rQ1, kV, lV, kG, lG, kP, lP, kT, lT, LB1, LB2, LB3, LH1, LH2, LH3, LL1, LL2, LL3, dDy, dEv, true_and, and_true, Option.some.injEq, exists_eq_left', nmOf_0, nmOf_1, nmOf_2, nmOf_3, nmOf_4, nmOf_5, nmOf_6, Nat.add_sub_cancel, Nat.reduceSub, Nat.reduceLT, Nat.reduceEqDiff, ne_eq, not_false_eq_true, hI]
  refine ⟨by omega, by omega, by omega, fun h' f' hI' hM' => ?_⟩
  obtain ⟨r, rfl⟩ := Int.eq_ofNat_of_zero_le hv.1.1
  simp only [Int.toNat_natCast] at hq hM' ⊢
  have hk := (hM'.1 (xV + 16 * yV).toNat (by omega)).1
  replace hq := hq h' f' hI'
  have hD := hI'.cd
  have hA0 := hD.1
  have hB0 := hD.2
  obtain ⟨⟨kC, rC0, rC1, rC2, rC3, rC4⟩, ⟨kQ, rQ0, rQ1⟩, ⟨kV, lV⟩, ⟨kG, lG⟩, ⟨kP, lP⟩, ⟨kT, lT⟩, ⟨⟨LB1, LB2, LB3, LB4, LB5, LB6, LB7⟩, ⟨LH1, LH2, LH3, LH4, LH5, LH6, LH7⟩, ⟨LL1, LL2, LL3, LL4, LL5, LL6, LL7⟩⟩, hKB, hHA, hKL, hCJ⟩ := hA0
  obtain ⟨dDy, dEv, dG, dP, dV, dB, dL, dH⟩ := hB0
  have hnb := hW.1
  have hnl := hW.2.1
  obtain ⟨kH, ⟨rH5, rH6, rH7, rH8, rH12⟩, ⟨kH4, lH4⟩, ⟨kH5, lH5⟩, ⟨kH6, lH6⟩, ⟨kH7, lH7⟩⟩ := hHA r (by omega)
  obtain ⟨eH0, eH1, eH2, eH3⟩ := dH r (by omega)
  have qH := LH7 r (by omega)
  obtain ⟨kqH, lqH⟩ := LH6 (by omega)
  obtain ⟨vH0, vH0', vH1, vH1', -, vH2, vH2'⟩ := hW.2.2.2.2.1 r (by omega)
  refine wpW (cs := [(130, ce_X4_needIndex), (149, ce_X4_measuredHour G D S)]) (stop := []) (n := 200) (env_cons (ceS (by decide +kernel) ⟨by decide, by decide, by decide +kernel⟩ (by decide) (ok_X4_needIndex G)) (env_cons (ceV (by decide +kernel) ⟨by decide, by decide, by decide +kernel⟩ (by decide) rfl (ok_X4_measuredHour G G D S hW)) (env_nil0 (env_hh rfl)))) ?_
  simp only [↓wpN_S, ↓step_u, ↓stC_s, stC_s, ↓stF_u, stF_u, ↓stepI, lenI, ↓kN_u, isS, ↓gI_0, ↓gI_S, ↓gL_0, ↓gL_S, ↓gD_0, ↓gD_S, ↓gR_0, ↓gR_S, ↓sI_c, ↓sL_c, ↓sD_c, ↓sR_c, ↓s1_r, ↓s1_i, ↓vR_r, ↓vR_n, ↓s0_n, s0_n, ↓oR_u, ↓sP_u, ↓sPa_0, ↓sPa_S, ↓lkC_c, ↓callK_u, ↓cQ_s, ↓cQ_n, putL, putW, clr, kil, catS, catN, refF, booF, finF, nF, nmOf_0, nmOf_1, nmOf_2, nmOf_3, nmOf_4, nmOf_5, nmOf_6, nmOf_50, nmOf_51, nmOf_52, ↓reduceIte, reduceIte, Bool.false_eq_true, eq_self, true_or, or_true, true_and, and_true, false_or, or_false, Nat.reduceAdd, Nat.reduceSub, Nat.reduceEqDiff, Nat.reduceLT, Nat.reduceLeDiff, reduceCtorEq, true_implies, List.length_cons, List.length_nil, List.replicate, List.cons_append, List.nil_append, mrt_X4_shade, mhh_X4_shade, mow_X4_shade, mnl_X4_shade, DX4_shade_0, DX4_shade_1, DX4_shade_3, DX4_shade_6, DX4_shade_7, DX4_shade_9, DX4_shade_12, DX4_shade_13, DX4_shade_14, DX4_shade_17, DX4_shade_20, DX4_shade_21, DX4_shade_23, DX4_shade_24, DX4_shade_25, DX4_shade_26, DX4_shade_27, ce_X4_needIndex, ↓ct_X4_needIndex, ycl_X4_needIndex, ce_X4_measuredHour, ↓ct_X4_measuredHour, ycl_X4_measuredHour, cX_nil mhh_X4_shade]
  simp (disch := omega) only [i32_lit, i32_neg, i32_add, i32_mul, i32_sub, i32_nI, i32_lt, i32_le, i32_eq, inR_i, i32_clamp, i32_div, i32_max, i32_min, ite_max, ite_min, b2i_0, b2i_1, b2i_01, i32_toInt, tn_i, Int.toNat_natCast, em_t, true_and, and_true, Int.reduceToNat, Int.reduceLE, Int.reduceLT, Int.reduceAdd, Int.reduceMul, Int.reduceSub, Int.reduceNeg, Int.reduceEq, true_implies, not_true_eq_false, false_implies, not_false_eq_true, kC, rC0, rC1, rC2, rC3, rC4, kQ, rQ0, rQ1, kV, lV, kG, lG, kP, lP, kT, lT, LB1, LB2, LB3, LH1, LH2, LH3, LL1, LL2, LL3, dDy, dEv, true_and, and_true, Option.some.injEq, exists_eq_left', nmOf_0, nmOf_1, nmOf_2, nmOf_3, nmOf_4, nmOf_5, nmOf_6, Nat.add_sub_cancel, Nat.reduceSub, Nat.reduceLT, Nat.reduceEqDiff, ne_eq, not_false_eq_true, kH, rH5, rH6, rH7, rH8, rH12, kH4, lH4, kH5, lH5, kH6, lH6, kH7, lH7, eH0, eH1, eH2, eH3, qH, kqH, lqH, hk]
  exact ⟨by omega, hq⟩
def ct_X4_shades (G : GT) (D : WD) (S : SS) : Ct := fun As h Q _ => sR As fun c r => sI r fun hr r => sI r fun x r => sI r fun y r => s0 r (CI G h D S ∧ c = D 0 0 ∧ ((0 ≤ hr.toInt ∧ hr.toInt ≤ 11) ∧ (0 ≤ x.toInt ∧ x.toInt ≤ 15) ∧ (0 ≤ y.toInt ∧ y.toInt ≤ 15)) ∧ nxr G h D S Q (.int (i32 (shd S (tn hr) (x.toInt + 16 * y.toInt).toNat))))
def ce_X4_shades (G : GT) (D : WD) (S : SS) : CE := (0, yX4_shades, MX4_shades, 3, 10, 0, 0, ct_X4_shades G D S)
set_option maxRecDepth 100000 in
set_option maxHeartbeats 4000000 in
theorem ok_X4_shades (G : GT) (G : GT) (D : WD) (S : SS) (hW : WF S) : OKm G yX4_shades MX4_shades 10 0 0 (ct_X4_shades G D S) := by
  refine mkOK (ini := false) (by decide) rfl (by first | exact fun _ => rfl | (intro hh; cases hh)) (fun As h Q QX hc => ?_)
  replace hc := sR_e hc; obtain ⟨c, r, rfl, hc⟩ := hc
  replace hc := sI_e hc; obtain ⟨hr, r, rfl, hc⟩ := hc
  replace hc := sI_e hc; obtain ⟨x, r, rfl, hc⟩ := hc
  replace hc := sI_e hc; obtain ⟨y, r, rfl, hc⟩ := hc
  replace hc := s0_e hc; obtain ⟨rfl, hc⟩ := hc
  obtain ⟨hI, rfl, hv, hq⟩ := hc
  obtain ⟨rV, hrV, rfl⟩ := i32_all hr
  obtain ⟨xV, hxV, rfl⟩ := i32_all x
  obtain ⟨yV, hyV, rfl⟩ := i32_all y
  simp only [i32_toInt hrV, tn_i hrV, i32_toInt hxV, i32_toInt hyV] at hq hv
  have hD := hI.cd
  have hA0 := hD.1
  have hB0 := hD.2
  obtain ⟨⟨kC, rC0, rC1, rC2, rC3, rC4⟩, ⟨kQ, rQ0, rQ1⟩, ⟨kV, lV⟩, ⟨kG, lG⟩, ⟨kP, lP⟩, ⟨kT, lT⟩, ⟨⟨LB1, LB2, LB3, LB4, LB5, LB6, LB7⟩, ⟨LH1, LH2, LH3, LH4, LH5, LH6, LH7⟩, ⟨LL1, LL2, LL3, LL4, LL5, LL6, LL7⟩⟩, hKB, hHA, hKL, hCJ⟩ := hA0
  obtain ⟨dDy, dEv, dG, dP, dV, dB, dL, dH⟩ := hB0
  have hnb := hW.1
  have hnl := hW.2.1
  refine ⟨Nat.le_of_ble_eq_true rfl, ?_⟩
  simp only [ent, entL, catN, List.length_cons, List.length_nil, List.replicate, List.cons_append, List.nil_append, reduceIte, Nat.reduceEqDiff,  Nat.reduceAdd, Nat.reduceSub, mnl_X4_shades]
  refine wpW (cs := [(130, ce_X4_needIndex), (149, ce_X4_measuredHour G D S)]) (stop := [17]) (n := 200) (env_cons (ceS (by decide +kernel) ⟨by decide, by decide, by decide +kernel⟩ (by decide) (ok_X4_needIndex G)) (env_cons (ceV (by decide +kernel) ⟨by decide, by decide, by decide +kernel⟩ (by decide) rfl (ok_X4_measuredHour G G D S hW)) (env_nil0 (env_hh rfl)))) ?_
  simp only [↓wpN_S, ↓step_u, ↓stC_s, stC_s, ↓stF_u, stF_u, ↓stepI, lenI, ↓kN_u, isS, ↓gI_0, ↓gI_S, ↓gL_0, ↓gL_S, ↓gD_0, ↓gD_S, ↓gR_0, ↓gR_S, ↓sI_c, ↓sL_c, ↓sD_c, ↓sR_c, ↓s1_r, ↓s1_i, ↓vR_r, ↓vR_n, ↓s0_n, s0_n, ↓oR_u, ↓sP_u, ↓sPa_0, ↓sPa_S, ↓lkC_c, ↓callK_u, ↓cQ_s, ↓cQ_n, putL, putW, clr, kil, catS, catN, refF, booF, finF, nF, nmOf_0, nmOf_1, nmOf_2, nmOf_3, nmOf_4, nmOf_5, nmOf_6, nmOf_50, nmOf_51, nmOf_52, ↓reduceIte, reduceIte, Bool.false_eq_true, eq_self, true_or, or_true, true_and, and_true, false_or, or_false, Nat.reduceAdd, Nat.reduceSub, Nat.reduceEqDiff, Nat.reduceLT, Nat.reduceLeDiff, reduceCtorEq, true_implies, List.length_cons, List.length_nil, List.replicate, List.cons_append, List.nil_append, mrt_X4_shades, mhh_X4_shades, mow_X4_shades, mnl_X4_shades, DX4_shades_0, DX4_shades_1, DX4_shades_3, DX4_shades_6, DX4_shades_7, DX4_shades_9, DX4_shades_12, DX4_shades_13, DX4_shades_14, DX4_shades_17, DX4_shades_20, DX4_shades_21, DX4_shades_23, DX4_shades_24, DX4_shades_25, DX4_shades_26, DX4_shades_27, ce_X4_needIndex, ↓ct_X4_needIndex, ycl_X4_needIndex, ce_X4_measuredHour, ↓ct_X4_measuredHour, ycl_X4_measuredHour, cX_nil mhh_X4_shades]
  simp (disch := omega) only [i32_lit, i32_neg, i32_add, i32_mul, i32_sub, i32_nI, i32_lt, i32_le, i32_eq, inR_i, i32_clamp, i32_div, i32_max, i32_min, ite_max, ite_min, b2i_0, b2i_1, b2i_01, i32_toInt, tn_i, Int.toNat_natCast, em_t, true_and, and_true, Int.reduceToNat, Int.reduceLE, Int.reduceLT, Int.reduceAdd, Int.reduceMul, Int.reduceSub, Int.reduceNeg, Int.reduceEq, true_implies, not_true_eq_false, false_implies, not_false_eq_true, kC, rC0, rC1, rC2, rC3, rC4, kQ, rQ0, rQ1, kV, lV, kG, lG, kP, lP, kT, lT, LB1, LB2, LB3, LH1, LH2, LH3, LL1, LL2, LL3, dDy, dEv, true_and, and_true, Option.some.injEq, exists_eq_left', nmOf_0, nmOf_1, nmOf_2, nmOf_3, nmOf_4, nmOf_5, nmOf_6, Nat.add_sub_cancel, Nat.reduceSub, Nat.reduceLT, Nat.reduceEqDiff, ne_eq, not_false_eq_true, hI]
  refine ⟨by omega, by omega, by omega, fun h' f' hI' hM' => ?_⟩
  obtain ⟨r, rfl⟩ := Int.eq_ofNat_of_zero_le hv.1.1
  simp only [Int.toNat_natCast] at hq hM' ⊢
  have hk := (hM'.1 (xV + 16 * yV).toNat (by omega)).2
  replace hq := hq h' f' hI'
  have hD := hI'.cd
  have hA0 := hD.1
  have hB0 := hD.2
  obtain ⟨⟨kC, rC0, rC1, rC2, rC3, rC4⟩, ⟨kQ, rQ0, rQ1⟩, ⟨kV, lV⟩, ⟨kG, lG⟩, ⟨kP, lP⟩, ⟨kT, lT⟩, ⟨⟨LB1, LB2, LB3, LB4, LB5, LB6, LB7⟩, ⟨LH1, LH2, LH3, LH4, LH5, LH6, LH7⟩, ⟨LL1, LL2, LL3, LL4, LL5, LL6, LL7⟩⟩, hKB, hHA, hKL, hCJ⟩ := hA0
  obtain ⟨dDy, dEv, dG, dP, dV, dB, dL, dH⟩ := hB0
  have hnb := hW.1
  have hnl := hW.2.1
  obtain ⟨kH, ⟨rH5, rH6, rH7, rH8, rH12⟩, ⟨kH4, lH4⟩, ⟨kH5, lH5⟩, ⟨kH6, lH6⟩, ⟨kH7, lH7⟩⟩ := hHA r (by omega)
  obtain ⟨eH0, eH1, eH2, eH3⟩ := dH r (by omega)
  have qH := LH7 r (by omega)
  obtain ⟨kqH, lqH⟩ := LH6 (by omega)
  obtain ⟨vH0, vH0', vH1, vH1', -, vH2, vH2'⟩ := hW.2.2.2.2.1 r (by omega)
  refine wpW (cs := [(130, ce_X4_needIndex), (149, ce_X4_measuredHour G D S)]) (stop := []) (n := 200) (env_cons (ceS (by decide +kernel) ⟨by decide, by decide, by decide +kernel⟩ (by decide) (ok_X4_needIndex G)) (env_cons (ceV (by decide +kernel) ⟨by decide, by decide, by decide +kernel⟩ (by decide) rfl (ok_X4_measuredHour G G D S hW)) (env_nil0 (env_hh rfl)))) ?_
  simp only [↓wpN_S, ↓step_u, ↓stC_s, stC_s, ↓stF_u, stF_u, ↓stepI, lenI, ↓kN_u, isS, ↓gI_0, ↓gI_S, ↓gL_0, ↓gL_S, ↓gD_0, ↓gD_S, ↓gR_0, ↓gR_S, ↓sI_c, ↓sL_c, ↓sD_c, ↓sR_c, ↓s1_r, ↓s1_i, ↓vR_r, ↓vR_n, ↓s0_n, s0_n, ↓oR_u, ↓sP_u, ↓sPa_0, ↓sPa_S, ↓lkC_c, ↓callK_u, ↓cQ_s, ↓cQ_n, putL, putW, clr, kil, catS, catN, refF, booF, finF, nF, nmOf_0, nmOf_1, nmOf_2, nmOf_3, nmOf_4, nmOf_5, nmOf_6, nmOf_50, nmOf_51, nmOf_52, ↓reduceIte, reduceIte, Bool.false_eq_true, eq_self, true_or, or_true, true_and, and_true, false_or, or_false, Nat.reduceAdd, Nat.reduceSub, Nat.reduceEqDiff, Nat.reduceLT, Nat.reduceLeDiff, reduceCtorEq, true_implies, List.length_cons, List.length_nil, List.replicate, List.cons_append, List.nil_append, mrt_X4_shades, mhh_X4_shades, mow_X4_shades, mnl_X4_shades, DX4_shades_0, DX4_shades_1, DX4_shades_3, DX4_shades_6, DX4_shades_7, DX4_shades_9, DX4_shades_12, DX4_shades_13, DX4_shades_14, DX4_shades_17, DX4_shades_20, DX4_shades_21, DX4_shades_23, DX4_shades_24, DX4_shades_25, DX4_shades_26, DX4_shades_27, ce_X4_needIndex, ↓ct_X4_needIndex, ycl_X4_needIndex, ce_X4_measuredHour, ↓ct_X4_measuredHour, ycl_X4_measuredHour, cX_nil mhh_X4_shades]
  simp (disch := omega) only [i32_lit, i32_neg, i32_add, i32_mul, i32_sub, i32_nI, i32_lt, i32_le, i32_eq, inR_i, i32_clamp, i32_div, i32_max, i32_min, ite_max, ite_min, b2i_0, b2i_1, b2i_01, i32_toInt, tn_i, Int.toNat_natCast, em_t, true_and, and_true, Int.reduceToNat, Int.reduceLE, Int.reduceLT, Int.reduceAdd, Int.reduceMul, Int.reduceSub, Int.reduceNeg, Int.reduceEq, true_implies, not_true_eq_false, false_implies, not_false_eq_true, kC, rC0, rC1, rC2, rC3, rC4, kQ, rQ0, rQ1, kV, lV, kG, lG, kP, lP, kT, lT, LB1, LB2, LB3, LH1, LH2, LH3, LL1, LL2, LL3, dDy, dEv, true_and, and_true, Option.some.injEq, exists_eq_left', nmOf_0, nmOf_1, nmOf_2, nmOf_3, nmOf_4, nmOf_5, nmOf_6, Nat.add_sub_cancel, Nat.reduceSub, Nat.reduceLT, Nat.reduceEqDiff, ne_eq, not_false_eq_true, kH, rH5, rH6, rH7, rH8, rH12, kH4, lH4, kH5, lH5, kH6, lH6, kH7, lH7, eH0, eH1, eH2, eH3, qH, kqH, lqH, hk]
  exact ⟨by omega, hq⟩
def ct_X4_inHour (G : GT) (D : WD) (S : SS) : Ct := fun As h Q _ => sR As fun c r => sI r fun hr r => sI r fun w r => s0 r (CI G h D S ∧ c = D 0 0 ∧ ((0 ≤ hr.toInt ∧ hr.toInt ≤ 11) ∧ (0 ≤ w.toInt ∧ w.toInt ≤ 3)) ∧ nxr G h D S Q (.int (i32 (hrT S (tn hr) (tn w)))))
def ce_X4_inHour (G : GT) (D : WD) (S : SS) : CE := (0, yX4_inHour, MX4_inHour, 2, 10, 0, 0, ct_X4_inHour G D S)
set_option maxRecDepth 100000 in
set_option maxHeartbeats 4000000 in
theorem ok_X4_inHour (G : GT) (G : GT) (D : WD) (S : SS) (hW : WF S) : OKm G yX4_inHour MX4_inHour 10 0 0 (ct_X4_inHour G D S) := by
  refine mkOK (ini := false) (by decide) rfl (by first | exact fun _ => rfl | (intro hh; cases hh)) (fun As h Q QX hc => ?_)
  replace hc := sR_e hc; obtain ⟨c, r, rfl, hc⟩ := hc
  replace hc := sI_e hc; obtain ⟨hr, r, rfl, hc⟩ := hc
  replace hc := sI_e hc; obtain ⟨w, r, rfl, hc⟩ := hc
  replace hc := s0_e hc; obtain ⟨rfl, hc⟩ := hc
  obtain ⟨hI, rfl, hv, hq⟩ := hc
  obtain ⟨rV, hrV, rfl⟩ := i32_all hr
  obtain ⟨wV, hwV, rfl⟩ := i32_all w
  simp only [i32_toInt hrV, tn_i hrV, i32_toInt hwV, tn_i hwV] at hq hv
  have hD := hI.cd
  have hD0 := hD
  have hA0 := hD.1
  have hB0 := hD.2
  obtain ⟨⟨kC, rC0, rC1, rC2, rC3, rC4⟩, ⟨kQ, rQ0, rQ1⟩, ⟨kV, lV⟩, ⟨kG, lG⟩, ⟨kP, lP⟩, ⟨kT, lT⟩, ⟨⟨LB1, LB2, LB3, LB4, LB5, LB6, LB7⟩, ⟨LH1, LH2, LH3, LH4, LH5, LH6, LH7⟩, ⟨LL1, LL2, LL3, LL4, LL5, LL6, LL7⟩⟩, hKB, hHA, hKL, hCJ⟩ := hA0
  obtain ⟨dDy, dEv, dG, dP, dV, dB, dL, dH⟩ := hB0
  have hnb := hW.1
  have hnl := hW.2.1
  refine ⟨Nat.le_of_ble_eq_true rfl, ?_⟩
  simp only [ent, entL, catN, List.length_cons, List.length_nil, List.replicate, List.cons_append, List.nil_append, reduceIte, Nat.reduceEqDiff,  Nat.reduceAdd, Nat.reduceSub, mnl_X4_inHour]
  refine wpW (cs := [(130, ce_X4_needIndex), (161, ce_X4_allottedHour G D S), (164, ce_X1_figure G D S)]) (stop := [10]) (n := 200) (env_cons (ceS (by decide +kernel) ⟨by decide, by decide, by decide +kernel⟩ (by decide) (ok_X4_needIndex G)) (env_cons (ceV (by decide +kernel) ⟨by decide, by decide, by decide +kernel⟩ (by decide) rfl (ok_X4_allottedHour G G D S hW)) (env_cons (ceV (by decide +kernel) ⟨by decide, by decide, by decide +kernel⟩ (by decide) rfl (ok_X1_figure G G D S hW)) (env_nil0 (env_hh rfl))))) ?_
  simp only [↓wpN_S, ↓step_u, ↓stC_s, stC_s, ↓stF_u, stF_u, ↓stepI, lenI, ↓kN_u, isS, ↓gI_0, ↓gI_S, ↓gL_0, ↓gL_S, ↓gD_0, ↓gD_S, ↓gR_0, ↓gR_S, ↓sI_c, ↓sL_c, ↓sD_c, ↓sR_c, ↓s1_r, ↓s1_i, ↓vR_r, ↓vR_n, ↓s0_n, s0_n, ↓oR_u, ↓sP_u, ↓sPa_0, ↓sPa_S, ↓lkC_c, ↓callK_u, ↓cQ_s, ↓cQ_n, putL, putW, clr, kil, catS, catN, refF, booF, finF, nF, nmOf_0, nmOf_1, nmOf_2, nmOf_3, nmOf_4, nmOf_5, nmOf_6, nmOf_50, nmOf_51, nmOf_52, ↓reduceIte, reduceIte, Bool.false_eq_true, eq_self, true_or, or_true, true_and, and_true, false_or, or_false, Nat.reduceAdd, Nat.reduceSub, Nat.reduceEqDiff, Nat.reduceLT, Nat.reduceLeDiff, reduceCtorEq, true_implies, List.length_cons, List.length_nil, List.replicate, List.cons_append, List.nil_append, mrt_X4_inHour, mhh_X4_inHour, mow_X4_inHour, mnl_X4_inHour, DX4_inHour_0, DX4_inHour_1, DX4_inHour_2, DX4_inHour_5, DX4_inHour_6, DX4_inHour_7, DX4_inHour_10, DX4_inHour_11, DX4_inHour_14, ce_X4_needIndex, ↓ct_X4_needIndex, ycl_X4_needIndex, ce_X4_allottedHour, ↓ct_X4_allottedHour, ycl_X4_allottedHour, ce_X1_figure, ↓ct_X1_figure, ycl_X1_figure, cX_nil mhh_X4_inHour]
  simp (disch := omega) only [i32_lit, i32_neg, i32_add, i32_mul, i32_sub, i32_nI, i32_lt, i32_le, i32_eq, inR_i, i32_clamp, i32_div, i32_max, i32_min, ite_max, ite_min, b2i_0, b2i_1, b2i_01, i32_toInt, tn_i, Int.toNat_natCast, em_t, true_and, and_true, Int.reduceToNat, Int.reduceLE, Int.reduceLT, Int.reduceAdd, Int.reduceMul, Int.reduceSub, Int.reduceNeg, Int.reduceEq, true_implies, not_true_eq_false, false_implies, not_false_eq_true, kC, rC0, rC1, rC2, rC3, rC4, kQ, rQ0, rQ1, kV, lV, kG, lG, kP, lP, kT, lT, LB1, LB2, LB3, LH1, LH2, LH3, LL1, LL2, LL3, dDy, dEv, true_and, and_true, Option.some.injEq, exists_eq_left', nmOf_0, nmOf_1, nmOf_2, nmOf_3, nmOf_4, nmOf_5, nmOf_6, Nat.add_sub_cancel, Nat.reduceSub, Nat.reduceLT, Nat.reduceEqDiff, ne_eq, not_false_eq_true, hI, hD0]
  refine ⟨by omega, by omega, fun h' f' hI' hM' hL' => ?_⟩
  obtain ⟨r, rfl⟩ := Int.eq_ofNat_of_zero_le hv.1.1
  simp only [Int.toNat_natCast] at hq hM' hL' ⊢
  replace hq := hq h' f' hI'
  have hD := hI'.cd
  have hD1 := hD
  have hA0 := hD.1
  have hB0 := hD.2
  obtain ⟨⟨kC, rC0, rC1, rC2, rC3, rC4⟩, ⟨kQ, rQ0, rQ1⟩, ⟨kV, lV⟩, ⟨kG, lG⟩, ⟨kP, lP⟩, ⟨kT, lT⟩, ⟨⟨LB1, LB2, LB3, LB4, LB5, LB6, LB7⟩, ⟨LH1, LH2, LH3, LH4, LH5, LH6, LH7⟩, ⟨LL1, LL2, LL3, LL4, LL5, LL6, LL7⟩⟩, hKB, hHA, hKL, hCJ⟩ := hA0
  obtain ⟨dDy, dEv, dG, dP, dV, dB, dL, dH⟩ := hB0
  have hnb := hW.1
  have hnl := hW.2.1
  obtain ⟨kH, ⟨rH5, rH6, rH7, rH8, rH12⟩, ⟨kH4, lH4⟩, ⟨kH5, lH5⟩, ⟨kH6, lH6⟩, ⟨kH7, lH7⟩⟩ := hHA r (by omega)
  obtain ⟨eH0, eH1, eH2, eH3⟩ := dH r (by omega)
  have qH := LH7 r (by omega)
  obtain ⟨kqH, lqH⟩ := LH6 (by omega)
  obtain ⟨vH0, vH0', vH1, vH1', -, vH2, vH2'⟩ := hW.2.2.2.2.1 r (by omega)
  refine wpW (cs := [(130, ce_X4_needIndex), (161, ce_X4_allottedHour G D S), (164, ce_X1_figure G D S)]) (stop := []) (n := 200) (env_cons (ceS (by decide +kernel) ⟨by decide, by decide, by decide +kernel⟩ (by decide) (ok_X4_needIndex G)) (env_cons (ceV (by decide +kernel) ⟨by decide, by decide, by decide +kernel⟩ (by decide) rfl (ok_X4_allottedHour G G D S hW)) (env_cons (ceV (by decide +kernel) ⟨by decide, by decide, by decide +kernel⟩ (by decide) rfl (ok_X1_figure G G D S hW)) (env_nil0 (env_hh rfl))))) ?_
  simp only [↓wpN_S, ↓step_u, ↓stC_s, stC_s, ↓stF_u, stF_u, ↓stepI, lenI, ↓kN_u, isS, ↓gI_0, ↓gI_S, ↓gL_0, ↓gL_S, ↓gD_0, ↓gD_S, ↓gR_0, ↓gR_S, ↓sI_c, ↓sL_c, ↓sD_c, ↓sR_c, ↓s1_r, ↓s1_i, ↓vR_r, ↓vR_n, ↓s0_n, s0_n, ↓oR_u, ↓sP_u, ↓sPa_0, ↓sPa_S, ↓lkC_c, ↓callK_u, ↓cQ_s, ↓cQ_n, putL, putW, clr, kil, catS, catN, refF, booF, finF, nF, nmOf_0, nmOf_1, nmOf_2, nmOf_3, nmOf_4, nmOf_5, nmOf_6, nmOf_50, nmOf_51, nmOf_52, ↓reduceIte, reduceIte, Bool.false_eq_true, eq_self, true_or, or_true, true_and, and_true, false_or, or_false, Nat.reduceAdd, Nat.reduceSub, Nat.reduceEqDiff, Nat.reduceLT, Nat.reduceLeDiff, reduceCtorEq, true_implies, List.length_cons, List.length_nil, List.replicate, List.cons_append, List.nil_append, mrt_X4_inHour, mhh_X4_inHour, mow_X4_inHour, mnl_X4_inHour, DX4_inHour_0, DX4_inHour_1, DX4_inHour_2, DX4_inHour_5, DX4_inHour_6, DX4_inHour_7, DX4_inHour_10, DX4_inHour_11, DX4_inHour_14, ce_X4_needIndex, ↓ct_X4_needIndex, ycl_X4_needIndex, ce_X4_allottedHour, ↓ct_X4_allottedHour, ycl_X4_allottedHour, ce_X1_figure, ↓ct_X1_figure, ycl_X1_figure, cX_nil mhh_X4_inHour]
  simp (disch := omega) only [i32_lit, i32_neg, i32_add, i32_mul, i32_sub, i32_nI, i32_lt, i32_le, i32_eq, inR_i, i32_clamp, i32_div, i32_max, i32_min, ite_max, ite_min, b2i_0, b2i_1, b2i_01, i32_toInt, tn_i, Int.toNat_natCast, em_t, true_and, and_true, Int.reduceToNat, Int.reduceLE, Int.reduceLT, Int.reduceAdd, Int.reduceMul, Int.reduceSub, Int.reduceNeg, Int.reduceEq, true_implies, not_true_eq_false, false_implies, not_false_eq_true, kC, rC0, rC1, rC2, rC3, rC4, kQ, rQ0, rQ1, kV, lV, kG, lG, kP, lP, kT, lT, LB1, LB2, LB3, LH1, LH2, LH3, LL1, LL2, LL3, dDy, dEv, true_and, and_true, Option.some.injEq, exists_eq_left', nmOf_0, nmOf_1, nmOf_2, nmOf_3, nmOf_4, nmOf_5, nmOf_6, Nat.add_sub_cancel, Nat.reduceSub, Nat.reduceLT, Nat.reduceEqDiff, ne_eq, not_false_eq_true, kH, rH5, rH6, rH7, rH8, rH12, kH4, lH4, kH5, lH5, kH6, lH6, kH7, lH7, eH0, eH1, eH2, eH3, qH, kqH, lqH, hD1]
  exact ⟨by omega, r, by omega, rfl, hM', hL', hq⟩
def ct_X4_gets (G : GT) (D : WD) (S : SS) : Ct := fun As h Q _ => sR As fun c r => sI r fun l r => sI r fun hr r => s0 r (CI G h D S ∧ c = D 0 0 ∧ ((0 ≤ l.toInt ∧ l.toInt < S.nl) ∧ (0 ≤ hr.toInt ∧ hr.toInt ≤ 11)) ∧ nxr G h D S Q (.int (i32 (gts S (tn l) (tn hr)))))
def ce_X4_gets (G : GT) (D : WD) (S : SS) : CE := (0, yX4_gets, MX4_gets, 2, 10, 0, 0, ct_X4_gets G D S)
set_option maxRecDepth 100000 in
set_option maxHeartbeats 4000000 in
theorem ok_X4_gets (G : GT) (G : GT) (D : WD) (S : SS) (hW : WF S) : OKm G yX4_gets MX4_gets 10 0 0 (ct_X4_gets G D S) := by
  refine mkOK (ini := false) (by decide) rfl (by first | exact fun _ => rfl | (intro hh; cases hh)) (fun As h Q QX hc => ?_)
  replace hc := sR_e hc; obtain ⟨c, r, rfl, hc⟩ := hc
  replace hc := sI_e hc; obtain ⟨l, r, rfl, hc⟩ := hc
  replace hc := sI_e hc; obtain ⟨hr, r, rfl, hc⟩ := hc
  replace hc := s0_e hc; obtain ⟨rfl, hc⟩ := hc
  obtain ⟨hI, rfl, hv, hq⟩ := hc
  obtain ⟨lV, hlV, rfl⟩ := i32_all l
  obtain ⟨rV, hrV, rfl⟩ := i32_all hr
  simp only [i32_toInt hrV, tn_i hrV, i32_toInt hlV, tn_i hlV] at hq hv
  have hD := hI.cd
  have hD0 := hD
  have hA0 := hD.1
  have hB0 := hD.2
  obtain ⟨⟨kC, rC0, rC1, rC2, rC3, rC4⟩, ⟨kQ, rQ0, rQ1⟩, ⟨kV, lV⟩, ⟨kG, lG⟩, ⟨kP, lP⟩, ⟨kT, lT⟩, ⟨⟨LB1, LB2, LB3, LB4, LB5, LB6, LB7⟩, ⟨LH1, LH2, LH3, LH4, LH5, LH6, LH7⟩, ⟨LL1, LL2, LL3, LL4, LL5, LL6, LL7⟩⟩, hKB, hHA, hKL, hCJ⟩ := hA0
  obtain ⟨dDy, dEv, dG, dP, dV, dB, dL, dH⟩ := hB0
  have hnb := hW.1
  have hnl := hW.2.1
  refine ⟨Nat.le_of_ble_eq_true rfl, ?_⟩
  simp only [ent, entL, catN, List.length_cons, List.length_nil, List.replicate, List.cons_append, List.nil_append, reduceIte, Nat.reduceEqDiff,  Nat.reduceAdd, Nat.reduceSub, mnl_X4_gets]
  refine wpW (cs := [(183, ce_X4_leaseAt G D S), (161, ce_X4_allottedHour G D S), (205, ce_X1_givenTo G D S)]) (stop := [11]) (n := 200) (env_cons (ceV (by decide +kernel) ⟨by decide, by decide, by decide +kernel⟩ (by decide) rfl (ok_X4_leaseAt G G D S hW)) (env_cons (ceV (by decide +kernel) ⟨by decide, by decide, by decide +kernel⟩ (by decide) rfl (ok_X4_allottedHour G G D S hW)) (env_cons (ceV (by decide +kernel) ⟨by decide, by decide, by decide +kernel⟩ (by decide) rfl (ok_X1_givenTo G G D S hW)) (env_nil0 (env_hh rfl))))) ?_
  simp only [↓wpN_S, ↓step_u, ↓stC_s, stC_s, ↓stF_u, stF_u, ↓stepI, lenI, ↓kN_u, isS, ↓gI_0, ↓gI_S, ↓gL_0, ↓gL_S, ↓gD_0, ↓gD_S, ↓gR_0, ↓gR_S, ↓sI_c, ↓sL_c, ↓sD_c, ↓sR_c, ↓s1_r, ↓s1_i, ↓vR_r, ↓vR_n, ↓s0_n, s0_n, ↓oR_u, ↓sP_u, ↓sPa_0, ↓sPa_S, ↓lkC_c, ↓callK_u, ↓cQ_s, ↓cQ_n, putL, putW, clr, kil, catS, catN, refF, booF, finF, nF, nmOf_0, nmOf_1, nmOf_2, nmOf_3, nmOf_4, nmOf_5, nmOf_6, nmOf_50, nmOf_51, nmOf_52, ↓reduceIte, reduceIte, Bool.false_eq_true, eq_self, true_or, or_true, true_and, and_true, false_or, or_false, Nat.reduceAdd, Nat.reduceSub, Nat.reduceEqDiff, Nat.reduceLT, Nat.reduceLeDiff, reduceCtorEq, true_implies, List.length_cons, List.length_nil, List.replicate, List.cons_append, List.nil_append, mrt_X4_gets, mhh_X4_gets, mow_X4_gets, mnl_X4_gets, DX4_gets_0, DX4_gets_1, DX4_gets_2, DX4_gets_5, DX4_gets_6, DX4_gets_7, DX4_gets_8, DX4_gets_11, DX4_gets_12, DX4_gets_15, ce_X4_leaseAt, ↓ct_X4_leaseAt, ycl_X4_leaseAt, ce_X4_allottedHour, ↓ct_X4_allottedHour, ycl_X4_allottedHour, ce_X1_givenTo, ↓ct_X1_givenTo, ycl_X1_givenTo, cX_nil mhh_X4_gets]
  simp (disch := omega) only [i32_lit, i32_neg, i32_add, i32_mul, i32_sub, i32_nI, i32_lt, i32_le, i32_eq, inR_i, i32_clamp, i32_div, i32_max, i32_min, ite_max, ite_min, b2i_0, b2i_1, b2i_01, i32_toInt, tn_i, Int.toNat_natCast, em_t, true_and, and_true, Int.reduceToNat, Int.reduceLE, Int.reduceLT, Int.reduceAdd, Int.reduceMul, Int.reduceSub, Int.reduceNeg, Int.reduceEq, true_implies, not_true_eq_false, false_implies, not_false_eq_true, kC, rC0, rC1, rC2, rC3, rC4, kQ, rQ0, rQ1, kV, lV, kG, lG, kP, lP, kT, lT, LB1, LB2, LB3, LH1, LH2, LH3, LL1, LL2, LL3, dDy, dEv, true_and, and_true, Option.some.injEq, exists_eq_left', nmOf_0, nmOf_1, nmOf_2, nmOf_3, nmOf_4, nmOf_5, nmOf_6, Nat.add_sub_cancel, Nat.reduceSub, Nat.reduceLT, Nat.reduceEqDiff, ne_eq, not_false_eq_true, hI, hD0]
  refine ⟨by omega, by omega, fun h' f' hI' hM' hL' => ?_⟩
  obtain ⟨r, rfl⟩ := Int.eq_ofNat_of_zero_le hv.2.1
  simp only [Int.toNat_natCast] at hq hM' hL' ⊢
  replace hq := hq h' f' hI'
  have hD := hI'.cd
  have hD1 := hD
  have hA0 := hD.1
  have hB0 := hD.2
  obtain ⟨⟨kC, rC0, rC1, rC2, rC3, rC4⟩, ⟨kQ, rQ0, rQ1⟩, ⟨kV, lV⟩, ⟨kG, lG⟩, ⟨kP, lP⟩, ⟨kT, lT⟩, ⟨⟨LB1, LB2, LB3, LB4, LB5, LB6, LB7⟩, ⟨LH1, LH2, LH3, LH4, LH5, LH6, LH7⟩, ⟨LL1, LL2, LL3, LL4, LL5, LL6, LL7⟩⟩, hKB, hHA, hKL, hCJ⟩ := hA0
  obtain ⟨dDy, dEv, dG, dP, dV, dB, dL, dH⟩ := hB0
  have hnb := hW.1
  have hnl := hW.2.1
  obtain ⟨kH, ⟨rH5, rH6, rH7, rH8, rH12⟩, ⟨kH4, lH4⟩, ⟨kH5, lH5⟩, ⟨kH6, lH6⟩, ⟨kH7, lH7⟩⟩ := hHA r (by omega)
  obtain ⟨eH0, eH1, eH2, eH3⟩ := dH r (by omega)
  have qH := LH7 r (by omega)
  obtain ⟨kqH, lqH⟩ := LH6 (by omega)
  obtain ⟨vH0, vH0', vH1, vH1', -, vH2, vH2'⟩ := hW.2.2.2.2.1 r (by omega)
  refine wpW (cs := [(183, ce_X4_leaseAt G D S), (161, ce_X4_allottedHour G D S), (205, ce_X1_givenTo G D S)]) (stop := []) (n := 200) (env_cons (ceV (by decide +kernel) ⟨by decide, by decide, by decide +kernel⟩ (by decide) rfl (ok_X4_leaseAt G G D S hW)) (env_cons (ceV (by decide +kernel) ⟨by decide, by decide, by decide +kernel⟩ (by decide) rfl (ok_X4_allottedHour G G D S hW)) (env_cons (ceV (by decide +kernel) ⟨by decide, by decide, by decide +kernel⟩ (by decide) rfl (ok_X1_givenTo G G D S hW)) (env_nil0 (env_hh rfl))))) ?_
  simp only [↓wpN_S, ↓step_u, ↓stC_s, stC_s, ↓stF_u, stF_u, ↓stepI, lenI, ↓kN_u, isS, ↓gI_0, ↓gI_S, ↓gL_0, ↓gL_S, ↓gD_0, ↓gD_S, ↓gR_0, ↓gR_S, ↓sI_c, ↓sL_c, ↓sD_c, ↓sR_c, ↓s1_r, ↓s1_i, ↓vR_r, ↓vR_n, ↓s0_n, s0_n, ↓oR_u, ↓sP_u, ↓sPa_0, ↓sPa_S, ↓lkC_c, ↓callK_u, ↓cQ_s, ↓cQ_n, putL, putW, clr, kil, catS, catN, refF, booF, finF, nF, nmOf_0, nmOf_1, nmOf_2, nmOf_3, nmOf_4, nmOf_5, nmOf_6, nmOf_50, nmOf_51, nmOf_52, ↓reduceIte, reduceIte, Bool.false_eq_true, eq_self, true_or, or_true, true_and, and_true, false_or, or_false, Nat.reduceAdd, Nat.reduceSub, Nat.reduceEqDiff, Nat.reduceLT, Nat.reduceLeDiff, reduceCtorEq, true_implies, List.length_cons, List.length_nil, List.replicate, List.cons_append, List.nil_append, mrt_X4_gets, mhh_X4_gets, mow_X4_gets, mnl_X4_gets, DX4_gets_0, DX4_gets_1, DX4_gets_2, DX4_gets_5, DX4_gets_6, DX4_gets_7, DX4_gets_8, DX4_gets_11, DX4_gets_12, DX4_gets_15, ce_X4_leaseAt, ↓ct_X4_leaseAt, ycl_X4_leaseAt, ce_X4_allottedHour, ↓ct_X4_allottedHour, ycl_X4_allottedHour, ce_X1_givenTo, ↓ct_X1_givenTo, ycl_X1_givenTo, cX_nil mhh_X4_gets]
  simp (disch := omega) only [i32_lit, i32_neg, i32_add, i32_mul, i32_sub, i32_nI, i32_lt, i32_le, i32_eq, inR_i, i32_clamp, i32_div, i32_max, i32_min, ite_max, ite_min, b2i_0, b2i_1, b2i_01, i32_toInt, tn_i, Int.toNat_natCast, em_t, true_and, and_true, Int.reduceToNat, Int.reduceLE, Int.reduceLT, Int.reduceAdd, Int.reduceMul, Int.reduceSub, Int.reduceNeg, Int.reduceEq, true_implies, not_true_eq_false, false_implies, not_false_eq_true, kC, rC0, rC1, rC2, rC3, rC4, kQ, rQ0, rQ1, kV, lV, kG, lG, kP, lP, kT, lT, LB1, LB2, LB3, LH1, LH2, LH3, LL1, LL2, LL3, dDy, dEv, true_and, and_true, Option.some.injEq, exists_eq_left', nmOf_0, nmOf_1, nmOf_2, nmOf_3, nmOf_4, nmOf_5, nmOf_6, Nat.add_sub_cancel, Nat.reduceSub, Nat.reduceLT, Nat.reduceEqDiff, ne_eq, not_false_eq_true, kH, rH5, rH6, rH7, rH8, rH12, kH4, lH4, kH5, lH5, kH6, lH6, kH7, lH7, eH0, eH1, eH2, eH3, qH, kqH, lqH, hD1]
  exact ⟨by omega, r, by omega, rfl, hL', hq⟩
def ct_X4_got (G : GT) (D : WD) (S : SS) : Ct := fun As h Q _ => sR As fun c r => sI r fun o r => s0 r (CD G h D S ∧ c = D 0 0 ∧ (0 ≤ o.toInt ∧ o.toInt ≤ 7) ∧ Q (some (.int (i32 (S.gt (tn o))))) h)
def ce_X4_got (G : GT) (D : WD) (S : SS) : CE := (0, yX4_got, MX4_got, 1, 8, 0, 0, ct_X4_got G D S)
set_option maxRecDepth 100000 in
set_option maxHeartbeats 4000000 in
theorem ok_X4_got (G : GT) (G : GT) (D : WD) (S : SS) (hW : WF S) : OKm G yX4_got MX4_got 8 0 0 (ct_X4_got G D S) := by
  refine mkOK (ini := false) (by decide) rfl (by first | exact fun _ => rfl | (intro hh; cases hh)) (fun As h Q QX hc => ?_)
  replace hc := sR_e hc; obtain ⟨c, r, rfl, hc⟩ := hc
  replace hc := sI_e hc; obtain ⟨o, r, rfl, hc⟩ := hc
  replace hc := s0_e hc; obtain ⟨rfl, hc⟩ := hc
  obtain ⟨hD, rfl, hv, hq⟩ := hc
  obtain ⟨oV, hoV, rfl⟩ := i32_all o
  simp only [i32_toInt hoV, tn_i hoV] at hq hv
  have hA0 := hD.1
  have hB0 := hD.2
  obtain ⟨⟨kC, rC0, rC1, rC2, rC3, rC4⟩, ⟨kQ, rQ0, rQ1⟩, ⟨kV, lV⟩, ⟨kG, lG⟩, ⟨kP, lP⟩, ⟨kT, lT⟩, ⟨⟨LB1, LB2, LB3, LB4, LB5, LB6, LB7⟩, ⟨LH1, LH2, LH3, LH4, LH5, LH6, LH7⟩, ⟨LL1, LL2, LL3, LL4, LL5, LL6, LL7⟩⟩, hKB, hHA, hKL, hCJ⟩ := hA0
  obtain ⟨dDy, dEv, dG, dP, dV, dB, dL, dH⟩ := hB0
  have hnb := hW.1
  have hnl := hW.2.1
  refine ⟨Nat.le_of_ble_eq_true rfl, ?_⟩
  simp only [ent, entL, catN, List.length_cons, List.length_nil, List.replicate, List.cons_append, List.nil_append, reduceIte, Nat.reduceEqDiff,  Nat.reduceAdd, Nat.reduceSub, mnl_X4_got]
  refine wpW (cs := [(130, ce_X4_needIndex)]) (stop := [9]) (n := 200) (env_cons (ceS (by decide +kernel) ⟨by decide, by decide, by decide +kernel⟩ (by decide) (ok_X4_needIndex G)) (env_nil0 (env_hh rfl))) ?_
  simp only [↓wpN_S, ↓step_u, ↓stC_s, stC_s, ↓stF_u, stF_u, ↓stepI, lenI, ↓kN_u, isS, ↓gI_0, ↓gI_S, ↓gL_0, ↓gL_S, ↓gD_0, ↓gD_S, ↓gR_0, ↓gR_S, ↓sI_c, ↓sL_c, ↓sD_c, ↓sR_c, ↓s1_r, ↓s1_i, ↓vR_r, ↓vR_n, ↓s0_n, s0_n, ↓oR_u, ↓sP_u, ↓sPa_0, ↓sPa_S, ↓lkC_c, ↓callK_u, ↓cQ_s, ↓cQ_n, putL, putW, clr, kil, catS, catN, refF, booF, finF, nF, nmOf_0, nmOf_1, nmOf_2, nmOf_3, nmOf_4, nmOf_5, nmOf_6, nmOf_50, nmOf_51, nmOf_52, ↓reduceIte, reduceIte, Bool.false_eq_true, eq_self, true_or, or_true, true_and, and_true, false_or, or_false, Nat.reduceAdd, Nat.reduceSub, Nat.reduceEqDiff, Nat.reduceLT, Nat.reduceLeDiff, reduceCtorEq, true_implies, List.length_cons, List.length_nil, List.replicate, List.cons_append, List.nil_append, mrt_X4_got, mhh_X4_got, mow_X4_got, mnl_X4_got, DX4_got_0, DX4_got_1, DX4_got_2, DX4_got_5, DX4_got_6, DX4_got_9, DX4_got_10, DX4_got_13, DX4_got_14, DX4_got_15, ce_X4_needIndex, ↓ct_X4_needIndex, ycl_X4_needIndex, cX_nil mhh_X4_got]
  simp (disch := omega) only [i32_lit, i32_neg, i32_add, i32_mul, i32_sub, i32_nI, i32_lt, i32_le, i32_eq, inR_i, i32_clamp, i32_div, i32_max, i32_min, ite_max, ite_min, b2i_0, b2i_1, b2i_01, i32_toInt, tn_i, Int.toNat_natCast, em_t, true_and, and_true, Int.reduceToNat, Int.reduceLE, Int.reduceLT, Int.reduceAdd, Int.reduceMul, Int.reduceSub, Int.reduceNeg, Int.reduceEq, true_implies, not_true_eq_false, false_implies, not_false_eq_true, kC, rC0, rC1, rC2, rC3, rC4, kQ, rQ0, rQ1, kV, lV, kG, lG, kP, lP, kT, lT, LB1, LB2, LB3, LH1, LH2, LH3, LL1, LL2, LL3, dDy, dEv, true_and, and_true, Option.some.injEq, exists_eq_left', nmOf_0, nmOf_1, nmOf_2, nmOf_3, nmOf_4, nmOf_5, nmOf_6, Nat.add_sub_cancel, Nat.reduceSub, Nat.reduceLT, Nat.reduceEqDiff, ne_eq, not_false_eq_true]
  refine ⟨by omega, by omega, by omega, ?_⟩
  have hk := dG oV.toNat (by omega)
  refine wpW (cs := [(130, ce_X4_needIndex)]) (stop := []) (n := 200) (env_cons (ceS (by decide +kernel) ⟨by decide, by decide, by decide +kernel⟩ (by decide) (ok_X4_needIndex G)) (env_nil0 (env_hh rfl))) ?_
  simp only [↓wpN_S, ↓step_u, ↓stC_s, stC_s, ↓stF_u, stF_u, ↓stepI, lenI, ↓kN_u, isS, ↓gI_0, ↓gI_S, ↓gL_0, ↓gL_S, ↓gD_0, ↓gD_S, ↓gR_0, ↓gR_S, ↓sI_c, ↓sL_c, ↓sD_c, ↓sR_c, ↓s1_r, ↓s1_i, ↓vR_r, ↓vR_n, ↓s0_n, s0_n, ↓oR_u, ↓sP_u, ↓sPa_0, ↓sPa_S, ↓lkC_c, ↓callK_u, ↓cQ_s, ↓cQ_n, putL, putW, clr, kil, catS, catN, refF, booF, finF, nF, nmOf_0, nmOf_1, nmOf_2, nmOf_3, nmOf_4, nmOf_5, nmOf_6, nmOf_50, nmOf_51, nmOf_52, ↓reduceIte, reduceIte, Bool.false_eq_true, eq_self, true_or, or_true, true_and, and_true, false_or, or_false, Nat.reduceAdd, Nat.reduceSub, Nat.reduceEqDiff, Nat.reduceLT, Nat.reduceLeDiff, reduceCtorEq, true_implies, List.length_cons, List.length_nil, List.replicate, List.cons_append, List.nil_append, mrt_X4_got, mhh_X4_got, mow_X4_got, mnl_X4_got, DX4_got_0, DX4_got_1, DX4_got_2, DX4_got_5, DX4_got_6, DX4_got_9, DX4_got_10, DX4_got_13, DX4_got_14, DX4_got_15, ce_X4_needIndex, ↓ct_X4_needIndex, ycl_X4_needIndex, cX_nil mhh_X4_got]
  simp (disch := omega) only [i32_lit, i32_neg, i32_add, i32_mul, i32_sub, i32_nI, i32_lt, i32_le, i32_eq, inR_i, i32_clamp, i32_div, i32_max, i32_min, ite_max, ite_min, b2i_0, b2i_1, b2i_01, i32_toInt, tn_i, Int.toNat_natCast, em_t, true_and, and_true, Int.reduceToNat, Int.reduceLE, Int.reduceLT, Int.reduceAdd, Int.reduceMul, Int.reduceSub, Int.reduceNeg, Int.reduceEq, true_implies, not_true_eq_false, false_implies, not_false_eq_true, kC, rC0, rC1, rC2, rC3, rC4, kQ, rQ0, rQ1, kV, lV, kG, lG, kP, lP, kT, lT, LB1, LB2, LB3, LH1, LH2, LH3, LL1, LL2, LL3, dDy, dEv, true_and, and_true, Option.some.injEq, exists_eq_left', nmOf_0, nmOf_1, nmOf_2, nmOf_3, nmOf_4, nmOf_5, nmOf_6, Nat.add_sub_cancel, Nat.reduceSub, Nat.reduceLT, Nat.reduceEqDiff, ne_eq, not_false_eq_true, hk]
  exact ⟨by omega, hq⟩
def ct_X4_paid (G : GT) (D : WD) (S : SS) : Ct := fun As h Q _ => sR As fun c r => sI r fun o r => s0 r (CD G h D S ∧ c = D 0 0 ∧ (0 ≤ o.toInt ∧ o.toInt ≤ 15) ∧ Q (some (.int (i32 (S.pd (tn o))))) h)
def ce_X4_paid (G : GT) (D : WD) (S : SS) : CE := (0, yX4_paid, MX4_paid, 1, 8, 0, 0, ct_X4_paid G D S)
set_option maxRecDepth 100000 in
set_option maxHeartbeats 4000000 in
theorem ok_X4_paid (G : GT) (G : GT) (D : WD) (S : SS) (hW : WF S) : OKm G yX4_paid MX4_paid 8 0 0 (ct_X4_paid G D S) := by
  refine mkOK (ini := false) (by decide) rfl (by first | exact fun _ => rfl | (intro hh; cases hh)) (fun As h Q QX hc => ?_)
  replace hc := sR_e hc; obtain ⟨c, r, rfl, hc⟩ := hc
  replace hc := sI_e hc; obtain ⟨o, r, rfl, hc⟩ := hc
  replace hc := s0_e hc; obtain ⟨rfl, hc⟩ := hc
  obtain ⟨hD, rfl, hv, hq⟩ := hc
  obtain ⟨oV, hoV, rfl⟩ := i32_all o
  simp only [i32_toInt hoV, tn_i hoV] at hq hv
  have hA0 := hD.1
  have hB0 := hD.2
  obtain ⟨⟨kC, rC0, rC1, rC2, rC3, rC4⟩, ⟨kQ, rQ0, rQ1⟩, ⟨kV, lV⟩, ⟨kG, lG⟩, ⟨kP, lP⟩, ⟨kT, lT⟩, ⟨⟨LB1, LB2, LB3, LB4, LB5, LB6, LB7⟩, ⟨LH1, LH2, LH3, LH4, LH5, LH6, LH7⟩, ⟨LL1, LL2, LL3, LL4, LL5, LL6, LL7⟩⟩, hKB, hHA, hKL, hCJ⟩ := hA0
  obtain ⟨dDy, dEv, dG, dP, dV, dB, dL, dH⟩ := hB0
  have hnb := hW.1
  have hnl := hW.2.1
  refine ⟨Nat.le_of_ble_eq_true rfl, ?_⟩
  simp only [ent, entL, catN, List.length_cons, List.length_nil, List.replicate, List.cons_append, List.nil_append, reduceIte, Nat.reduceEqDiff,  Nat.reduceAdd, Nat.reduceSub, mnl_X4_paid]
  refine wpW (cs := [(130, ce_X4_needIndex)]) (stop := [9]) (n := 200) (env_cons (ceS (by decide +kernel) ⟨by decide, by decide, by decide +kernel⟩ (by decide) (ok_X4_needIndex G)) (env_nil0 (env_hh rfl))) ?_
  simp only [↓wpN_S, ↓step_u, ↓stC_s, stC_s, ↓stF_u, stF_u, ↓stepI, lenI, ↓kN_u, isS, ↓gI_0, ↓gI_S, ↓gL_0, ↓gL_S, ↓gD_0, ↓gD_S, ↓gR_0, ↓gR_S, ↓sI_c, ↓sL_c, ↓sD_c, ↓sR_c, ↓s1_r, ↓s1_i, ↓vR_r, ↓vR_n, ↓s0_n, s0_n, ↓oR_u, ↓sP_u, ↓sPa_0, ↓sPa_S, ↓lkC_c, ↓callK_u, ↓cQ_s, ↓cQ_n, putL, putW, clr, kil, catS, catN, refF, booF, finF, nF, nmOf_0, nmOf_1, nmOf_2, nmOf_3, nmOf_4, nmOf_5, nmOf_6, nmOf_50, nmOf_51, nmOf_52, ↓reduceIte, reduceIte, Bool.false_eq_true, eq_self, true_or, or_true, true_and, and_true, false_or, or_false, Nat.reduceAdd, Nat.reduceSub, Nat.reduceEqDiff, Nat.reduceLT, Nat.reduceLeDiff, reduceCtorEq, true_implies, List.length_cons, List.length_nil, List.replicate, List.cons_append, List.nil_append, mrt_X4_paid, mhh_X4_paid, mow_X4_paid, mnl_X4_paid, DX4_paid_0, DX4_paid_1, DX4_paid_2, DX4_paid_5, DX4_paid_6, DX4_paid_9, DX4_paid_10, DX4_paid_13, DX4_paid_14, DX4_paid_15, ce_X4_needIndex, ↓ct_X4_needIndex, ycl_X4_needIndex, cX_nil mhh_X4_paid]
  simp (disch := omega) only [i32_lit, i32_neg, i32_add, i32_mul, i32_sub, i32_nI, i32_lt, i32_le, i32_eq, inR_i, i32_clamp, i32_div, i32_max, i32_min, ite_max, ite_min, b2i_0, b2i_1, b2i_01, i32_toInt, tn_i, Int.toNat_natCast, em_t, true_and, and_true, Int.reduceToNat, Int.reduceLE, Int.reduceLT, Int.reduceAdd, Int.reduceMul, Int.reduceSub, Int.reduceNeg, Int.reduceEq, true_implies, not_true_eq_false, false_implies, not_false_eq_true, kC, rC0, rC1, rC2, rC3, rC4, kQ, rQ0, rQ1, kV, lV, kG, lG, kP, lP, kT, lT, LB1, LB2, LB3, LH1, LH2, LH3, LL1, LL2, LL3, dDy, dEv, true_and, and_true, Option.some.injEq, exists_eq_left', nmOf_0, nmOf_1, nmOf_2, nmOf_3, nmOf_4, nmOf_5, nmOf_6, Nat.add_sub_cancel, Nat.reduceSub, Nat.reduceLT, Nat.reduceEqDiff, ne_eq, not_false_eq_true]
  refine ⟨by omega, by omega, by omega, ?_⟩
  have hk := dP oV.toNat (by omega)
  refine wpW (cs := [(130, ce_X4_needIndex)]) (stop := []) (n := 200) (env_cons (ceS (by decide +kernel) ⟨by decide, by decide, by decide +kernel⟩ (by decide) (ok_X4_needIndex G)) (env_nil0 (env_hh rfl))) ?_
  simp only [↓wpN_S, ↓step_u, ↓stC_s, stC_s, ↓stF_u, stF_u, ↓stepI, lenI, ↓kN_u, isS, ↓gI_0, ↓gI_S, ↓gL_0, ↓gL_S, ↓gD_0, ↓gD_S, ↓gR_0, ↓gR_S, ↓sI_c, ↓sL_c, ↓sD_c, ↓sR_c, ↓s1_r, ↓s1_i, ↓vR_r, ↓vR_n, ↓s0_n, s0_n, ↓oR_u, ↓sP_u, ↓sPa_0, ↓sPa_S, ↓lkC_c, ↓callK_u, ↓cQ_s, ↓cQ_n, putL, putW, clr, kil, catS, catN, refF, booF, finF, nF, nmOf_0, nmOf_1, nmOf_2, nmOf_3, nmOf_4, nmOf_5, nmOf_6, nmOf_50, nmOf_51, nmOf_52, ↓reduceIte, reduceIte, Bool.false_eq_true, eq_self, true_or, or_true, true_and, and_true, false_or, or_false, Nat.reduceAdd, Nat.reduceSub, Nat.reduceEqDiff, Nat.reduceLT, Nat.reduceLeDiff, reduceCtorEq, true_implies, List.length_cons, List.length_nil, List.replicate, List.cons_append, List.nil_append, mrt_X4_paid, mhh_X4_paid, mow_X4_paid, mnl_X4_paid, DX4_paid_0, DX4_paid_1, DX4_paid_2, DX4_paid_5, DX4_paid_6, DX4_paid_9, DX4_paid_10, DX4_paid_13, DX4_paid_14, DX4_paid_15, ce_X4_needIndex, ↓ct_X4_needIndex, ycl_X4_needIndex, cX_nil mhh_X4_paid]
  simp (disch := omega) only [i32_lit, i32_neg, i32_add, i32_mul, i32_sub, i32_nI, i32_lt, i32_le, i32_eq, inR_i, i32_clamp, i32_div, i32_max, i32_min, ite_max, ite_min, b2i_0, b2i_1, b2i_01, i32_toInt, tn_i, Int.toNat_natCast, em_t, true_and, and_true, Int.reduceToNat, Int.reduceLE, Int.reduceLT, Int.reduceAdd, Int.reduceMul, Int.reduceSub, Int.reduceNeg, Int.reduceEq, true_implies, not_true_eq_false, false_implies, not_false_eq_true, kC, rC0, rC1, rC2, rC3, rC4, kQ, rQ0, rQ1, kV, lV, kG, lG, kP, lP, kT, lT, LB1, LB2, LB3, LH1, LH2, LH3, LL1, LL2, LL3, dDy, dEv, true_and, and_true, Option.some.injEq, exists_eq_left', nmOf_0, nmOf_1, nmOf_2, nmOf_3, nmOf_4, nmOf_5, nmOf_6, Nat.add_sub_cancel, Nat.reduceSub, Nat.reduceLT, Nat.reduceEqDiff, ne_eq, not_false_eq_true, hk]
  exact ⟨by omega, hq⟩
