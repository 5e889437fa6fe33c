/-! ===== the class: its reads ===== -/
/-- a read's answer: caches may have changed -/
def nxr (G : GT) (h : Hp) (D : WD) (S : SS) (Q : Option Value → Hp → Prop) (v : Value) : Prop := ∀ h', Fr h h' (WK D) → CI G h' D S → Q (some v) h'
def ct_X4_shade_t (G : GT) (D : WD) (S : SS) : Ct := fun As h Q QX => sR As fun c r => sI r fun hr r => sI r fun x r => sI r fun y r => s0 r (CI G h D S ∧ c = D 0 0 ∧ ((0 ≤ hr.toInt ∧ hr.toInt ≤ 11) ∧ (0 ≤ x.toInt ∧ x.toInt ≤ 15) ∧ (0 ≤ y.toInt ∧ y.toInt ≤ 15) → nxr G h D S Q (.int (i32 (bel S (tn hr) (x.toInt + 16 * y.toInt).toNat)))) ∧ (¬ ((0 ≤ hr.toInt ∧ hr.toInt ≤ 11) ∧ (0 ≤ x.toInt ∧ x.toInt ≤ 15) ∧ (0 ≤ y.toInt ∧ y.toInt ≤ 15)) → QX IOB h))
def ce_X4_shade_t (G : GT) (D : WD) (S : SS) : CE := (0, yX4_shade, MX4_shade, 3, 10, 4, 24, ct_X4_shade_t G D S)
set_option maxRecDepth 100000 in
set_option maxHeartbeats 4000000 in
theorem ok_X4_shade_t (G : GT) (G : GT) (D : WD) (S : SS) (hW : WF S) : OKm G yX4_shade MX4_shade 10 4 24 (ct_X4_shade_t G D S) := by
  refine mkOK (ini := false) (by decide) rfl (by first | exact fun _ => rfl | (intro hh; cases hh)) (fun As h Q QX hc => ?_)
  replace hc := sR_e hc; obtain ⟨c, r, rfl, hc⟩ := hc
  replace hc := sI_e hc; obtain ⟨hr, r, rfl, hc⟩ := hc
  replace hc := sI_e hc; obtain ⟨x, r, rfl, hc⟩ := hc
  replace hc := sI_e hc; obtain ⟨y, r, rfl, hc⟩ := hc
  replace hc := s0_e hc; obtain ⟨rfl, hc⟩ := hc
  obtain ⟨hI, rfl, hq, hx⟩ := hc
  obtain ⟨rV, hrV, rfl⟩ := i32_all hr
  obtain ⟨xV, hxV, rfl⟩ := i32_all x
  obtain ⟨yV, hyV, rfl⟩ := i32_all y
  simp only [i32_toInt hrV, tn_i hrV, i32_toInt hxV, i32_toInt hyV] at hq hx
  have hD := hI.cd
  have hA0 := hD.1
  have hB0 := hD.2
  obtain ⟨⟨kC, rC0, rC1, rC2, rC3, rC4⟩, ⟨kQ, rQ0, rQ1⟩, ⟨kV, lV⟩, ⟨kG, lG⟩, ⟨kP, lP⟩, ⟨kT, lT⟩, ⟨⟨LB1, LB2, LB3, LB4, LB5, LB6, LB7⟩, ⟨LH1, LH2, LH3, LH4, LH5, LH6, LH7⟩, ⟨LL1, LL2, LL3, LL4, LL5, LL6, LL7⟩⟩, hKB, hHA, hKL, hCJ⟩ := hA0
  obtain ⟨dDy, dEv, dG, dP, dV, dB, dL, dH⟩ := hB0
  have hnb := hW.1
  have hnl := hW.2.1
  refine ⟨Nat.le_of_ble_eq_true rfl, ?_⟩
  simp only [ent, entL, catN, List.length_cons, List.length_nil, List.replicate, List.cons_append, List.nil_append, reduceIte, Nat.reduceEqDiff,  Nat.reduceAdd, Nat.reduceSub, mnl_X4_shade]
  refine wpW (cs := [(130, ce_X4_needIndex_t), (149, ce_X4_measuredHour_t G D S)]) (stop := [17]) (n := 200) (env_cons (ceS (by decide +kernel) ⟨by decide, by decide, by decide +kernel⟩ (by decide) (ok_X4_needIndex_t G)) (env_cons (ceV (by decide +kernel) ⟨by decide, by decide, by decide +kernel⟩ (by decide) rfl (ok_X4_measuredHour_t G G D S hW)) (env_nil0 (env_hh rfl)))) ?_
  simp only [↓wpN_S, ↓step_u, ↓stC_s, stC_s, ↓stF_u, stF_u, ↓stepI, lenI, ↓kN_u, isS, ↓gI_0, ↓gI_S, ↓gL_0, ↓gL_S, ↓gD_0, ↓gD_S, ↓gR_0, ↓gR_S, ↓sI_c, ↓sL_c, ↓sD_c, ↓sR_c, ↓s1_r, ↓s1_i, ↓vR_r, ↓vR_n, ↓s0_n, s0_n, ↓oR_u, ↓sP_u, ↓sPa_0, ↓sPa_S, ↓lkC_c, ↓callK_u, ↓cQ_s, ↓cQ_n, putL, putW, clr, kil, catS, catN, refF, booF, finF, nF, nmOf_0, nmOf_1, nmOf_2, nmOf_3, nmOf_4, nmOf_5, nmOf_6, nmOf_50, nmOf_51, nmOf_52, ↓reduceIte, reduceIte, Bool.false_eq_true, eq_self, true_or, or_true, true_and, and_true, false_or, or_false, Nat.reduceAdd, Nat.reduceSub, Nat.reduceEqDiff, Nat.reduceLT, Nat.reduceLeDiff, reduceCtorEq, true_implies, List.length_cons, List.length_nil, List.replicate, List.cons_append, List.nil_append, mrt_X4_shade, mhh_X4_shade, mow_X4_shade, mnl_X4_shade, DX4_shade_0, DX4_shade_1, DX4_shade_3, DX4_shade_6, DX4_shade_7, DX4_shade_9, DX4_shade_12, DX4_shade_13, DX4_shade_14, DX4_shade_17, DX4_shade_20, DX4_shade_21, DX4_shade_23, DX4_shade_24, DX4_shade_25, DX4_shade_26, DX4_shade_27, ce_X4_needIndex_t, ↓ct_X4_needIndex_t, ycl_X4_needIndex, ce_X4_measuredHour_t, ↓ct_X4_measuredHour_t, ycl_X4_measuredHour, cX_nil mhh_X4_shade]
  simp (disch := omega) only [i32_lit, i32_neg, i32_add, i32_mul, i32_sub, i32_nI, i32_lt, i32_le, i32_eq, inR_i, i32_clamp, i32_div, i32_max, i32_min, ite_max, ite_min, b2i_0, b2i_1, b2i_01, i32_toInt, tn_i, Int.toNat_natCast, em_t, true_and, and_true, Int.reduceToNat, Int.reduceLE, Int.reduceLT, Int.reduceAdd, Int.reduceMul, Int.reduceSub, Int.reduceNeg, Int.reduceEq, true_implies, not_true_eq_false, false_implies, not_false_eq_true, kC, rC0, rC1, rC2, rC3, rC4, kQ, rQ0, rQ1, kV, lV, kG, lG, kP, lP, kT, lT, LB1, LB2, LB3, LH1, LH2, LH3, LL1, LL2, LL3, dDy, dEv, true_and, and_true, Option.some.injEq, exists_eq_left', nmOf_0, nmOf_1, nmOf_2, nmOf_3, nmOf_4, nmOf_5, nmOf_6, Nat.add_sub_cancel, Nat.reduceSub, Nat.reduceLT, Nat.reduceEqDiff, ne_eq, not_false_eq_true, hI]
  refine ⟨fun h1 => ⟨fun h2 => ⟨fun h3 h' f' hI' hM' => ?_, fun z => hx (by omega)⟩, fun z => hx (by omega)⟩, fun z => hx (by omega)⟩
  obtain ⟨r, rfl⟩ := Int.eq_ofNat_of_zero_le h3.1
  simp only [Int.toNat_natCast] at hq hM' ⊢
  refine Wp.z ?_
  have hk := (hM'.1 (xV + 16 * yV).toNat (by omega)).1
  replace hq := hq ⟨by omega, by omega, by omega⟩ h' f' hI'
  have hD := hI'.cd
  have hA0 := hD.1
  have hB0 := hD.2
  obtain ⟨⟨kC, rC0, rC1, rC2, rC3, rC4⟩, ⟨kQ, rQ0, rQ1⟩, ⟨kV, lV⟩, ⟨kG, lG⟩, ⟨kP, lP⟩, ⟨kT, lT⟩, ⟨⟨LB1, LB2, LB3, LB4, LB5, LB6, LB7⟩, ⟨LH1, LH2, LH3, LH4, LH5, LH6, LH7⟩, ⟨LL1, LL2, LL3, LL4, LL5, LL6, LL7⟩⟩, hKB, hHA, hKL, hCJ⟩ := hA0
  obtain ⟨dDy, dEv, dG, dP, dV, dB, dL, dH⟩ := hB0
  have hnb := hW.1
  have hnl := hW.2.1
  obtain ⟨kH, ⟨rH5, rH6, rH7, rH8, rH12⟩, ⟨kH4, lH4⟩, ⟨kH5, lH5⟩, ⟨kH6, lH6⟩, ⟨kH7, lH7⟩⟩ := hHA r (by omega)
  obtain ⟨eH0, eH1, eH2, eH3⟩ := dH r (by omega)
  have qH := LH7 r (by omega)
  obtain ⟨kqH, lqH⟩ := LH6 (by omega)
  obtain ⟨vH0, vH0', vH1, vH1', -, vH2, vH2'⟩ := hW.2.2.2.2.1 r (by omega)
  refine wpW (cs := [(130, ce_X4_needIndex_t), (149, ce_X4_measuredHour_t G D S)]) (stop := []) (n := 200) (env_cons (ceS (by decide +kernel) ⟨by decide, by decide, by decide +kernel⟩ (by decide) (ok_X4_needIndex_t G)) (env_cons (ceV (by decide +kernel) ⟨by decide, by decide, by decide +kernel⟩ (by decide) rfl (ok_X4_measuredHour_t G G D S hW)) (env_nil0 (env_hh rfl)))) ?_
  simp only [↓wpN_S, ↓step_u, ↓stC_s, stC_s, ↓stF_u, stF_u, ↓stepI, lenI, ↓kN_u, isS, ↓gI_0, ↓gI_S, ↓gL_0, ↓gL_S, ↓gD_0, ↓gD_S, ↓gR_0, ↓gR_S, ↓sI_c, ↓sL_c, ↓sD_c, ↓sR_c, ↓s1_r, ↓s1_i, ↓vR_r, ↓vR_n, ↓s0_n, s0_n, ↓oR_u, ↓sP_u, ↓sPa_0, ↓sPa_S, ↓lkC_c, ↓callK_u, ↓cQ_s, ↓cQ_n, putL, putW, clr, kil, catS, catN, refF, booF, finF, nF, nmOf_0, nmOf_1, nmOf_2, nmOf_3, nmOf_4, nmOf_5, nmOf_6, nmOf_50, nmOf_51, nmOf_52, ↓reduceIte, reduceIte, Bool.false_eq_true, eq_self, true_or, or_true, true_and, and_true, false_or, or_false, Nat.reduceAdd, Nat.reduceSub, Nat.reduceEqDiff, Nat.reduceLT, Nat.reduceLeDiff, reduceCtorEq, true_implies, List.length_cons, List.length_nil, List.replicate, List.cons_append, List.nil_append, mrt_X4_shade, mhh_X4_shade, mow_X4_shade, mnl_X4_shade, DX4_shade_0, DX4_shade_1, DX4_shade_3, DX4_shade_6, DX4_shade_7, DX4_shade_9, DX4_shade_12, DX4_shade_13, DX4_shade_14, DX4_shade_17, DX4_shade_20, DX4_shade_21, DX4_shade_23, DX4_shade_24, DX4_shade_25, DX4_shade_26, DX4_shade_27, ce_X4_needIndex_t, ↓ct_X4_needIndex_t, ycl_X4_needIndex, ce_X4_measuredHour_t, ↓ct_X4_measuredHour_t, ycl_X4_measuredHour, cX_nil mhh_X4_shade]
  simp (disch := omega) only [i32_lit, i32_neg, i32_add, i32_mul, i32_sub, i32_nI, i32_lt, i32_le, i32_eq, inR_i, i32_clamp, i32_div, i32_max, i32_min, ite_max, ite_min, b2i_0, b2i_1, b2i_01, i32_toInt, tn_i, Int.toNat_natCast, em_t, true_and, and_true, Int.reduceToNat, Int.reduceLE, Int.reduceLT, Int.reduceAdd, Int.reduceMul, Int.reduceSub, Int.reduceNeg, Int.reduceEq, true_implies, not_true_eq_false, false_implies, not_false_eq_true, kC, rC0, rC1, rC2, rC3, rC4, kQ, rQ0, rQ1, kV, lV, kG, lG, kP, lP, kT, lT, LB1, LB2, LB3, LH1, LH2, LH3, LL1, LL2, LL3, dDy, dEv, true_and, and_true, Option.some.injEq, exists_eq_left', nmOf_0, nmOf_1, nmOf_2, nmOf_3, nmOf_4, nmOf_5, nmOf_6, Nat.add_sub_cancel, Nat.reduceSub, Nat.reduceLT, Nat.reduceEqDiff, ne_eq, not_false_eq_true, kH, rH5, rH6, rH7, rH8, rH12, kH4, lH4, kH5, lH5, kH6, lH6, kH7, lH7, eH0, eH1, eH2, eH3, qH, kqH, lqH, hk]
  exact ⟨by omega, hq⟩
def ct_X4_shades_t (G : GT) (D : WD) (S : SS) : Ct := fun As h Q QX => sR As fun c r => sI r fun hr r => sI r fun x r => sI r fun y r => s0 r (CI G h D S ∧ c = D 0 0 ∧ ((0 ≤ hr.toInt ∧ hr.toInt ≤ 11) ∧ (0 ≤ x.toInt ∧ x.toInt ≤ 15) ∧ (0 ≤ y.toInt ∧ y.toInt ≤ 15) → nxr G h D S Q (.int (i32 (shd S (tn hr) (x.toInt + 16 * y.toInt).toNat)))) ∧ (¬ ((0 ≤ hr.toInt ∧ hr.toInt ≤ 11) ∧ (0 ≤ x.toInt ∧ x.toInt ≤ 15) ∧ (0 ≤ y.toInt ∧ y.toInt ≤ 15)) → QX IOB h))
def ce_X4_shades_t (G : GT) (D : WD) (S : SS) : CE := (0, yX4_shades, MX4_shades, 3, 10, 4, 24, ct_X4_shades_t G D S)
set_option maxRecDepth 100000 in
set_option maxHeartbeats 4000000 in
theorem ok_X4_shades_t (G : GT) (G : GT) (D : WD) (S : SS) (hW : WF S) : OKm G yX4_shades MX4_shades 10 4 24 (ct_X4_shades_t G D S) := by
  refine mkOK (ini := false) (by decide) rfl (by first | exact fun _ => rfl | (intro hh; cases hh)) (fun As h Q QX hc => ?_)
  replace hc := sR_e hc; obtain ⟨c, r, rfl, hc⟩ := hc
  replace hc := sI_e hc; obtain ⟨hr, r, rfl, hc⟩ := hc
  replace hc := sI_e hc; obtain ⟨x, r, rfl, hc⟩ := hc
  replace hc := sI_e hc; obtain ⟨y, r, rfl, hc⟩ := hc
  replace hc := s0_e hc; obtain ⟨rfl, hc⟩ := hc
  obtain ⟨hI, rfl, hq, hx⟩ := hc
  obtain ⟨rV, hrV, rfl⟩ := i32_all hr
  obtain ⟨xV, hxV, rfl⟩ := i32_all x
  obtain ⟨yV, hyV, rfl⟩ := i32_all y
  simp only [i32_toInt hrV, tn_i hrV, i32_toInt hxV, i32_toInt hyV] at hq hx
  have hD := hI.cd
  have hA0 := hD.1
  have hB0 := hD.2
  obtain ⟨⟨kC, rC0, rC1, rC2, rC3, rC4⟩, ⟨kQ, rQ0, rQ1⟩, ⟨kV, lV⟩, ⟨kG, lG⟩, ⟨kP, lP⟩, ⟨kT, lT⟩, ⟨⟨LB1, LB2, LB3, LB4, LB5, LB6, LB7⟩, ⟨LH1, LH2, LH3, LH4, LH5, LH6, LH7⟩, ⟨LL1, LL2, LL3, LL4, LL5, LL6, LL7⟩⟩, hKB, hHA, hKL, hCJ⟩ := hA0
  obtain ⟨dDy, dEv, dG, dP, dV, dB, dL, dH⟩ := hB0
  have hnb := hW.1
  have hnl := hW.2.1
  refine ⟨Nat.le_of_ble_eq_true rfl, ?_⟩
  simp only [ent, entL, catN, List.length_cons, List.length_nil, List.replicate, List.cons_append, List.nil_append, reduceIte, Nat.reduceEqDiff,  Nat.reduceAdd, Nat.reduceSub, mnl_X4_shades]
  refine wpW (cs := [(130, ce_X4_needIndex_t), (149, ce_X4_measuredHour_t G D S)]) (stop := [17]) (n := 200) (env_cons (ceS (by decide +kernel) ⟨by decide, by decide, by decide +kernel⟩ (by decide) (ok_X4_needIndex_t G)) (env_cons (ceV (by decide +kernel) ⟨by decide, by decide, by decide +kernel⟩ (by decide) rfl (ok_X4_measuredHour_t G G D S hW)) (env_nil0 (env_hh rfl)))) ?_
  simp only [↓wpN_S, ↓step_u, ↓stC_s, stC_s, ↓stF_u, stF_u, ↓stepI, lenI, ↓kN_u, isS, ↓gI_0, ↓gI_S, ↓gL_0, ↓gL_S, ↓gD_0, ↓gD_S, ↓gR_0, ↓gR_S, ↓sI_c, ↓sL_c, ↓sD_c, ↓sR_c, ↓s1_r, ↓s1_i, ↓vR_r, ↓vR_n, ↓s0_n, s0_n, ↓oR_u, ↓sP_u, ↓sPa_0, ↓sPa_S, ↓lkC_c, ↓callK_u, ↓cQ_s, ↓cQ_n, putL, putW, clr, kil, catS, catN, refF, booF, finF, nF, nmOf_0, nmOf_1, nmOf_2, nmOf_3, nmOf_4, nmOf_5, nmOf_6, nmOf_50, nmOf_51, nmOf_52, ↓reduceIte, reduceIte, Bool.false_eq_true, eq_self, true_or, or_true, true_and, and_true, false_or, or_false, Nat.reduceAdd, Nat.reduceSub, Nat.reduceEqDiff, Nat.reduceLT, Nat.reduceLeDiff, reduceCtorEq, true_implies, List.length_cons, List.length_nil, List.replicate, List.cons_append, List.nil_append, mrt_X4_shades, mhh_X4_shades, mow_X4_shades, mnl_X4_shades, DX4_shades_0, DX4_shades_1, DX4_shades_3, DX4_shades_6, DX4_shades_7, DX4_shades_9, DX4_shades_12, DX4_shades_13, DX4_shades_14, DX4_shades_17, DX4_shades_20, DX4_shades_21, DX4_shades_23, DX4_shades_24, DX4_shades_25, DX4_shades_26, DX4_shades_27, ce_X4_needIndex_t, ↓ct_X4_needIndex_t, ycl_X4_needIndex, ce_X4_measuredHour_t, ↓ct_X4_measuredHour_t, ycl_X4_measuredHour, cX_nil mhh_X4_shades]
  simp (disch := omega) only [i32_lit, i32_neg, i32_add, i32_mul, i32_sub, i32_nI, i32_lt, i32_le, i32_eq, inR_i, i32_clamp, i32_div, i32_max, i32_min, ite_max, ite_min, b2i_0, b2i_1, b2i_01, i32_toInt, tn_i, Int.toNat_natCast, em_t, true_and, and_true, Int.reduceToNat, Int.reduceLE, Int.reduceLT, Int.reduceAdd, Int.reduceMul, Int.reduceSub, Int.reduceNeg, Int.reduceEq, true_implies, not_true_eq_false, false_implies, not_false_eq_true, kC, rC0, rC1, rC2, rC3, rC4, kQ, rQ0, rQ1, kV, lV, kG, lG, kP, lP, kT, lT, LB1, LB2, LB3, LH1, LH2, LH3, LL1, LL2, LL3, dDy, dEv, true_and, and_true, Option.some.injEq, exists_eq_left', nmOf_0, nmOf_1, nmOf_2, nmOf_3, nmOf_4, nmOf_5, nmOf_6, Nat.add_sub_cancel, Nat.reduceSub, Nat.reduceLT, Nat.reduceEqDiff, ne_eq, not_false_eq_true, hI]
  refine ⟨fun h1 => ⟨fun h2 => ⟨fun h3 h' f' hI' hM' => ?_, fun z => hx (by omega)⟩, fun z => hx (by omega)⟩, fun z => hx (by omega)⟩
  obtain ⟨r, rfl⟩ := Int.eq_ofNat_of_zero_le h3.1
  simp only [Int.toNat_natCast] at hq hM' ⊢
  refine Wp.z ?_
  have hk := (hM'.1 (xV + 16 * yV).toNat (by omega)).2
  replace hq := hq ⟨by omega, by omega, by omega⟩ h' f' hI'
  have hD := hI'.cd
  have hA0 := hD.1
  have hB0 := hD.2
  obtain ⟨⟨kC, rC0, rC1, rC2, rC3, rC4⟩, ⟨kQ, rQ0, rQ1⟩, ⟨kV, lV⟩, ⟨kG, lG⟩, ⟨kP, lP⟩, ⟨kT, lT⟩, ⟨⟨LB1, LB2, LB3, LB4, LB5, LB6, LB7⟩, ⟨LH1, LH2, LH3, LH4, LH5, LH6, LH7⟩, ⟨LL1, LL2, LL3, LL4, LL5, LL6, LL7⟩⟩, hKB, hHA, hKL, hCJ⟩ := hA0
  obtain ⟨dDy, dEv, dG, dP, dV, dB, dL, dH⟩ := hB0
  have hnb := hW.1
  have hnl := hW.2.1
  obtain ⟨kH, ⟨rH5, rH6, rH7, rH8, rH12⟩, ⟨kH4, lH4⟩, ⟨kH5, lH5⟩, ⟨kH6, lH6⟩, ⟨kH7, lH7⟩⟩ := hHA r (by omega)
  obtain ⟨eH0, eH1, eH2, eH3⟩ := dH r (by omega)
  have qH := LH7 r (by omega)
  obtain ⟨kqH, lqH⟩ := LH6 (by omega)
  obtain ⟨vH0, vH0', vH1, vH1', -, vH2, vH2'⟩ := hW.2.2.2.2.1 r (by omega)
  refine wpW (cs := [(130, ce_X4_needIndex_t), (149, ce_X4_measuredHour_t G D S)]) (stop := []) (n := 200) (env_cons (ceS (by decide +kernel) ⟨by decide, by decide, by decide +kernel⟩ (by decide) (ok_X4_needIndex_t G)) (env_cons (ceV (by decide +kernel) ⟨by decide, by decide, by decide +kernel⟩ (by decide) rfl (ok_X4_measuredHour_t G G D S hW)) (env_nil0 (env_hh rfl)))) ?_
  simp only [↓wpN_S, ↓step_u, ↓stC_s, stC_s, ↓stF_u, stF_u, ↓stepI, lenI, ↓kN_u, isS, ↓gI_0, ↓gI_S, ↓gL_0, ↓gL_S, ↓gD_0, ↓gD_S, ↓gR_0, ↓gR_S, ↓sI_c, ↓sL_c, ↓sD_c, ↓sR_c, ↓s1_r, ↓s1_i, ↓vR_r, ↓vR_n, ↓s0_n, s0_n, ↓oR_u, ↓sP_u, ↓sPa_0, ↓sPa_S, ↓lkC_c, ↓callK_u, ↓cQ_s, ↓cQ_n, putL, putW, clr, kil, catS, catN, refF, booF, finF, nF, nmOf_0, nmOf_1, nmOf_2, nmOf_3, nmOf_4, nmOf_5, nmOf_6, nmOf_50, nmOf_51, nmOf_52, ↓reduceIte, reduceIte, Bool.false_eq_true, eq_self, true_or, or_true, true_and, and_true, false_or, or_false, Nat.reduceAdd, Nat.reduceSub, Nat.reduceEqDiff, Nat.reduceLT, Nat.reduceLeDiff, reduceCtorEq, true_implies, List.length_cons, List.length_nil, List.replicate, List.cons_append, List.nil_append, mrt_X4_shades, mhh_X4_shades, mow_X4_shades, mnl_X4_shades, DX4_shades_0, DX4_shades_1, DX4_shades_3, DX4_shades_6, DX4_shades_7, DX4_shades_9, DX4_shades_12, DX4_shades_13, DX4_shades_14, DX4_shades_17, DX4_shades_20, DX4_shades_21, DX4_shades_23, DX4_shades_24, DX4_shades_25, DX4_shades_26, DX4_shades_27, ce_X4_needIndex_t, ↓ct_X4_needIndex_t, ycl_X4_needIndex, ce_X4_measuredHour_t, ↓ct_X4_measuredHour_t, ycl_X4_measuredHour, cX_nil mhh_X4_shades]
  simp (disch := omega) only [i32_lit, i32_neg, i32_add, i32_mul, i32_sub, i32_nI, i32_lt, i32_le, i32_eq, inR_i, i32_clamp, i32_div, i32_max, i32_min, ite_max, ite_min, b2i_0, b2i_1, b2i_01, i32_toInt, tn_i, Int.toNat_natCast, em_t, true_and, and_true, Int.reduceToNat, Int.reduceLE, Int.reduceLT, Int.reduceAdd, Int.reduceMul, Int.reduceSub, Int.reduceNeg, Int.reduceEq, true_implies, not_true_eq_false, false_implies, not_false_eq_true, kC, rC0, rC1, rC2, rC3, rC4, kQ, rQ0, rQ1, kV, lV, kG, lG, kP, lP, kT, lT, LB1, LB2, LB3, LH1, LH2, LH3, LL1, LL2, LL3, dDy, dEv, true_and, and_true, Option.some.injEq, exists_eq_left', nmOf_0, nmOf_1, nmOf_2, nmOf_3, nmOf_4, nmOf_5, nmOf_6, Nat.add_sub_cancel, Nat.reduceSub, Nat.reduceLT, Nat.reduceEqDiff, ne_eq, not_false_eq_true, kH, rH5, rH6, rH7, rH8, rH12, kH4, lH4, kH5, lH5, kH6, lH6, kH7, lH7, eH0, eH1, eH2, eH3, qH, kqH, lqH, hk]
  exact ⟨by omega, hq⟩
def ct_X4_area_t (G : GT) (D : WD) (S : SS) : Ct := fun As h Q QX => sR As fun c r => sI r fun b r => sI r fun hr r => s0 r (CI G h D S ∧ c = D 0 0 ∧ ((0 ≤ b.toInt ∧ b.toInt < S.nb) ∧ (0 ≤ hr.toInt ∧ hr.toInt ≤ 11) → nxr G h D S Q (.int (i32 (area S b.toInt (tn hr))))) ∧ (¬ ((0 ≤ b.toInt ∧ b.toInt < S.nb) ∧ (0 ≤ hr.toInt ∧ hr.toInt ≤ 11)) → QX IOB h))
def ce_X4_area_t (G : GT) (D : WD) (S : SS) : CE := (0, yX4_area, MX4_area, 2, 10, 4, 24, ct_X4_area_t G D S)
set_option maxRecDepth 100000 in
set_option maxHeartbeats 4000000 in
theorem ok_X4_area_t (G : GT) (G : GT) (D : WD) (S : SS) (hW : WF S) : OKm G yX4_area MX4_area 10 4 24 (ct_X4_area_t G D S) := by
  refine mkOK (ini := false) (by decide) rfl (by first | exact fun _ => rfl | (intro hh; cases hh)) (fun As h Q QX hc => ?_)
  replace hc := sR_e hc; obtain ⟨c, r, rfl, hc⟩ := hc
  replace hc := sI_e hc; obtain ⟨b, r, rfl, hc⟩ := hc
  replace hc := sI_e hc; obtain ⟨hr, r, rfl, hc⟩ := hc
  replace hc := s0_e hc; obtain ⟨rfl, hc⟩ := hc
  obtain ⟨hI, rfl, hq, hx⟩ := hc
  obtain ⟨bV, hbV, rfl⟩ := i32_all b
  obtain ⟨rV, hrV, rfl⟩ := i32_all hr
  simp only [i32_toInt hrV, tn_i hrV, i32_toInt hbV] at hq hx
  have hD := hI.cd
  have hD0 := hD
  have hA0 := hD.1
  have hB0 := hD.2
  obtain ⟨⟨kC, rC0, rC1, rC2, rC3, rC4⟩, ⟨kQ, rQ0, rQ1⟩, ⟨kV, lV⟩, ⟨kG, lG⟩, ⟨kP, lP⟩, ⟨kT, lT⟩, ⟨⟨LB1, LB2, LB3, LB4, LB5, LB6, LB7⟩, ⟨LH1, LH2, LH3, LH4, LH5, LH6, LH7⟩, ⟨LL1, LL2, LL3, LL4, LL5, LL6, LL7⟩⟩, hKB, hHA, hKL, hCJ⟩ := hA0
  obtain ⟨dDy, dEv, dG, dP, dV, dB, dL, dH⟩ := hB0
  have hnb := hW.1
  have hnl := hW.2.1
  refine ⟨Nat.le_of_ble_eq_true rfl, ?_⟩
  simp only [ent, entL, catN, List.length_cons, List.length_nil, List.replicate, List.cons_append, List.nil_append, reduceIte, Nat.reduceEqDiff,  Nat.reduceAdd, Nat.reduceSub, mnl_X4_area]
  refine wpW (cs := [(127, ce_X4_buildingAt_t G D S), (149, ce_X4_measuredHour_t G D S), (158, ce_X1_areaOf G D S)]) (stop := [11]) (n := 200) (env_cons (ceV (by decide +kernel) ⟨by decide, by decide, by decide +kernel⟩ (by decide) rfl (ok_X4_buildingAt_t G G D S hW)) (env_cons (ceV (by decide +kernel) ⟨by decide, by decide, by decide +kernel⟩ (by decide) rfl (ok_X4_measuredHour_t G G D S hW)) (env_cons (ceV (by decide +kernel) ⟨by decide, by decide, by decide +kernel⟩ (by decide) rfl (ok_X1_areaOf G G D S hW)) (env_nil0 (env_hh rfl))))) ?_
  simp only [↓wpN_S, ↓step_u, ↓stC_s, stC_s, ↓stF_u, stF_u, ↓stepI, lenI, ↓kN_u, isS, ↓gI_0, ↓gI_S, ↓gL_0, ↓gL_S, ↓gD_0, ↓gD_S, ↓gR_0, ↓gR_S, ↓sI_c, ↓sL_c, ↓sD_c, ↓sR_c, ↓s1_r, ↓s1_i, ↓vR_r, ↓vR_n, ↓s0_n, s0_n, ↓oR_u, ↓sP_u, ↓sPa_0, ↓sPa_S, ↓lkC_c, ↓callK_u, ↓cQ_s, ↓cQ_n, putL, putW, clr, kil, catS, catN, refF, booF, finF, nF, nmOf_0, nmOf_1, nmOf_2, nmOf_3, nmOf_4, nmOf_5, nmOf_6, nmOf_50, nmOf_51, nmOf_52, ↓reduceIte, reduceIte, Bool.false_eq_true, eq_self, true_or, or_true, true_and, and_true, false_or, or_false, Nat.reduceAdd, Nat.reduceSub, Nat.reduceEqDiff, Nat.reduceLT, Nat.reduceLeDiff, reduceCtorEq, true_implies, List.length_cons, List.length_nil, List.replicate, List.cons_append, List.nil_append, mrt_X4_area, mhh_X4_area, mow_X4_area, mnl_X4_area, DX4_area_0, DX4_area_1, DX4_area_2, DX4_area_5, DX4_area_6, DX4_area_7, DX4_area_8, DX4_area_11, DX4_area_12, DX4_area_15, ce_X4_buildingAt_t, ↓ct_X4_buildingAt_t, ycl_X4_buildingAt, ce_X4_measuredHour_t, ↓ct_X4_measuredHour_t, ycl_X4_measuredHour, ce_X1_areaOf, ↓ct_X1_areaOf, ycl_X1_areaOf, cX_nil mhh_X4_area]
  simp (disch := omega) only [i32_lit, i32_neg, i32_add, i32_mul, i32_sub, i32_nI, i32_lt, i32_le, i32_eq, inR_i, i32_clamp, i32_div, i32_max, i32_min, ite_max, ite_min, b2i_0, b2i_1, b2i_01, i32_toInt, tn_i, Int.toNat_natCast, em_t, true_and, and_true, Int.reduceToNat, Int.reduceLE, Int.reduceLT, Int.reduceAdd, Int.reduceMul, Int.reduceSub, Int.reduceNeg, Int.reduceEq, true_implies, not_true_eq_false, false_implies, not_false_eq_true, kC, rC0, rC1, rC2, rC3, rC4, kQ, rQ0, rQ1, kV, lV, kG, lG, kP, lP, kT, lT, LB1, LB2, LB3, LH1, LH2, LH3, LL1, LL2, LL3, dDy, dEv, true_and, and_true, Option.some.injEq, exists_eq_left', nmOf_0, nmOf_1, nmOf_2, nmOf_3, nmOf_4, nmOf_5, nmOf_6, Nat.add_sub_cancel, Nat.reduceSub, Nat.reduceLT, Nat.reduceEqDiff, ne_eq, not_false_eq_true, hI, hD0]
  refine ⟨fun h1 => ⟨fun h3 h' f' hI' hM' => ?_, fun z => hx (by omega)⟩, fun z => hx (by omega)⟩
  obtain ⟨r, rfl⟩ := Int.eq_ofNat_of_zero_le h3.1
  simp only [Int.toNat_natCast] at hq hM' ⊢
  refine Wp.z ?_
  replace hq := hq ⟨by omega, by omega⟩ h' f' hI'
  have hD := hI'.cd
  have hD1 := hD
  have hA0 := hD.1
  have hB0 := hD.2
  obtain ⟨⟨kC, rC0, rC1, rC2, rC3, rC4⟩, ⟨kQ, rQ0, rQ1⟩, ⟨kV, lV⟩, ⟨kG, lG⟩, ⟨kP, lP⟩, ⟨kT, lT⟩, ⟨⟨LB1, LB2, LB3, LB4, LB5, LB6, LB7⟩, ⟨LH1, LH2, LH3, LH4, LH5, LH6, LH7⟩, ⟨LL1, LL2, LL3, LL4, LL5, LL6, LL7⟩⟩, hKB, hHA, hKL, hCJ⟩ := hA0
  obtain ⟨dDy, dEv, dG, dP, dV, dB, dL, dH⟩ := hB0
  have hnb := hW.1
  have hnl := hW.2.1
  obtain ⟨kH, ⟨rH5, rH6, rH7, rH8, rH12⟩, ⟨kH4, lH4⟩, ⟨kH5, lH5⟩, ⟨kH6, lH6⟩, ⟨kH7, lH7⟩⟩ := hHA r (by omega)
  obtain ⟨eH0, eH1, eH2, eH3⟩ := dH r (by omega)
  have qH := LH7 r (by omega)
  obtain ⟨kqH, lqH⟩ := LH6 (by omega)
  obtain ⟨vH0, vH0', vH1, vH1', -, vH2, vH2'⟩ := hW.2.2.2.2.1 r (by omega)
  refine wpW (cs := [(127, ce_X4_buildingAt_t G D S), (149, ce_X4_measuredHour_t G D S), (158, ce_X1_areaOf G D S)]) (stop := []) (n := 200) (env_cons (ceV (by decide +kernel) ⟨by decide, by decide, by decide +kernel⟩ (by decide) rfl (ok_X4_buildingAt_t G G D S hW)) (env_cons (ceV (by decide +kernel) ⟨by decide, by decide, by decide +kernel⟩ (by decide) rfl (ok_X4_measuredHour_t G G D S hW)) (env_cons (ceV (by decide +kernel) ⟨by decide, by decide, by decide +kernel⟩ (by decide) rfl (ok_X1_areaOf G G D S hW)) (env_nil0 (env_hh rfl))))) ?_
  simp only [↓wpN_S, ↓step_u, ↓stC_s, stC_s, ↓stF_u, stF_u, ↓stepI, lenI, ↓kN_u, isS, ↓gI_0, ↓gI_S, ↓gL_0, ↓gL_S, ↓gD_0, ↓gD_S, ↓gR_0, ↓gR_S, ↓sI_c, ↓sL_c, ↓sD_c, ↓sR_c, ↓s1_r, ↓s1_i, ↓vR_r, ↓vR_n, ↓s0_n, s0_n, ↓oR_u, ↓sP_u, ↓sPa_0, ↓sPa_S, ↓lkC_c, ↓callK_u, ↓cQ_s, ↓cQ_n, putL, putW, clr, kil, catS, catN, refF, booF, finF, nF, nmOf_0, nmOf_1, nmOf_2, nmOf_3, nmOf_4, nmOf_5, nmOf_6, nmOf_50, nmOf_51, nmOf_52, ↓reduceIte, reduceIte, Bool.false_eq_true, eq_self, true_or, or_true, true_and, and_true, false_or, or_false, Nat.reduceAdd, Nat.reduceSub, Nat.reduceEqDiff, Nat.reduceLT, Nat.reduceLeDiff, reduceCtorEq, true_implies, List.length_cons, List.length_nil, List.replicate, List.cons_append, List.nil_append, mrt_X4_area, mhh_X4_area, mow_X4_area, mnl_X4_area, DX4_area_0, DX4_area_1, DX4_area_2, DX4_area_5, DX4_area_6, DX4_area_7, DX4_area_8, DX4_area_11, DX4_area_12, DX4_area_15, ce_X4_buildingAt_t, ↓ct_X4_buildingAt_t, ycl_X4_buildingAt, ce_X4_measuredHour_t, ↓ct_X4_measuredHour_t, ycl_X4_measuredHour, ce_X1_areaOf, ↓ct_X1_areaOf, ycl_X1_areaOf, cX_nil mhh_X4_area]
  simp (disch := omega) only [i32_lit, i32_neg, i32_add, i32_mul, i32_sub, i32_nI, i32_lt, i32_le, i32_eq, inR_i, i32_clamp, i32_div, i32_max, i32_min, ite_max, ite_min, b2i_0, b2i_1, b2i_01, i32_toInt, tn_i, Int.toNat_natCast, em_t, true_and, and_true, Int.reduceToNat, Int.reduceLE, Int.reduceLT, Int.reduceAdd, Int.reduceMul, Int.reduceSub, Int.reduceNeg, Int.reduceEq, true_implies, not_true_eq_false, false_implies, not_false_eq_true, kC, rC0, rC1, rC2, rC3, rC4, kQ, rQ0, rQ1, kV, lV, kG, lG, kP, lP, kT, lT, LB1, LB2, LB3, LH1, LH2, LH3, LL1, LL2, LL3, dDy, dEv, true_and, and_true, Option.some.injEq, exists_eq_left', nmOf_0, nmOf_1, nmOf_2, nmOf_3, nmOf_4, nmOf_5, nmOf_6, Nat.add_sub_cancel, Nat.reduceSub, Nat.reduceLT, Nat.reduceEqDiff, ne_eq, not_false_eq_true, kH, rH5, rH6, rH7, rH8, rH12, kH4, lH4, kH5, lH5, kH6, lH6, kH7, lH7, eH0, eH1, eH2, eH3, qH, kqH, lqH, hD1]
  exact ⟨by omega, r, by omega, rfl, hM', hq⟩
def ct_X4_area (G : GT) (D : WD) (S : SS) : Ct := fun As h Q QX => sR As fun c r => sI r fun b r => sI r fun hr r => s0 r (CI G h D S ∧ c = D 0 0 ∧ ((0 ≤ b.toInt ∧ b.toInt < S.nb) ∧ (0 ≤ hr.toInt ∧ hr.toInt ≤ 11)) ∧ nxr G h D S Q (.int (i32 (area S b.toInt (tn hr)))))
def ce_X4_area (G : GT) (D : WD) (S : SS) : CE := (0, yX4_area, MX4_area, 2, 10, 0, 0, ct_X4_area G D S)
set_option maxRecDepth 100000 in
set_option maxHeartbeats 4000000 in
theorem ok_X4_area (G : GT) (G : GT) (D : WD) (S : SS) (hW : WF S) : OKm G yX4_area MX4_area 10 0 0 (ct_X4_area G D S) := by
  refine mkOK (ini := false) (by decide) rfl (by first | exact fun _ => rfl | (intro hh; cases hh)) (fun As h Q QX hc => ?_)
  replace hc := sR_e hc; obtain ⟨c, r, rfl, hc⟩ := hc
  replace hc := sI_e hc; obtain ⟨b, r, rfl, hc⟩ := hc
  replace hc := sI_e hc; obtain ⟨hr, r, rfl, hc⟩ := hc
  replace hc := s0_e hc; obtain ⟨rfl, hc⟩ := hc
  obtain ⟨hI, rfl, hv, hq⟩ := hc
  obtain ⟨bV, hbV, rfl⟩ := i32_all b
  obtain ⟨rV, hrV, rfl⟩ := i32_all hr
  simp only [i32_toInt hrV, tn_i hrV, i32_toInt hbV] at hq hv
  have hD := hI.cd
  have hD0 := hD
  have hA0 := hD.1
  have hB0 := hD.2
  obtain ⟨⟨kC, rC0, rC1, rC2, rC3, rC4⟩, ⟨kQ, rQ0, rQ1⟩, ⟨kV, lV⟩, ⟨kG, lG⟩, ⟨kP, lP⟩, ⟨kT, lT⟩, ⟨⟨LB1, LB2, LB3, LB4, LB5, LB6, LB7⟩, ⟨LH1, LH2, LH3, LH4, LH5, LH6, LH7⟩, ⟨LL1, LL2, LL3, LL4, LL5, LL6, LL7⟩⟩, hKB, hHA, hKL, hCJ⟩ := hA0
  obtain ⟨dDy, dEv, dG, dP, dV, dB, dL, dH⟩ := hB0
  have hnb := hW.1
  have hnl := hW.2.1
  refine ⟨Nat.le_of_ble_eq_true rfl, ?_⟩
  simp only [ent, entL, catN, List.length_cons, List.length_nil, List.replicate, List.cons_append, List.nil_append, reduceIte, Nat.reduceEqDiff,  Nat.reduceAdd, Nat.reduceSub, mnl_X4_area]
  refine wpW (cs := [(127, ce_X4_buildingAt G D S), (149, ce_X4_measuredHour G D S), (158, ce_X1_areaOf G D S)]) (stop := [11]) (n := 200) (env_cons (ceV (by decide +kernel) ⟨by decide, by decide, by decide +kernel⟩ (by decide) rfl (ok_X4_buildingAt G G D S hW)) (env_cons (ceV (by decide +kernel) ⟨by decide, by decide, by decide +kernel⟩ (by decide) rfl (ok_X4_measuredHour G G D S hW)) (env_cons (ceV (by decide +kernel) ⟨by decide, by decide, by decide +kernel⟩ (by decide) rfl (ok_X1_areaOf G G D S hW)) (env_nil0 (env_hh rfl))))) ?_
  simp only [↓wpN_S, ↓step_u, ↓stC_s, stC_s, ↓stF_u, stF_u, ↓stepI, lenI, ↓kN_u, isS, ↓gI_0, ↓gI_S, ↓gL_0, ↓gL_S, ↓gD_0, ↓gD_S, ↓gR_0, ↓gR_S, ↓sI_c, ↓sL_c, ↓sD_c, ↓sR_c, ↓s1_r, ↓s1_i, ↓vR_r, ↓vR_n, ↓s0_n, s0_n, ↓oR_u, ↓sP_u, ↓sPa_0, ↓sPa_S, ↓lkC_c, ↓callK_u, ↓cQ_s, ↓cQ_n, putL, putW, clr, kil, catS, catN, refF, booF, finF, nF, nmOf_0, nmOf_1, nmOf_2, nmOf_3, nmOf_4, nmOf_5, nmOf_6, nmOf_50, nmOf_51, nmOf_52, ↓reduceIte, reduceIte, Bool.false_eq_true, eq_self, true_or, or_true, true_and, and_true, false_or, or_false, Nat.reduceAdd, Nat.reduceSub, Nat.reduceEqDiff, Nat.reduceLT, Nat.reduceLeDiff, reduceCtorEq, true_implies, List.length_cons, List.length_nil, List.replicate, List.cons_append, List.nil_append, mrt_X4_area, mhh_X4_area, mow_X4_area, mnl_X4_area, DX4_area_0, DX4_area_1, DX4_area_2, DX4_area_5, DX4_area_6, DX4_area_7, DX4_area_8, DX4_area_11, DX4_area_12, DX4_area_15, ce_X4_buildingAt, ↓ct_X4_buildingAt, ycl_X4_buildingAt, ce_X4_measuredHour, ↓ct_X4_measuredHour, ycl_X4_measuredHour, ce_X1_areaOf, ↓ct_X1_areaOf, ycl_X1_areaOf, cX_nil mhh_X4_area]
  simp (disch := omega) only [i32_lit, i32_neg, i32_add, i32_mul, i32_sub, i32_nI, i32_lt, i32_le, i32_eq, inR_i, i32_clamp, i32_div, i32_max, i32_min, ite_max, ite_min, b2i_0, b2i_1, b2i_01, i32_toInt, tn_i, Int.toNat_natCast, em_t, true_and, and_true, Int.reduceToNat, Int.reduceLE, Int.reduceLT, Int.reduceAdd, Int.reduceMul, Int.reduceSub, Int.reduceNeg, Int.reduceEq, true_implies, not_true_eq_false, false_implies, not_false_eq_true, kC, rC0, rC1, rC2, rC3, rC4, kQ, rQ0, rQ1, kV, lV, kG, lG, kP, lP, kT, lT, LB1, LB2, LB3, LH1, LH2, LH3, LL1, LL2, LL3, dDy, dEv, true_and, and_true, Option.some.injEq, exists_eq_left', nmOf_0, nmOf_1, nmOf_2, nmOf_3, nmOf_4, nmOf_5, nmOf_6, Nat.add_sub_cancel, Nat.reduceSub, Nat.reduceLT, Nat.reduceEqDiff, ne_eq, not_false_eq_true, hI, hD0]
  refine ⟨by omega, by omega, fun h' f' hI' hM' => ?_⟩
  obtain ⟨r, rfl⟩ := Int.eq_ofNat_of_zero_le hv.2.1
  simp only [Int.toNat_natCast] at hq hM' ⊢
  replace hq := hq h' f' hI'
  have hD := hI'.cd
  have hD1 := hD
  have hA0 := hD.1
  have hB0 := hD.2
  obtain ⟨⟨kC, rC0, rC1, rC2, rC3, rC4⟩, ⟨kQ, rQ0, rQ1⟩, ⟨kV, lV⟩, ⟨kG, lG⟩, ⟨kP, lP⟩, ⟨kT, lT⟩, ⟨⟨LB1, LB2, LB3, LB4, LB5, LB6, LB7⟩, ⟨LH1, LH2, LH3, LH4, LH5, LH6, LH7⟩, ⟨LL1, LL2, LL3, LL4, LL5, LL6, LL7⟩⟩, hKB, hHA, hKL, hCJ⟩ := hA0
  obtain ⟨dDy, dEv, dG, dP, dV, dB, dL, dH⟩ := hB0
  have hnb := hW.1
  have hnl := hW.2.1
  obtain ⟨kH, ⟨rH5, rH6, rH7, rH8, rH12⟩, ⟨kH4, lH4⟩, ⟨kH5, lH5⟩, ⟨kH6, lH6⟩, ⟨kH7, lH7⟩⟩ := hHA r (by omega)
  obtain ⟨eH0, eH1, eH2, eH3⟩ := dH r (by omega)
  have qH := LH7 r (by omega)
  obtain ⟨kqH, lqH⟩ := LH6 (by omega)
  obtain ⟨vH0, vH0', vH1, vH1', -, vH2, vH2'⟩ := hW.2.2.2.2.1 r (by omega)
  refine wpW (cs := [(127, ce_X4_buildingAt G D S), (149, ce_X4_measuredHour G D S), (158, ce_X1_areaOf G D S)]) (stop := []) (n := 200) (env_cons (ceV (by decide +kernel) ⟨by decide, by decide, by decide +kernel⟩ (by decide) rfl (ok_X4_buildingAt G G D S hW)) (env_cons (ceV (by decide +kernel) ⟨by decide, by decide, by decide +kernel⟩ (by decide) rfl (ok_X4_measuredHour G G D S hW)) (env_cons (ceV (by decide +kernel) ⟨by decide, by decide, by decide +kernel⟩ (by decide) rfl (ok_X1_areaOf G G D S hW)) (env_nil0 (env_hh rfl))))) ?_
  simp only [↓wpN_S, ↓step_u, ↓stC_s, stC_s, ↓stF_u, stF_u, ↓stepI, lenI, ↓kN_u, isS, ↓gI_0, ↓gI_S, ↓gL_0, ↓gL_S, ↓gD_0, ↓gD_S, ↓gR_0, ↓gR_S, ↓sI_c, ↓sL_c, ↓sD_c, ↓sR_c, ↓s1_r, ↓s1_i, ↓vR_r, ↓vR_n, ↓s0_n, s0_n, ↓oR_u, ↓sP_u, ↓sPa_0, ↓sPa_S, ↓lkC_c, ↓callK_u, ↓cQ_s, ↓cQ_n, putL, putW, clr, kil, catS, catN, refF, booF, finF, nF, nmOf_0, nmOf_1, nmOf_2, nmOf_3, nmOf_4, nmOf_5, nmOf_6, nmOf_50, nmOf_51, nmOf_52, ↓reduceIte, reduceIte, Bool.false_eq_true, eq_self, true_or, or_true, true_and, and_true, false_or, or_false, Nat.reduceAdd, Nat.reduceSub, Nat.reduceEqDiff, Nat.reduceLT, Nat.reduceLeDiff, reduceCtorEq, true_implies, List.length_cons, List.length_nil, List.replicate, List.cons_append, List.nil_append, mrt_X4_area, mhh_X4_area, mow_X4_area, mnl_X4_area, DX4_area_0, DX4_area_1, DX4_area_2, DX4_area_5, DX4_area_6, DX4_area_7, DX4_area_8, DX4_area_11, DX4_area_12, DX4_area_15, ce_X4_buildingAt, ↓ct_X4_buildingAt, ycl_X4_buildingAt, ce_X4_measuredHour, ↓ct_X4_measuredHour, ycl_X4_measuredHour, ce_X1_areaOf, ↓ct_X1_areaOf, ycl_X1_areaOf, cX_nil mhh_X4_area]
  simp (disch := omega) only [i32_lit, i32_neg, i32_add, i32_mul, i32_sub, i32_nI, i32_lt, i32_le, i32_eq, inR_i, i32_clamp, i32_div, i32_max, i32_min, ite_max, ite_min, b2i_0, b2i_1, b2i_01, i32_toInt, tn_i, Int.toNat_natCast, em_t, true_and, and_true, Int.reduceToNat, Int.reduceLE, Int.reduceLT, Int.reduceAdd, Int.reduceMul, Int.reduceSub, Int.reduceNeg, Int.reduceEq, true_implies, not_true_eq_false, false_implies, not_false_eq_true, kC, rC0, rC1, rC2, rC3, rC4, kQ, rQ0, rQ1, kV, lV, kG, lG, kP, lP, kT, lT, LB1, LB2, LB3, LH1, LH2, LH3, LL1, LL2, LL3, dDy, dEv, true_and, and_true, Option.some.injEq, exists_eq_left', nmOf_0, nmOf_1, nmOf_2, nmOf_3, nmOf_4, nmOf_5, nmOf_6, Nat.add_sub_cancel, Nat.reduceSub, Nat.reduceLT, Nat.reduceEqDiff, ne_eq, not_false_eq_true, kH, rH5, rH6, rH7, rH8, rH12, kH4, lH4, kH5, lH5, kH6, lH6, kH7, lH7, eH0, eH1, eH2, eH3, qH, kqH, lqH, hD1]
  exact ⟨by omega, r, by omega, rfl, hM', hq⟩
def ct_X4_inHour_t (G : GT) (D : WD) (S : SS) : Ct := fun As h Q QX => sR As fun c r => sI r fun hr r => sI r fun w r => s0 r (CI G h D S ∧ c = D 0 0 ∧ ((0 ≤ hr.toInt ∧ hr.toInt ≤ 11) ∧ (0 ≤ w.toInt ∧ w.toInt ≤ 3) → nxr G h D S Q (.int (i32 (hrT S (tn hr) (tn w))))) ∧ (¬ ((0 ≤ hr.toInt ∧ hr.toInt ≤ 11) ∧ (0 ≤ w.toInt ∧ w.toInt ≤ 3)) → QX IOB h))
def ce_X4_inHour_t (G : GT) (D : WD) (S : SS) : CE := (0, yX4_inHour, MX4_inHour, 2, 10, 4, 24, ct_X4_inHour_t G D S)
set_option maxRecDepth 100000 in
set_option maxHeartbeats 4000000 in
theorem ok_X4_inHour_t (G : GT) (G : GT) (D : WD) (S : SS) (hW : WF S) : OKm G yX4_inHour MX4_inHour 10 4 24 (ct_X4_inHour_t G D S) := by
  refine mkOK (ini := false) (by decide) rfl (by first | exact fun _ => rfl | (intro hh; cases hh)) (fun As h Q QX hc => ?_)
  replace hc := sR_e hc; obtain ⟨c, r, rfl, hc⟩ := hc
  replace hc := sI_e hc; obtain ⟨hr, r, rfl, hc⟩ := hc
  replace hc := sI_e hc; obtain ⟨w, r, rfl, hc⟩ := hc
  replace hc := s0_e hc; obtain ⟨rfl, hc⟩ := hc
  obtain ⟨hI, rfl, hq, hx⟩ := hc
  obtain ⟨rV, hrV, rfl⟩ := i32_all hr
  obtain ⟨wV, hwV, rfl⟩ := i32_all w
  simp only [i32_toInt hrV, tn_i hrV, i32_toInt hwV, tn_i hwV] at hq hx
  have hD := hI.cd
  have hD0 := hD
  have hA0 := hD.1
  have hB0 := hD.2
  obtain ⟨⟨kC, rC0, rC1, rC2, rC3, rC4⟩, ⟨kQ, rQ0, rQ1⟩, ⟨kV, lV⟩, ⟨kG, lG⟩, ⟨kP, lP⟩, ⟨kT, lT⟩, ⟨⟨LB1, LB2, LB3, LB4, LB5, LB6, LB7⟩, ⟨LH1, LH2, LH3, LH4, LH5, LH6, LH7⟩, ⟨LL1, LL2, LL3, LL4, LL5, LL6, LL7⟩⟩, hKB, hHA, hKL, hCJ⟩ := hA0
  obtain ⟨dDy, dEv, dG, dP, dV, dB, dL, dH⟩ := hB0
  have hnb := hW.1
  have hnl := hW.2.1
  refine ⟨Nat.le_of_ble_eq_true rfl, ?_⟩
  simp only [ent, entL, catN, List.length_cons, List.length_nil, List.replicate, List.cons_append, List.nil_append, reduceIte, Nat.reduceEqDiff,  Nat.reduceAdd, Nat.reduceSub, mnl_X4_inHour]
  refine wpW (cs := [(130, ce_X4_needIndex_t), (161, ce_X4_allottedHour_t G D S), (164, ce_X1_figure G D S)]) (stop := [10]) (n := 200) (env_cons (ceS (by decide +kernel) ⟨by decide, by decide, by decide +kernel⟩ (by decide) (ok_X4_needIndex_t G)) (env_cons (ceV (by decide +kernel) ⟨by decide, by decide, by decide +kernel⟩ (by decide) rfl (ok_X4_allottedHour_t G G D S hW)) (env_cons (ceV (by decide +kernel) ⟨by decide, by decide, by decide +kernel⟩ (by decide) rfl (ok_X1_figure G G D S hW)) (env_nil0 (env_hh rfl))))) ?_
  simp only [↓wpN_S, ↓step_u, ↓stC_s, stC_s, ↓stF_u, stF_u, ↓stepI, lenI, ↓kN_u, isS, ↓gI_0, ↓gI_S, ↓gL_0, ↓gL_S, ↓gD_0, ↓gD_S, ↓gR_0, ↓gR_S, ↓sI_c, ↓sL_c, ↓sD_c, ↓sR_c, ↓s1_r, ↓s1_i, ↓vR_r, ↓vR_n, ↓s0_n, s0_n, ↓oR_u, ↓sP_u, ↓sPa_0, ↓sPa_S, ↓lkC_c, ↓callK_u, ↓cQ_s, ↓cQ_n, putL, putW, clr, kil, catS, catN, refF, booF, finF, nF, nmOf_0, nmOf_1, nmOf_2, nmOf_3, nmOf_4, nmOf_5, nmOf_6, nmOf_50, nmOf_51, nmOf_52, ↓reduceIte, reduceIte, Bool.false_eq_true, eq_self, true_or, or_true, true_and, and_true, false_or, or_false, Nat.reduceAdd, Nat.reduceSub, Nat.reduceEqDiff, Nat.reduceLT, Nat.reduceLeDiff, reduceCtorEq, true_implies, List.length_cons, List.length_nil, List.replicate, List.cons_append, List.nil_append, mrt_X4_inHour, mhh_X4_inHour, mow_X4_inHour, mnl_X4_inHour, DX4_inHour_0, DX4_inHour_1, DX4_inHour_2, DX4_inHour_5, DX4_inHour_6, DX4_inHour_7, DX4_inHour_10, DX4_inHour_11, DX4_inHour_14, ce_X4_needIndex_t, ↓ct_X4_needIndex_t, ycl_X4_needIndex, ce_X4_allottedHour_t, ↓ct_X4_allottedHour_t, ycl_X4_allottedHour, ce_X1_figure, ↓ct_X1_figure, ycl_X1_figure, cX_nil mhh_X4_inHour]
  simp (disch := omega) only [i32_lit, i32_neg, i32_add, i32_mul, i32_sub, i32_nI, i32_lt, i32_le, i32_eq, inR_i, i32_clamp, i32_div, i32_max, i32_min, ite_max, ite_min, b2i_0, b2i_1, b2i_01, i32_toInt, tn_i, Int.toNat_natCast, em_t, true_and, and_true, Int.reduceToNat, Int.reduceLE, Int.reduceLT, Int.reduceAdd, Int.reduceMul, Int.reduceSub, Int.reduceNeg, Int.reduceEq, true_implies, not_true_eq_false, false_implies, not_false_eq_true, kC, rC0, rC1, rC2, rC3, rC4, kQ, rQ0, rQ1, kV, lV, kG, lG, kP, lP, kT, lT, LB1, LB2, LB3, LH1, LH2, LH3, LL1, LL2, LL3, dDy, dEv, true_and, and_true, Option.some.injEq, exists_eq_left', nmOf_0, nmOf_1, nmOf_2, nmOf_3, nmOf_4, nmOf_5, nmOf_6, Nat.add_sub_cancel, Nat.reduceSub, Nat.reduceLT, Nat.reduceEqDiff, ne_eq, not_false_eq_true, hI, hD0]
  refine ⟨fun h1 => ⟨fun h3 h' f' hI' hM' hL' => ?_, fun z => hx (by omega)⟩, fun z => hx (by omega)⟩
  obtain ⟨r, rfl⟩ := Int.eq_ofNat_of_zero_le h3.1
  simp only [Int.toNat_natCast] at hq hM' hL' ⊢
  refine Wp.z ?_
  replace hq := hq ⟨by omega, by omega⟩ h' f' hI'
  have hD := hI'.cd
  have hD1 := hD
  have hA0 := hD.1
  have hB0 := hD.2
  obtain ⟨⟨kC, rC0, rC1, rC2, rC3, rC4⟩, ⟨kQ, rQ0, rQ1⟩, ⟨kV, lV⟩, ⟨kG, lG⟩, ⟨kP, lP⟩, ⟨kT, lT⟩, ⟨⟨LB1, LB2, LB3, LB4, LB5, LB6, LB7⟩, ⟨LH1, LH2, LH3, LH4, LH5, LH6, LH7⟩, ⟨LL1, LL2, LL3, LL4, LL5, LL6, LL7⟩⟩, hKB, hHA, hKL, hCJ⟩ := hA0
  obtain ⟨dDy, dEv, dG, dP, dV, dB, dL, dH⟩ := hB0
  have hnb := hW.1
  have hnl := hW.2.1
  obtain ⟨kH, ⟨rH5, rH6, rH7, rH8, rH12⟩, ⟨kH4, lH4⟩, ⟨kH5, lH5⟩, ⟨kH6, lH6⟩, ⟨kH7, lH7⟩⟩ := hHA r (by omega)
  obtain ⟨eH0, eH1, eH2, eH3⟩ := dH r (by omega)
  have qH := LH7 r (by omega)
  obtain ⟨kqH, lqH⟩ := LH6 (by omega)
  obtain ⟨vH0, vH0', vH1, vH1', -, vH2, vH2'⟩ := hW.2.2.2.2.1 r (by omega)
  refine wpW (cs := [(130, ce_X4_needIndex_t), (161, ce_X4_allottedHour_t G D S), (164, ce_X1_figure G D S)]) (stop := []) (n := 200) (env_cons (ceS (by decide +kernel) ⟨by decide, by decide, by decide +kernel⟩ (by decide) (ok_X4_needIndex_t G)) (env_cons (ceV (by decide +kernel) ⟨by decide, by decide, by decide +kernel⟩ (by decide) rfl (ok_X4_allottedHour_t G G D S hW)) (env_cons (ceV (by decide +kernel) ⟨by decide, by decide, by decide +kernel⟩ (by decide) rfl (ok_X1_figure G G D S hW)) (env_nil0 (env_hh rfl))))) ?_
  simp only [↓wpN_S, ↓step_u, ↓stC_s, stC_s, ↓stF_u, stF_u, ↓stepI, lenI, ↓kN_u, isS, ↓gI_0, ↓gI_S, ↓gL_0, ↓gL_S, ↓gD_0, ↓gD_S, ↓gR_0, ↓gR_S, ↓sI_c, ↓sL_c, ↓sD_c, ↓sR_c, ↓s1_r, ↓s1_i, ↓vR_r, ↓vR_n, ↓s0_n, s0_n, ↓oR_u, ↓sP_u, ↓sPa_0, ↓sPa_S, ↓lkC_c, ↓callK_u, ↓cQ_s, ↓cQ_n, putL, putW, clr, kil, catS, catN, refF, booF, finF, nF, nmOf_0, nmOf_1, nmOf_2, nmOf_3, nmOf_4, nmOf_5, nmOf_6, nmOf_50, nmOf_51, nmOf_52, ↓reduceIte, reduceIte, Bool.false_eq_true, eq_self, true_or, or_true, true_and, and_true, false_or, or_false, Nat.reduceAdd, Nat.reduceSub, Nat.reduceEqDiff, Nat.reduceLT, Nat.reduceLeDiff, reduceCtorEq, true_implies, List.length_cons, List.length_nil, List.replicate, List.cons_append, List.nil_append, mrt_X4_inHour, mhh_X4_inHour, mow_X4_inHour, mnl_X4_inHour, DX4_inHour_0, DX4_inHour_1, DX4_inHour_2, DX4_inHour_5, DX4_inHour_6, DX4_inHour_7, DX4_inHour_10, DX4_inHour_11, DX4_inHour_14, ce_X4_needIndex_t, ↓ct_X4_needIndex_t, ycl_X4_needIndex, ce_X4_allottedHour_t, ↓ct_X4_allottedHour_t, ycl_X4_allottedHour, ce_X1_figure, ↓ct_X1_figure, ycl_X1_figure, cX_nil mhh_X4_inHour]
  simp (disch := omega) only [i32_lit, i32_neg, i32_add, i32_mul, i32_sub, i32_nI, i32_lt, i32_le, i32_eq, inR_i, i32_clamp, i32_div, i32_max, i32_min, ite_max, ite_min, b2i_0, b2i_1, b2i_01, i32_toInt, tn_i, Int.toNat_natCast, em_t, true_and, and_true, Int.reduceToNat, Int.reduceLE, Int.reduceLT, Int.reduceAdd, Int.reduceMul, Int.reduceSub, Int.reduceNeg, Int.reduceEq, true_implies, not_true_eq_false, false_implies, not_false_eq_true, kC, rC0, rC1, rC2, rC3, rC4, kQ, rQ0, rQ1, kV, lV, kG, lG, kP, lP, kT, lT, LB1, LB2, LB3, LH1, LH2, LH3, LL1, LL2, LL3, dDy, dEv, true_and, and_true, Option.some.injEq, exists_eq_left', nmOf_0, nmOf_1, nmOf_2, nmOf_3, nmOf_4, nmOf_5, nmOf_6, Nat.add_sub_cancel, Nat.reduceSub, Nat.reduceLT, Nat.reduceEqDiff, ne_eq, not_false_eq_true, kH, rH5, rH6, rH7, rH8, rH12, kH4, lH4, kH5, lH5, kH6, lH6, kH7, lH7, eH0, eH1, eH2, eH3, qH, kqH, lqH, hD1]
  exact ⟨by omega, r, by omega, rfl, hM', hL', hq⟩
def ct_X4_gets_t (G : GT) (D : WD) (S : SS) : Ct := fun As h Q QX => sR As fun c r => sI r fun l r => sI r fun hr r => s0 r (CI G h D S ∧ c = D 0 0 ∧ ((0 ≤ l.toInt ∧ l.toInt < S.nl) ∧ (0 ≤ hr.toInt ∧ hr.toInt ≤ 11) → nxr G h D S Q (.int (i32 (gts S (tn l) (tn hr))))) ∧ (¬ ((0 ≤ l.toInt ∧ l.toInt < S.nl) ∧ (0 ≤ hr.toInt ∧ hr.toInt ≤ 11)) → QX IOB h))
def ce_X4_gets_t (G : GT) (D : WD) (S : SS) : CE := (0, yX4_gets, MX4_gets, 2, 10, 4, 24, ct_X4_gets_t G D S)
set_option maxRecDepth 100000 in
set_option maxHeartbeats 4000000 in
theorem ok_X4_gets_t (G : GT) (G : GT) (D : WD) (S : SS) (hW : WF S) : OKm G yX4_gets MX4_gets 10 4 24 (ct_X4_gets_t G D S) := by
  refine mkOK (ini := false) (by decide) rfl (by first | exact fun _ => rfl | (intro hh; cases hh)) (fun As h Q QX hc => ?_)
  replace hc := sR_e hc; obtain ⟨c, r, rfl, hc⟩ := hc
  replace hc := sI_e hc; obtain ⟨l, r, rfl, hc⟩ := hc
  replace hc := sI_e hc; obtain ⟨hr, r, rfl, hc⟩ := hc
  replace hc := s0_e hc; obtain ⟨rfl, hc⟩ := hc
  obtain ⟨hI, rfl, hq, hx⟩ := hc
  obtain ⟨lV, hlV, rfl⟩ := i32_all l
  obtain ⟨rV, hrV, rfl⟩ := i32_all hr
  simp only [i32_toInt hrV, tn_i hrV, i32_toInt hlV, tn_i hlV] at hq hx
  have hD := hI.cd
  have hD0 := hD
  have hA0 := hD.1
  have hB0 := hD.2
  obtain ⟨⟨kC, rC0, rC1, rC2, rC3, rC4⟩, ⟨kQ, rQ0, rQ1⟩, ⟨kV, lV⟩, ⟨kG, lG⟩, ⟨kP, lP⟩, ⟨kT, lT⟩, ⟨⟨LB1, LB2, LB3, LB4, LB5, LB6, LB7⟩, ⟨LH1, LH2, LH3, LH4, LH5, LH6, LH7⟩, ⟨LL1, LL2, LL3, LL4, LL5, LL6, LL7⟩⟩, hKB, hHA, hKL, hCJ⟩ := hA0
  obtain ⟨dDy, dEv, dG, dP, dV, dB, dL, dH⟩ := hB0
  have hnb := hW.1
  have hnl := hW.2.1
  refine ⟨Nat.le_of_ble_eq_true rfl, ?_⟩
  simp only [ent, entL, catN, List.length_cons, List.length_nil, List.replicate, List.cons_append, List.nil_append, reduceIte, Nat.reduceEqDiff,  Nat.reduceAdd, Nat.reduceSub, mnl_X4_gets]
  refine wpW (cs := [(183, ce_X4_leaseAt_t G D S), (161, ce_X4_allottedHour_t G D S), (205, ce_X1_givenTo G D S)]) (stop := [11]) (n := 200) (env_cons (ceV (by decide +kernel) ⟨by decide, by decide, by decide +kernel⟩ (by decide) rfl (ok_X4_leaseAt_t G G D S hW)) (env_cons (ceV (by decide +kernel) ⟨by decide, by decide, by decide +kernel⟩ (by decide) rfl (ok_X4_allottedHour_t G G D S hW)) (env_cons (ceV (by decide +kernel) ⟨by decide, by decide, by decide +kernel⟩ (by decide) rfl (ok_X1_givenTo G G D S hW)) (env_nil0 (env_hh rfl))))) ?_
  simp only [↓wpN_S, ↓step_u, ↓stC_s, stC_s, ↓stF_u, stF_u, ↓stepI, lenI, ↓kN_u, isS, ↓gI_0, ↓gI_S, ↓gL_0, ↓gL_S, ↓gD_0, ↓gD_S, ↓gR_0, ↓gR_S, ↓sI_c, ↓sL_c, ↓sD_c, ↓sR_c, ↓s1_r, ↓s1_i, ↓vR_r, ↓vR_n, ↓s0_n, s0_n, ↓oR_u, ↓sP_u, ↓sPa_0, ↓sPa_S, ↓lkC_c, ↓callK_u, ↓cQ_s, ↓cQ_n, putL, putW, clr, kil, catS, catN, refF, booF, finF, nF, nmOf_0, nmOf_1, nmOf_2, nmOf_3, nmOf_4, nmOf_5, nmOf_6, nmOf_50, nmOf_51, nmOf_52, ↓reduceIte, reduceIte, Bool.false_eq_true, eq_self, true_or, or_true, true_and, and_true, false_or, or_false, Nat.reduceAdd, Nat.reduceSub, Nat.reduceEqDiff, Nat.reduceLT, Nat.reduceLeDiff, reduceCtorEq, true_implies, List.length_cons, List.length_nil, List.replicate, List.cons_append, List.nil_append, mrt_X4_gets, mhh_X4_gets, mow_X4_gets, mnl_X4_gets, DX4_gets_0, DX4_gets_1, DX4_gets_2, DX4_gets_5, DX4_gets_6, DX4_gets_7, DX4_gets_8, DX4_gets_11, DX4_gets_12, DX4_gets_15, ce_X4_leaseAt_t, ↓ct_X4_leaseAt_t, ycl_X4_leaseAt, ce_X4_allottedHour_t, ↓ct_X4_allottedHour_t, ycl_X4_allottedHour, ce_X1_givenTo, ↓ct_X1_givenTo, ycl_X1_givenTo, cX_nil mhh_X4_gets]
  simp (disch := omega) only [i32_lit, i32_neg, i32_add, i32_mul, i32_sub, i32_nI, i32_lt, i32_le, i32_eq, inR_i, i32_clamp, i32_div, i32_max, i32_min, ite_max, ite_min, b2i_0, b2i_1, b2i_01, i32_toInt, tn_i, Int.toNat_natCast, em_t, true_and, and_true, Int.reduceToNat, Int.reduceLE, Int.reduceLT, Int.reduceAdd, Int.reduceMul, Int.reduceSub, Int.reduceNeg, Int.reduceEq, true_implies, not_true_eq_false, false_implies, not_false_eq_true, kC, rC0, rC1, rC2, rC3, rC4, kQ, rQ0, rQ1, kV, lV, kG, lG, kP, lP, kT, lT, LB1, LB2, LB3, LH1, LH2, LH3, LL1, LL2, LL3, dDy, dEv, true_and, and_true, Option.some.injEq, exists_eq_left', nmOf_0, nmOf_1, nmOf_2, nmOf_3, nmOf_4, nmOf_5, nmOf_6, Nat.add_sub_cancel, Nat.reduceSub, Nat.reduceLT, Nat.reduceEqDiff, ne_eq, not_false_eq_true, hI, hD0]
  refine ⟨fun h1 => ⟨fun h3 h' f' hI' hM' hL' => ?_, fun z => hx (by omega)⟩, fun z => hx (by omega)⟩
  obtain ⟨r, rfl⟩ := Int.eq_ofNat_of_zero_le h3.1
  simp only [Int.toNat_natCast] at hq hM' hL' ⊢
  refine Wp.z ?_
  replace hq := hq ⟨by omega, by omega⟩ h' f' hI'
  have hD := hI'.cd
  have hD1 := hD
  have hA0 := hD.1
  have hB0 := hD.2
  obtain ⟨⟨kC, rC0, rC1, rC2, rC3, rC4⟩, ⟨kQ, rQ0, rQ1⟩, ⟨kV, lV⟩, ⟨kG, lG⟩, ⟨kP, lP⟩, ⟨kT, lT⟩, ⟨⟨LB1, LB2, LB3, LB4, LB5, LB6, LB7⟩, ⟨LH1, LH2, LH3, LH4, LH5, LH6, LH7⟩, ⟨LL1, LL2, LL3, LL4, LL5, LL6, LL7⟩⟩, hKB, hHA, hKL, hCJ⟩ := hA0
  obtain ⟨dDy, dEv, dG, dP, dV, dB, dL, dH⟩ := hB0
  have hnb := hW.1
  have hnl := hW.2.1
  obtain ⟨kH, ⟨rH5, rH6, rH7, rH8, rH12⟩, ⟨kH4, lH4⟩, ⟨kH5, lH5⟩, ⟨kH6, lH6⟩, ⟨kH7, lH7⟩⟩ := hHA r (by omega)
  obtain ⟨eH0, eH1, eH2, eH3⟩ := dH r (by omega)
  have qH := LH7 r (by omega)
  obtain ⟨kqH, lqH⟩ := LH6 (by omega)
  obtain ⟨vH0, vH0', vH1, vH1', -, vH2, vH2'⟩ := hW.2.2.2.2.1 r (by omega)
  refine wpW (cs := [(183, ce_X4_leaseAt_t G D S), (161, ce_X4_allottedHour_t G D S), (205, ce_X1_givenTo G D S)]) (stop := []) (n := 200) (env_cons (ceV (by decide +kernel) ⟨by decide, by decide, by decide +kernel⟩ (by decide) rfl (ok_X4_leaseAt_t G G D S hW)) (env_cons (ceV (by decide +kernel) ⟨by decide, by decide, by decide +kernel⟩ (by decide) rfl (ok_X4_allottedHour_t G G D S hW)) (env_cons (ceV (by decide +kernel) ⟨by decide, by decide, by decide +kernel⟩ (by decide) rfl (ok_X1_givenTo G G D S hW)) (env_nil0 (env_hh rfl))))) ?_
  simp only [↓wpN_S, ↓step_u, ↓stC_s, stC_s, ↓stF_u, stF_u, ↓stepI, lenI, ↓kN_u, isS, ↓gI_0, ↓gI_S, ↓gL_0, ↓gL_S, ↓gD_0, ↓gD_S, ↓gR_0, ↓gR_S, ↓sI_c, ↓sL_c, ↓sD_c, ↓sR_c, ↓s1_r, ↓s1_i, ↓vR_r, ↓vR_n, ↓s0_n, s0_n, ↓oR_u, ↓sP_u, ↓sPa_0, ↓sPa_S, ↓lkC_c, ↓callK_u, ↓cQ_s, ↓cQ_n, putL, putW, clr, kil, catS, catN, refF, booF, finF, nF, nmOf_0, nmOf_1, nmOf_2, nmOf_3, nmOf_4, nmOf_5, nmOf_6, nmOf_50, nmOf_51, nmOf_52, ↓reduceIte, reduceIte, Bool.false_eq_true, eq_self, true_or, or_true, true_and, and_true, false_or, or_false, Nat.reduceAdd, Nat.reduceSub, Nat.reduceEqDiff, Nat.reduceLT, Nat.reduceLeDiff, reduceCtorEq, true_implies, List.length_cons, List.length_nil, List.replicate, List.cons_append, List.nil_append, mrt_X4_gets, mhh_X4_gets, mow_X4_gets, mnl_X4_gets, DX4_gets_0, DX4_gets_1, DX4_gets_2, DX4_gets_5, DX4_gets_6, DX4_gets_7, DX4_gets_8, DX4_gets_11, DX4_gets_12, DX4_gets_15, ce_X4_leaseAt_t, ↓ct_X4_leaseAt_t, ycl_X4_leaseAt, ce_X4_allottedHour_t, ↓ct_X4_allottedHour_t, ycl_X4_allottedHour, ce_X1_givenTo, ↓ct_X1_givenTo, ycl_X1_givenTo, cX_nil mhh_X4_gets]
  simp (disch := omega) only [i32_lit, i32_neg, i32_add, i32_mul, i32_sub, i32_nI, i32_lt, i32_le, i32_eq, inR_i, i32_clamp, i32_div, i32_max, i32_min, ite_max, ite_min, b2i_0, b2i_1, b2i_01, i32_toInt, tn_i, Int.toNat_natCast, em_t, true_and, and_true, Int.reduceToNat, Int.reduceLE, Int.reduceLT, Int.reduceAdd, Int.reduceMul, Int.reduceSub, Int.reduceNeg, Int.reduceEq, true_implies, not_true_eq_false, false_implies, not_false_eq_true, kC, rC0, rC1, rC2, rC3, rC4, kQ, rQ0, rQ1, kV, lV, kG, lG, kP, lP, kT, lT, LB1, LB2, LB3, LH1, LH2, LH3, LL1, LL2, LL3, dDy, dEv, true_and, and_true, Option.some.injEq, exists_eq_left', nmOf_0, nmOf_1, nmOf_2, nmOf_3, nmOf_4, nmOf_5, nmOf_6, Nat.add_sub_cancel, Nat.reduceSub, Nat.reduceLT, Nat.reduceEqDiff, ne_eq, not_false_eq_true, kH, rH5, rH6, rH7, rH8, rH12, kH4, lH4, kH5, lH5, kH6, lH6, kH7, lH7, eH0, eH1, eH2, eH3, qH, kqH, lqH, hD1]
  exact ⟨by omega, r, by omega, rfl, hL', hq⟩
def ct_X4_shortHours (G : GT) (D : WD) (S : SS) : Ct := fun As h Q _ => sR As fun c r => sR r fun a r => s0 r (CI G h D S ∧ c = D 0 0 ∧ ∃ l, l < S.nl ∧ a = D 3 l ∧ nxr G h D S Q (.int (i32 (shH S l))))
def ce_X4_shortHours (G : GT) (D : WD) (S : SS) : CE := (0, yX4_shortHours, MX4_shortHours, 1, 10, 0, 0, ct_X4_shortHours G D S)
set_option maxRecDepth 100000 in
set_option maxHeartbeats 4000000 in
theorem lp_X4_shortHours (G : GT) {D : WD} {S : SS} (hW : WF S) {h0 : Hp} {l : Nat} {Q : Option Value → Hp → Prop} {QX : String → Hp → Prop} (hl : l < S.nl) (hq : nxr G h0 D S Q (.int (i32 (shH S l)))) :
    ∀ k n : Nat, n + k = 12 → ∀ h, Fr h0 h (WK D) → CI G h D S → Wp G MX4_shortHours false 10 Q QX 4 [some (.ref (D 0 0)), some (.ref (D 3 l)), some (.int (i32 (sumN (fun r => if isSh S l r = true then 1 else 0) n))), some (.int (i32 n))] [] h (0, 0) := by
  intro k
  induction k with
  | zero =>
    intro n hn h f hI
    have e : n = 12 := by omega
    subst e
    have hz := hq h f hI
    have hD := hI.cd
    have hA0 := hD.1
    have hB0 := hD.2
    obtain ⟨⟨kC, rC0, rC1, rC2, rC3, rC4⟩, ⟨kQ, rQ0, rQ1⟩, ⟨kV, lV⟩, ⟨kG, lG⟩, ⟨kP, lP⟩, ⟨kT, lT⟩, ⟨⟨LB1, LB2, LB3, LB4, LB5, LB6, LB7⟩, ⟨LH1, LH2, LH3, LH4, LH5, LH6, LH7⟩, ⟨LL1, LL2, LL3, LL4, LL5, LL6, LL7⟩⟩, hKB, hHA, hKL, hCJ⟩ := hA0
    obtain ⟨dDy, dEv, dG, dP, dV, dB, dL, dH⟩ := hB0
    have hnb := hW.1
    have hnl := hW.2.1
    refine wpW (cs := [(49, ce_Jx4a65c_size_8abf5), (161, ce_X4_allottedHour G D S), (309, ce_X1_isShort G D S)]) (stop := [4]) (n := 200) (env_cons (ceV (by decide +kernel) ⟨by decide, by decide, by decide +kernel⟩ (by decide) rfl (ok_Jx4a65c_size_8abf5 G)) (env_cons (ceV (by decide +kernel) ⟨by decide, by decide, by decide +kernel⟩ (by decide) rfl (ok_X4_allottedHour G G D S hW)) (env_cons (ceV (by decide +kernel) ⟨by decide, by decide, by decide +kernel⟩ (by decide) rfl (ok_X1_isShort G G D S hW)) (env_nil0 (env_hh rfl))))) ?_
    simp only [↓wpN_S, ↓step_u, ↓stC_s, stC_s, ↓stF_u, stF_u, ↓stepI, lenI, ↓kN_u, isS, ↓gI_0, ↓gI_S, ↓gL_0, ↓gL_S, ↓gD_0, ↓gD_S, ↓gR_0, ↓gR_S, ↓sI_c, ↓sL_c, ↓sD_c, ↓sR_c, ↓s1_r, ↓s1_i, ↓vR_r, ↓vR_n, ↓s0_n, s0_n, ↓oR_u, ↓sP_u, ↓sPa_0, ↓sPa_S, ↓lkC_c, ↓callK_u, ↓cQ_s, ↓cQ_n, putL, putW, clr, kil, catS, catN, refF, booF, finF, nF, nmOf_0, nmOf_1, nmOf_2, nmOf_3, nmOf_4, nmOf_5, nmOf_6, nmOf_50, nmOf_51, nmOf_52, ↓reduceIte, reduceIte, Bool.false_eq_true, eq_self, true_or, or_true, true_and, and_true, false_or, or_false, Nat.reduceAdd, Nat.reduceSub, Nat.reduceEqDiff, Nat.reduceLT, Nat.reduceLeDiff, reduceCtorEq, true_implies, List.length_cons, List.length_nil, List.replicate, List.cons_append, List.nil_append, mrt_X4_shortHours, mhh_X4_shortHours, mow_X4_shortHours, mnl_X4_shortHours, DX4_shortHours_0, DX4_shortHours_1, DX4_shortHours_2, DX4_shortHours_3, DX4_shortHours_4, DX4_shortHours_5, DX4_shortHours_6, DX4_shortHours_9, DX4_shortHours_12, DX4_shortHours_15, DX4_shortHours_16, DX4_shortHours_17, DX4_shortHours_20, DX4_shortHours_21, DX4_shortHours_24, DX4_shortHours_27, DX4_shortHours_30, DX4_shortHours_33, DX4_shortHours_36, DX4_shortHours_37, ce_Jx4a65c_size_8abf5, ↓ct_Jx4a65c_size_8abf5, ycl_Jx4a65c_size_8abf5, ce_X4_allottedHour, ↓ct_X4_allottedHour, ycl_X4_allottedHour, ce_X1_isShort, ↓ct_X1_isShort, ycl_X1_isShort, cX_nil mhh_X4_shortHours]
    simp (disch := omega) only [i32_lit, i32_neg, i32_add, i32_mul, i32_sub, i32_nI, i32_lt, i32_le, i32_eq, inR_i, i32_clamp, i32_div, i32_max, i32_min, ite_max, ite_min, b2i_0, b2i_1, b2i_01, i32_toInt, tn_i, Int.toNat_natCast, em_t, true_and, and_true, Int.reduceToNat, Int.reduceLE, Int.reduceLT, Int.reduceAdd, Int.reduceMul, Int.reduceSub, Int.reduceNeg, Int.reduceEq, true_implies, not_true_eq_false, false_implies, not_false_eq_true, kC, rC0, rC1, rC2, rC3, rC4, kQ, rQ0, rQ1, kV, lV, kG, lG, kP, lP, kT, lT, LB1, LB2, LB3, LH1, LH2, LH3, LL1, LL2, LL3, dDy, dEv, true_and, and_true, Option.some.injEq, exists_eq_left', nmOf_0, nmOf_1, nmOf_2, nmOf_3, nmOf_4, nmOf_5, nmOf_6, Nat.add_sub_cancel, Nat.reduceSub, Nat.reduceLT, Nat.reduceEqDiff, ne_eq, not_false_eq_true]
    exact ⟨fun _ => hz, fun z => by omega⟩
  | succ k ih =>
    intro n hn h f hI
    have hD := hI.cd
    have hn' : n < 12 := by omega
    have hA0 := hD.1
    have hB0 := hD.2
    obtain ⟨⟨kC, rC0, rC1, rC2, rC3, rC4⟩, ⟨kQ, rQ0, rQ1⟩, ⟨kV, lV⟩, ⟨kG, lG⟩, ⟨kP, lP⟩, ⟨kT, lT⟩, ⟨⟨LB1, LB2, LB3, LB4, LB5, LB6, LB7⟩, ⟨LH1, LH2, LH3, LH4, LH5, LH6, LH7⟩, ⟨LL1, LL2, LL3, LL4, LL5, LL6, LL7⟩⟩, hKB, hHA, hKL, hCJ⟩ := hA0
    obtain ⟨dDy, dEv, dG, dP, dV, dB, dL, dH⟩ := hB0
    have hnb := hW.1
    have hnl := hW.2.1
    refine wpW (cs := [(49, ce_Jx4a65c_size_8abf5), (161, ce_X4_allottedHour G D S), (309, ce_X1_isShort G D S)]) (stop := [4, 20]) (n := 200) (env_cons (ceV (by decide +kernel) ⟨by decide, by decide, by decide +kernel⟩ (by decide) rfl (ok_Jx4a65c_size_8abf5 G)) (env_cons (ceV (by decide +kernel) ⟨by decide, by decide, by decide +kernel⟩ (by decide) rfl (ok_X4_allottedHour G G D S hW)) (env_cons (ceV (by decide +kernel) ⟨by decide, by decide, by decide +kernel⟩ (by decide) rfl (ok_X1_isShort G G D S hW)) (env_nil0 (env_hh rfl))))) ?_
    simp only [↓wpN_S, ↓step_u, ↓stC_s, stC_s, ↓stF_u, stF_u, ↓stepI, lenI, ↓kN_u, isS, ↓gI_0, ↓gI_S, ↓gL_0, ↓gL_S, ↓gD_0, ↓gD_S, ↓gR_0, ↓gR_S, ↓sI_c, ↓sL_c, ↓sD_c, ↓sR_c, ↓s1_r, ↓s1_i, ↓vR_r, ↓vR_n, ↓s0_n, s0_n, ↓oR_u, ↓sP_u, ↓sPa_0, ↓sPa_S, ↓lkC_c, ↓callK_u, ↓cQ_s, ↓cQ_n, putL, putW, clr, kil, catS, catN, refF, booF, finF, nF, nmOf_0, nmOf_1, nmOf_2, nmOf_3, nmOf_4, nmOf_5, nmOf_6, nmOf_50, nmOf_51, nmOf_52, ↓reduceIte, reduceIte, Bool.false_eq_true, eq_self, true_or, or_true, true_and, and_true, false_or, or_false, Nat.reduceAdd, Nat.reduceSub, Nat.reduceEqDiff, Nat.reduceLT, Nat.reduceLeDiff, reduceCtorEq, true_implies, List.length_cons, List.length_nil, List.replicate, List.cons_append, List.nil_append, mrt_X4_shortHours, mhh_X4_shortHours, mow_X4_shortHours, mnl_X4_shortHours, DX4_shortHours_0, DX4_shortHours_1, DX4_shortHours_2, DX4_shortHours_3, DX4_shortHours_4, DX4_shortHours_5, DX4_shortHours_6, DX4_shortHours_9, DX4_shortHours_12, DX4_shortHours_15, DX4_shortHours_16, DX4_shortHours_17, DX4_shortHours_20, DX4_shortHours_21, DX4_shortHours_24, DX4_shortHours_27, DX4_shortHours_30, DX4_shortHours_33, DX4_shortHours_36, DX4_shortHours_37, ce_Jx4a65c_size_8abf5, ↓ct_Jx4a65c_size_8abf5, ycl_Jx4a65c_size_8abf5, ce_X4_allottedHour, ↓ct_X4_allottedHour, ycl_X4_allottedHour, ce_X1_isShort, ↓ct_X1_isShort, ycl_X1_isShort, cX_nil mhh_X4_shortHours]
    simp (disch := omega) only [i32_lit, i32_neg, i32_add, i32_mul, i32_sub, i32_nI, i32_lt, i32_le, i32_eq, inR_i, i32_clamp, i32_div, i32_max, i32_min, ite_max, ite_min, b2i_0, b2i_1, b2i_01, i32_toInt, tn_i, Int.toNat_natCast, em_t, true_and, and_true, Int.reduceToNat, Int.reduceLE, Int.reduceLT, Int.reduceAdd, Int.reduceMul, Int.reduceSub, Int.reduceNeg, Int.reduceEq, true_implies, not_true_eq_false, false_implies, not_false_eq_true, kC, rC0, rC1, rC2, rC3, rC4, kQ, rQ0, rQ1, kV, lV, kG, lG, kP, lP, kT, lT, LB1, LB2, LB3, LH1, LH2, LH3, LL1, LL2, LL3, dDy, dEv, true_and, and_true, Option.some.injEq, exists_eq_left', nmOf_0, nmOf_1, nmOf_2, nmOf_3, nmOf_4, nmOf_5, nmOf_6, Nat.add_sub_cancel, Nat.reduceSub, Nat.reduceLT, Nat.reduceEqDiff, ne_eq, not_false_eq_true, hI]
    refine ⟨fun z => by omega, fun _ => ⟨by omega, fun h' f' hI' hM' hL' => ?_⟩⟩
    have hs := ih (n + 1) (by omega) h' (f.tr f') hI'
    simp only [sumN] at hs
    have hD := hI'.cd
    have hD1 := hD
    have hA0 := hD.1
    have hB0 := hD.2
    obtain ⟨⟨kC, rC0, rC1, rC2, rC3, rC4⟩, ⟨kQ, rQ0, rQ1⟩, ⟨kV, lV⟩, ⟨kG, lG⟩, ⟨kP, lP⟩, ⟨kT, lT⟩, ⟨⟨LB1, LB2, LB3, LB4, LB5, LB6, LB7⟩, ⟨LH1, LH2, LH3, LH4, LH5, LH6, LH7⟩, ⟨LL1, LL2, LL3, LL4, LL5, LL6, LL7⟩⟩, hKB, hHA, hKL, hCJ⟩ := hA0
    obtain ⟨dDy, dEv, dG, dP, dV, dB, dL, dH⟩ := hB0
    have hnb := hW.1
    have hnl := hW.2.1
    obtain ⟨kH, ⟨rH5, rH6, rH7, rH8, rH12⟩, ⟨kH4, lH4⟩, ⟨kH5, lH5⟩, ⟨kH6, lH6⟩, ⟨kH7, lH7⟩⟩ := hHA n hn'
    obtain ⟨eH0, eH1, eH2, eH3⟩ := dH n hn'
    have qH := LH7 n hn'
    obtain ⟨kqH, lqH⟩ := LH6 (by omega)
    obtain ⟨vH0, vH0', vH1, vH1', -, vH2, vH2'⟩ := hW.2.2.2.2.1 n hn'
    have kL := hKL l hl
    obtain ⟨eL0, eL1, eL2, eL3, eL4, eL5, eL6, eL7, eL8, eL9⟩ := dL l hl
    have qL := LL7 l hl
    obtain ⟨kqL, lqL⟩ := LL6 (by omega)
    obtain ⟨vL0, vL0', vL1, vL1', vL2, vL2', vL3, vL4, vL4', vL5, vL5', vL6, vL7, vL7'⟩ := hW.2.2.2.1 l hl
    refine wpW (cs := [(49, ce_Jx4a65c_size_8abf5), (161, ce_X4_allottedHour G D S), (309, ce_X1_isShort G D S)]) (stop := [4]) (n := 200) (env_cons (ceV (by decide +kernel) ⟨by decide, by decide, by decide +kernel⟩ (by decide) rfl (ok_Jx4a65c_size_8abf5 G)) (env_cons (ceV (by decide +kernel) ⟨by decide, by decide, by decide +kernel⟩ (by decide) rfl (ok_X4_allottedHour G G D S hW)) (env_cons (ceV (by decide +kernel) ⟨by decide, by decide, by decide +kernel⟩ (by decide) rfl (ok_X1_isShort G G D S hW)) (env_nil0 (env_hh rfl))))) ?_
    simp only [↓wpN_S, ↓step_u, ↓stC_s, stC_s, ↓stF_u, stF_u, ↓stepI, lenI, ↓kN_u, isS, ↓gI_0, ↓gI_S, ↓gL_0, ↓gL_S, ↓gD_0, ↓gD_S, ↓gR_0, ↓gR_S, ↓sI_c, ↓sL_c, ↓sD_c, ↓sR_c, ↓s1_r, ↓s1_i, ↓vR_r, ↓vR_n, ↓s0_n, s0_n, ↓oR_u, ↓sP_u, ↓sPa_0, ↓sPa_S, ↓lkC_c, ↓callK_u, ↓cQ_s, ↓cQ_n, putL, putW, clr, kil, catS, catN, refF, booF, finF, nF, nmOf_0, nmOf_1, nmOf_2, nmOf_3, nmOf_4, nmOf_5, nmOf_6, nmOf_50, nmOf_51, nmOf_52, ↓reduceIte, reduceIte, Bool.false_eq_true, eq_self, true_or, or_true, true_and, and_true, false_or, or_false, Nat.reduceAdd, Nat.reduceSub, Nat.reduceEqDiff, Nat.reduceLT, Nat.reduceLeDiff, reduceCtorEq, true_implies, List.length_cons, List.length_nil, List.replicate, List.cons_append, List.nil_append, mrt_X4_shortHours, mhh_X4_shortHours, mow_X4_shortHours, mnl_X4_shortHours, DX4_shortHours_0, DX4_shortHours_1, DX4_shortHours_2, DX4_shortHours_3, DX4_shortHours_4, DX4_shortHours_5, DX4_shortHours_6, DX4_shortHours_9, DX4_shortHours_12, DX4_shortHours_15, DX4_shortHours_16, DX4_shortHours_17, DX4_shortHours_20, DX4_shortHours_21, DX4_shortHours_24, DX4_shortHours_27, DX4_shortHours_30, DX4_shortHours_33, DX4_shortHours_36, DX4_shortHours_37, ce_Jx4a65c_size_8abf5, ↓ct_Jx4a65c_size_8abf5, ycl_Jx4a65c_size_8abf5, ce_X4_allottedHour, ↓ct_X4_allottedHour, ycl_X4_allottedHour, ce_X1_isShort, ↓ct_X1_isShort, ycl_X1_isShort, cX_nil mhh_X4_shortHours]
    simp (disch := omega) only [i32_lit, i32_neg, i32_add, i32_mul, i32_sub, i32_nI, i32_lt, i32_le, i32_eq, inR_i, i32_clamp, i32_div, i32_max, i32_min, ite_max, ite_min, b2i_0, b2i_1, b2i_01, i32_toInt, tn_i, Int.toNat_natCast, em_t, true_and, and_true, Int.reduceToNat, Int.reduceLE, Int.reduceLT, Int.reduceAdd, Int.reduceMul, Int.reduceSub, Int.reduceNeg, Int.reduceEq, true_implies, not_true_eq_false, false_implies, not_false_eq_true, kC, rC0, rC1, rC2, rC3, rC4, kQ, rQ0, rQ1, kV, lV, kG, lG, kP, lP, kT, lT, LB1, LB2, LB3, LH1, LH2, LH3, LL1, LL2, LL3, dDy, dEv, true_and, and_true, Option.some.injEq, exists_eq_left', nmOf_0, nmOf_1, nmOf_2, nmOf_3, nmOf_4, nmOf_5, nmOf_6, Nat.add_sub_cancel, Nat.reduceSub, Nat.reduceLT, Nat.reduceEqDiff, ne_eq, not_false_eq_true, kH, rH5, rH6, rH7, rH8, rH12, kH4, lH4, kH5, lH5, kH6, lH6, kH7, lH7, eH0, eH1, eH2, eH3, qH, kqH, lqH, kL, eL0, eL1, eL2, eL3, eL4, eL5, eL6, eL7, eL8, eL9, qL, kqL, lqL, hD1]
    rw [show (n : Int) + 1 = ((n + 1 : Nat) : Int) by omega]
    refine ⟨n, l, hn', hl, rfl, rfl, hL', fun z => ?_, fun z => ?_⟩
    · rw [if_neg z, Int.add_zero] at hs; exact hs
    · rw [if_pos (Classical.not_not.mp z)] at hs; exact hs
set_option maxRecDepth 100000 in
set_option maxHeartbeats 4000000 in
theorem ok_X4_shortHours (G : GT) (G : GT) (D : WD) (S : SS) (hW : WF S) : OKm G yX4_shortHours MX4_shortHours 10 0 0 (ct_X4_shortHours G D S) := by
  refine mkOK (ini := false) (by decide) rfl (by first | exact fun _ => rfl | (intro hh; cases hh)) (fun As h Q QX hc => ?_)
  replace hc := sR_e hc; obtain ⟨c, r, rfl, hc⟩ := hc
  replace hc := sR_e hc; obtain ⟨a, r, rfl, hc⟩ := hc
  replace hc := s0_e hc; obtain ⟨rfl, hc⟩ := hc
  obtain ⟨hI, rfl, l, hl, rfl, hq⟩ := hc
  have hz := lp_X4_shortHours (Q := Q) (QX := QX) G hW hl hq 12 0 (by omega) h Fr.rf hI
  refine ⟨Nat.le_of_ble_eq_true rfl, ?_⟩
  simp only [ent, entL, catN, List.length_cons, List.length_nil, List.replicate, List.cons_append, List.nil_append, reduceIte, Nat.reduceEqDiff,  Nat.reduceAdd, Nat.reduceSub, mnl_X4_shortHours]
  refine wpW (cs := [(49, ce_Jx4a65c_size_8abf5), (161, ce_X4_allottedHour G D S), (309, ce_X1_isShort G D S)]) (stop := [4]) (n := 200) (env_cons (ceV (by decide +kernel) ⟨by decide, by decide, by decide +kernel⟩ (by decide) rfl (ok_Jx4a65c_size_8abf5 G)) (env_cons (ceV (by decide +kernel) ⟨by decide, by decide, by decide +kernel⟩ (by decide) rfl (ok_X4_allottedHour G G D S hW)) (env_cons (ceV (by decide +kernel) ⟨by decide, by decide, by decide +kernel⟩ (by decide) rfl (ok_X1_isShort G G D S hW)) (env_nil0 (env_hh rfl))))) ?_
  simp only [↓wpN_S, ↓step_u, ↓stC_s, stC_s, ↓stF_u, stF_u, ↓stepI, lenI, ↓kN_u, isS, ↓gI_0, ↓gI_S, ↓gL_0, ↓gL_S, ↓gD_0, ↓gD_S, ↓gR_0, ↓gR_S, ↓sI_c, ↓sL_c, ↓sD_c, ↓sR_c, ↓s1_r, ↓s1_i, ↓vR_r, ↓vR_n, ↓s0_n, s0_n, ↓oR_u, ↓sP_u, ↓sPa_0, ↓sPa_S, ↓lkC_c, ↓callK_u, ↓cQ_s, ↓cQ_n, putL, putW, clr, kil, catS, catN, refF, booF, finF, nF, nmOf_0, nmOf_1, nmOf_2, nmOf_3, nmOf_4, nmOf_5, nmOf_6, nmOf_50, nmOf_51, nmOf_52, ↓reduceIte, reduceIte, Bool.false_eq_true, eq_self, true_or, or_true, true_and, and_true, false_or, or_false, Nat.reduceAdd, Nat.reduceSub, Nat.reduceEqDiff, Nat.reduceLT, Nat.reduceLeDiff, reduceCtorEq, true_implies, List.length_cons, List.length_nil, List.replicate, List.cons_append, List.nil_append, mrt_X4_shortHours, mhh_X4_shortHours, mow_X4_shortHours, mnl_X4_shortHours, DX4_shortHours_0, DX4_shortHours_1, DX4_shortHours_2, DX4_shortHours_3, DX4_shortHours_4, DX4_shortHours_5, DX4_shortHours_6, DX4_shortHours_9, DX4_shortHours_12, DX4_shortHours_15, DX4_shortHours_16, DX4_shortHours_17, DX4_shortHours_20, DX4_shortHours_21, DX4_shortHours_24, DX4_shortHours_27, DX4_shortHours_30, DX4_shortHours_33, DX4_shortHours_36, DX4_shortHours_37, ce_Jx4a65c_size_8abf5, ↓ct_Jx4a65c_size_8abf5, ycl_Jx4a65c_size_8abf5, ce_X4_allottedHour, ↓ct_X4_allottedHour, ycl_X4_allottedHour, ce_X1_isShort, ↓ct_X1_isShort, ycl_X1_isShort, cX_nil mhh_X4_shortHours]
  exact hz

