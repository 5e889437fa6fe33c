/-! ===== the class: its reads ===== -/
/-- a read's answer: caches may have changed -/
def nxr (G : GT) (h : Hp) (D : WD) (S : SS) (Q : Option Value → Hp → Prop) (v : Value) : Prop := ∀ h', Fr h h' (WK D) → CI G h' D S → Q (some v) h'
def ct_X4_shade_t (G : GT) (D : WD) (S : SS) : Ct := fun As h Q QX => sR As fun c r => sI r fun hr r => sI r fun x r => sI r fun y r => s0 r (CI G h D S ∧ c = D 0 0 ∧ ((0 ≤ hr.toInt ∧ hr.toInt ≤ 11) ∧ (0 ≤ x.toInt ∧ x.toInt ≤ 15) ∧ (0 ≤ y.toInt ∧ y.toInt ≤ 15) → nxr G h D S Q (.int (i32 (bel S (tn hr) (x.toInt + 16 * y.toInt).toNat)))) ∧ (¬ ((0 ≤ hr.toInt ∧ hr.toInt ≤ 11) ∧ (0 ≤ x.toInt ∧ x.toInt ≤ 15) ∧ (0 ≤ y.toInt ∧ y.toInt ≤ 15)) → QX IOB h))
def ce_X4_shade_t (G : GT) (D : WD) (S : SS) : CE := (0, yX4_shade, MX4_shade, 3, 10, 4, 24, ct_X4_shade_t G D S)
set_option maxRecDepth 100000 in
set_option maxHeartbeats 4000000 in
theorem ok_X4_shade_t (G : GT) (G : GT) (D : WD) (S : SS) (hW : WF S) : OKm G yX4_shade MX4_shade 10 4 24 (ct_X4_shade_t G D S) := by
  refine mkOK (ini := false) (by decide) rfl (by first | exact fun _ => rfl | (intro hh; cases hh)) (fun As h Q QX hc => ?_)
  replace hc := sR_e hc; obtain ⟨c, r, rfl, hc⟩ := hc
  replace hc := sI_e hc; obtain ⟨hr, r, rfl, hc⟩ := hc
  replace hc := sI_e hc; obtain ⟨x, r, rfl, hc⟩ := hc
  replace hc := sI_e hc; obtain ⟨y, r, rfl, hc⟩ := hc
  replace hc := s0_e hc; obtain ⟨rfl, hc⟩ := hc
  obtain ⟨hI, rfl, hq, hx⟩ := hc
  obtain ⟨rV, hrV, rfl⟩ := i32_all hr
  obtain ⟨xV, hxV, rfl⟩ := i32_all x
  obtain ⟨yV, hyV, rfl⟩ := i32_all y
  simp only [i32_toInt hrV, tn_i hrV, i32_toInt hxV, i32_toInt hyV] at hq hx
  have hD := hI.cd
  have hA0 := hD.1
  have hB0 := hD.2
  obtain ⟨⟨kC, rC0, rC1, rC2, rC3, rC4⟩, ⟨kQ, rQ0, rQ1⟩, ⟨kV, lV⟩, ⟨kG, lG⟩, ⟨kP, lP⟩, ⟨kT, lT⟩, ⟨⟨LB1, LB2, LB3, LB4, LB5, LB6, LB7⟩, ⟨LH1, LH2, LH3, LH4, LH5, LH6, LH7⟩, ⟨LL1, LL2, LL3, LL4, LL5, LL6, LL7⟩⟩, hKB, hHA, hKL, hCJ⟩ := hA0
  obtain ⟨dDy, dEv, dG, dP, dV, dB, dL, dH⟩ := hB0
  have hnb := hW.1
  have hnl := hW.2.1
  refine ⟨Nat.le_of_ble_eq_true rfl, ?_⟩
  simp only [ent, entL, catN, List.length_cons, List.length_nil, List.replicate, List.cons_append, List.nil_append, reduceIte, Nat.reduceEqDiff,  Nat.reduceAdd, Nat.reduceSub, mnl_X4_shade]
  refine wpW (cs := [(130, ce_X4_needIndex_t), (149, ce_X4_measuredHour_t G D S)]) (stop := [17]) (n := 200) (env_cons (ceS (by decide +kernel) ⟨by decide, by decide, by decide +kernel⟩ (by decide) (ok_X4_needIndex_t G)) (env_cons (ceV (by decide +kernel) ⟨by decide, by decide, by decide +kernel⟩ (by decide) rfl (ok_X4_measuredHour_t G G D S hW)) (env_nil0 (env_hh rfl)))) ?_
  simp only [↓wpN_S, ↓step_u, ↓stC_s, stC_s, ↓stF_u, stF_u, ↓stepI, lenI, ↓kN_u, isS, ↓gI_0, ↓gI_S, ↓gL_0, ↓gL_S, ↓gD_0, ↓gD_S, ↓gR_0, ↓gR_S, ↓sI_c, ↓sL_c, ↓sD_c, ↓sR_c, ↓s1_r, ↓s1_i, ↓vR_r, ↓vR_n, ↓s0_n, s0_n, ↓oR_u, ↓sP_u, ↓sPa_0, ↓sPa_S, ↓lkC_c, ↓callK_u, ↓cQ_s, ↓cQ_n, putL, putW, clr, kil, catS, catN, refF, booF, finF, nF, nmOf_0, nmOf_1, nmOf_2, nmOf_3, nmOf_4, nmOf_5, nmOf_6, nmOf_50, nmOf_51, nmOf_52, ↓reduceIte, reduceIte, Bool.false_eq_true, eq_self, true_or, or_true, true_and, and_true, false_or, or_false, Nat.reduceAdd, Nat.reduceSub, Nat.reduceEqDiff, Nat.reduceLT, Nat.reduceLeDiff, reduceCtorEq, true_implies, List.length_cons, List.length_nil, List.replicate, List.cons_append, List.nil_append, mrt_X4_shade, mhh_X4_shade, mow_X4_shade, mnl_X4_shade, DX4_shade_0, DX4_shade_1, DX4_shade_3, DX4_shade_6, DX4_shade_7, DX4_shade_9, DX4_shade_12, DX4_shade_13, DX4_shade_14, DX4_shade_17, DX4_shade_20, DX4_shade_21, DX4_shade_23, DX4_shade_24, DX4_shade_25, DX4_shade_26, DX4_shade_27, ce_X4_needIndex_t, ↓ct_X4_needIndex_t, ycl_X4_needIndex, ce_X4_measuredHour_t, ↓ct_X4_measuredHour_t, ycl_X4_measuredHour, cX_nil mhh_X4_shade]
  simp (disch := omega) only [i32_lit, i32_neg, i32_add, i32_mul, i32_sub, i32_nI, i32_lt, i32_le, i32_eq, inR_i, i32_clamp, i32_div, i32_max, i32_min, ite_max, ite_min, b2i_0, b2i_1, b2i_01, i32_toInt, tn_i, Int.toNat_natCast, em_t, true_and, and_true, Int.reduceToNat, Int.reduceLE, Int.reduceLT, Int.reduceAdd, Int.reduceMul, Int.reduceSub, Int.reduceNeg, Int.reduceEq, true_implies, not_true_eq_false, false_implies, not_false_eq_true, kC, rC0, rC1, rC2, rC3, rC4, kQ, rQ0, rQ1, kV, lV, kG, lG, kP, lP, kT, lT, LB1, LB2, LB3, LH1, LH2, LH3, LL1, LL2, LL3, dDy, dEv, true_and, and_true, Option.some.injEq, exists_eq_left', nmOf_0, nmOf_1, nmOf_2, nmOf_3, nmOf_4, nmOf_5, nmOf_6, Nat.add_sub_cancel, Nat.reduceSub, Nat.reduceLT, Nat.reduceEqDiff, ne_eq, not_false_eq_true, hI]
  trace_state
  done
