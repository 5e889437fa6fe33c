def ct_X4_lease (G : GT) (D : WD) (S : SS) : Ct := fun As h Q QX => sR As fun c r => sI r fun b r => sI r fun w r => s0 r (CI G h D S ∧ c = D 0 0 ∧ (((0 ≤ b.toInt ∧ b.toInt < S.nl) ∧ (0 ≤ w.toInt ∧ w.toInt ≤ 9)) ∧ nxr G h D S Q (.int (i32 (leT S (tn b) (tn w))))))
def ce_X4_lease (G : GT) (D : WD) (S : SS) : CE := (0, yX4_lease, MX4_lease, 2, 11, 0, 0, ct_X4_lease G D S)
set_option maxRecDepth 100000 in
set_option maxHeartbeats 4000000 in
theorem ok_X4_lease (G : GT) (G : GT) (D : WD) (S : SS) (hW : WF S) : OKm G yX4_lease MX4_lease 11 0 0 (ct_X4_lease G D S) := by
  refine mkOK (ini := false) (by decide) rfl (by first | exact fun _ => rfl | (intro hh; cases hh)) (fun As h Q QX hc => ?_)
  replace hc := sR_e hc; obtain ⟨c, r, rfl, hc⟩ := hc
  replace hc := sI_e hc; obtain ⟨b, r, rfl, hc⟩ := hc
  replace hc := sI_e hc; obtain ⟨w, r, rfl, hc⟩ := hc
  replace hc := s0_e hc; obtain ⟨rfl, hc⟩ := hc
  obtain ⟨hI, rfl, hv, hq⟩ := hc
  obtain ⟨bV, hbV, rfl⟩ := i32_all b
  obtain ⟨wV, hwV, rfl⟩ := i32_all w
  simp only [i32_toInt hbV, tn_i hbV, i32_toInt hwV, tn_i hwV] at hv hq
  have hD := hI.cd
  have hD0 := hD
  have hA0 := hD.1
  have hB0 := hD.2
  obtain ⟨⟨kC, rC0, rC1, rC2, rC3, rC4⟩, ⟨kQ, rQ0, rQ1⟩, ⟨kV, lV⟩, ⟨kG, lG⟩, ⟨kP, lP⟩, ⟨kT, lT⟩, ⟨⟨LB1, LB2, LB3, LB4, LB5, LB6, LB7⟩, ⟨LH1, LH2, LH3, LH4, LH5, LH6, LH7⟩, ⟨LL1, LL2, LL3, LL4, LL5, LL6, LL7⟩⟩, hKB, hHA, hKL, hCJ⟩ := hA0
  obtain ⟨dDy, dEv, dG, dP, dV, dB, dL, dH⟩ := hB0
  have hnb := hW.1
  have hnl := hW.2.1
  refine ⟨Nat.le_of_ble_eq_true rfl, ?_⟩
  simp only [ent, entL, catN, List.length_cons, List.length_nil, List.replicate, List.cons_append, List.nil_append, reduceIte, Nat.reduceEqDiff,  Nat.reduceAdd, Nat.reduceSub, mnl_X4_lease]
  refine wpW (cs := [(183, ce_X4_leaseAt G D S), (130, ce_X4_needIndex), (201, ce_X4_shortHours G D S)]) (stop := [5]) (n := 200) (env_cons (ceV (by decide +kernel) ⟨by decide, by decide, by decide +kernel⟩ (by decide) rfl (ok_X4_leaseAt G G D S hW)) (env_cons (ceS (by decide +kernel) ⟨by decide, by decide, by decide +kernel⟩ (by decide) (ok_X4_needIndex G)) (env_cons (ceV (by decide +kernel) ⟨by decide, by decide, by decide +kernel⟩ (by decide) rfl (ok_X4_shortHours G G D S hW)) (env_nil0 (env_hh rfl))))) ?_
  simp only [↓wpN_S, ↓step_u, ↓stC_s, stC_s, ↓stF_u, stF_u, ↓stepI, lenI, ↓kN_u, isS, ↓gI_0, ↓gI_S, ↓gL_0, ↓gL_S, ↓gD_0, ↓gD_S, ↓gR_0, ↓gR_S, ↓sI_c, ↓sL_c, ↓sD_c, ↓sR_c, ↓s1_r, ↓s1_i, ↓vR_r, ↓vR_n, ↓s0_n, s0_n, ↓oR_u, ↓sP_u, ↓sPa_0, ↓sPa_S, ↓lkC_c, ↓callK_u, ↓cQ_s, ↓cQ_n, putL, putW, clr, kil, catS, catN, refF, booF, finF, nF, nmOf_0, nmOf_1, nmOf_2, nmOf_3, nmOf_4, nmOf_5, nmOf_6, nmOf_50, nmOf_51, nmOf_52, ↓reduceIte, reduceIte, Bool.false_eq_true, eq_self, true_or, or_true, true_and, and_true, false_or, or_false, Nat.reduceAdd, Nat.reduceSub, Nat.reduceEqDiff, Nat.reduceLT, Nat.reduceLeDiff, reduceCtorEq, true_implies, List.length_cons, List.length_nil, List.replicate, List.cons_append, List.nil_append, mrt_X4_lease, mhh_X4_lease, mow_X4_lease, mnl_X4_lease, DX4_lease_0, DX4_lease_1, DX4_lease_2, DX4_lease_5, DX4_lease_6, DX4_lease_7, DX4_lease_9, DX4_lease_12, DX4_lease_13, DX4_lease_64, DX4_lease_65, DX4_lease_68, DX4_lease_69, DX4_lease_70, DX4_lease_73, DX4_lease_74, DX4_lease_75, DX4_lease_78, DX4_lease_79, DX4_lease_80, DX4_lease_83, DX4_lease_84, DX4_lease_85, DX4_lease_88, DX4_lease_89, DX4_lease_90, DX4_lease_93, DX4_lease_94, DX4_lease_95, DX4_lease_98, DX4_lease_101, DX4_lease_102, DX4_lease_105, DX4_lease_106, DX4_lease_107, DX4_lease_108, DX4_lease_111, DX4_lease_112, DX4_lease_113, DX4_lease_116, DX4_lease_117, DX4_lease_118, DX4_lease_119, DX4_lease_122, nxr, ce_X4_leaseAt, ↓ct_X4_leaseAt, ycl_X4_leaseAt, ce_X4_needIndex, ↓ct_X4_needIndex, ycl_X4_needIndex, ce_X4_shortHours, ↓ct_X4_shortHours, ycl_X4_shortHours, cX_nil mhh_X4_lease]
  simp (disch := omega) only [i32_lit, i32_neg, i32_add, i32_mul, i32_sub, i32_nI, i32_lt, i32_le, i32_eq, inR_i, i32_clamp, i32_div, i32_max, i32_min, ite_max, ite_min, b2i_0, b2i_1, b2i_01, i32_toInt, tn_i, Int.toNat_natCast, em_t, true_and, and_true, Int.reduceToNat, Int.reduceLE, Int.reduceLT, Int.reduceAdd, Int.reduceMul, Int.reduceSub, Int.reduceNeg, Int.reduceEq, true_implies, not_true_eq_false, false_implies, not_false_eq_true, kC, rC0, rC1, rC2, rC3, rC4, kQ, rQ0, rQ1, kV, lV, kG, lG, kP, lP, kT, lT, LB1, LB2, LB3, LH1, LH2, LH3, LL1, LL2, LL3, dDy, dEv, true_and, and_true, Option.some.injEq, exists_eq_left', nmOf_0, nmOf_1, nmOf_2, nmOf_3, nmOf_4, nmOf_5, nmOf_6, Nat.add_sub_cancel, Nat.reduceSub, Nat.reduceLT, Nat.reduceEqDiff, ne_eq, not_false_eq_true, hD0]
  refine ⟨hv.1, ?_⟩
  have h1 := hv.1
  have hb2 := h1.2
  obtain ⟨b, rfl⟩ := Int.eq_ofNat_of_zero_le h1.1
  simp only [Int.toNat_natCast] at hv hq ⊢
  have kL := hKL b (by omega)
  obtain ⟨eL0, eL1, eL2, eL3, eL4, eL5, eL6, eL7, eL8, eL9⟩ := dL b (by omega)
  have qL := LL7 b (by omega)
  obtain ⟨kqL, lqL⟩ := LL6 (by omega)
  obtain ⟨vL0, vL0', vL1, vL1', vL2, vL2', vL3, vL4, vL4', vL5, vL5', vL6, vL7, vL7'⟩ := hW.2.2.2.1 b (by omega)
  refine wpW (cs := [(183, ce_X4_leaseAt G D S), (130, ce_X4_needIndex), (201, ce_X4_shortHours G D S)]) (stop := []) (n := 200) (env_cons (ceV (by decide +kernel) ⟨by decide, by decide, by decide +kernel⟩ (by decide) rfl (ok_X4_leaseAt G G D S hW)) (env_cons (ceS (by decide +kernel) ⟨by decide, by decide, by decide +kernel⟩ (by decide) (ok_X4_needIndex G)) (env_cons (ceV (by decide +kernel) ⟨by decide, by decide, by decide +kernel⟩ (by decide) rfl (ok_X4_shortHours G G D S hW)) (env_nil0 (env_hh rfl))))) ?_
  simp only [↓wpN_S, ↓step_u, ↓stC_s, stC_s, ↓stF_u, stF_u, ↓stepI, lenI, ↓kN_u, isS, ↓gI_0, ↓gI_S, ↓gL_0, ↓gL_S, ↓gD_0, ↓gD_S, ↓gR_0, ↓gR_S, ↓sI_c, ↓sL_c, ↓sD_c, ↓sR_c, ↓s1_r, ↓s1_i, ↓vR_r, ↓vR_n, ↓s0_n, s0_n, ↓oR_u, ↓sP_u, ↓sPa_0, ↓sPa_S, ↓lkC_c, ↓callK_u, ↓cQ_s, ↓cQ_n, putL, putW, clr, kil, catS, catN, refF, booF, finF, nF, nmOf_0, nmOf_1, nmOf_2, nmOf_3, nmOf_4, nmOf_5, nmOf_6, nmOf_50, nmOf_51, nmOf_52, ↓reduceIte, reduceIte, Bool.false_eq_true, eq_self, true_or, or_true, true_and, and_true, false_or, or_false, Nat.reduceAdd, Nat.reduceSub, Nat.reduceEqDiff, Nat.reduceLT, Nat.reduceLeDiff, reduceCtorEq, true_implies, List.length_cons, List.length_nil, List.replicate, List.cons_append, List.nil_append, mrt_X4_lease, mhh_X4_lease, mow_X4_lease, mnl_X4_lease, DX4_lease_0, DX4_lease_1, DX4_lease_2, DX4_lease_5, DX4_lease_6, DX4_lease_7, DX4_lease_9, DX4_lease_12, DX4_lease_13, DX4_lease_64, DX4_lease_65, DX4_lease_68, DX4_lease_69, DX4_lease_70, DX4_lease_73, DX4_lease_74, DX4_lease_75, DX4_lease_78, DX4_lease_79, DX4_lease_80, DX4_lease_83, DX4_lease_84, DX4_lease_85, DX4_lease_88, DX4_lease_89, DX4_lease_90, DX4_lease_93, DX4_lease_94, DX4_lease_95, DX4_lease_98, DX4_lease_101, DX4_lease_102, DX4_lease_105, DX4_lease_106, DX4_lease_107, DX4_lease_108, DX4_lease_111, DX4_lease_112, DX4_lease_113, DX4_lease_116, DX4_lease_117, DX4_lease_118, DX4_lease_119, DX4_lease_122, nxr, ce_X4_leaseAt, ↓ct_X4_leaseAt, ycl_X4_leaseAt, ce_X4_needIndex, ↓ct_X4_needIndex, ycl_X4_needIndex, ce_X4_shortHours, ↓ct_X4_shortHours, ycl_X4_shortHours, cX_nil mhh_X4_lease]
  simp only [↓swP_S, ↓swP_0, ↓wpN_S, ↓step_u, ↓stC_s, stC_s, ↓stF_u, stF_u, ↓stepI, lenI, ↓kN_u, isS, ↓gI_0, ↓gI_S, ↓gL_0, ↓gL_S, ↓gD_0, ↓gD_S, ↓gR_0, ↓gR_S, ↓sI_c, ↓sL_c, ↓sD_c, ↓sR_c, ↓s1_r, ↓s1_i, ↓vR_r, ↓vR_n, ↓s0_n, s0_n, ↓oR_u, ↓sP_u, ↓sPa_0, ↓sPa_S, ↓lkC_c, ↓callK_u, ↓cQ_s, ↓cQ_n, putL, putW, clr, kil, catS, catN, refF, booF, finF, nF, nmOf_0, nmOf_1, nmOf_2, nmOf_3, nmOf_4, nmOf_5, nmOf_6, nmOf_50, nmOf_51, nmOf_52, ↓reduceIte, reduceIte, Bool.false_eq_true, eq_self, true_or, or_true, true_and, and_true, false_or, or_false, Nat.reduceAdd, Nat.reduceSub, Nat.reduceEqDiff, Nat.reduceLT, Nat.reduceLeDiff, reduceCtorEq, true_implies, List.length_cons, List.length_nil, List.replicate, List.cons_append, List.nil_append, mrt_X4_lease, mhh_X4_lease, mow_X4_lease, mnl_X4_lease, DX4_lease_0, DX4_lease_1, DX4_lease_2, DX4_lease_5, DX4_lease_6, DX4_lease_7, DX4_lease_9, DX4_lease_12, DX4_lease_13, DX4_lease_64, DX4_lease_65, DX4_lease_68, DX4_lease_69, DX4_lease_70, DX4_lease_73, DX4_lease_74, DX4_lease_75, DX4_lease_78, DX4_lease_79, DX4_lease_80, DX4_lease_83, DX4_lease_84, DX4_lease_85, DX4_lease_88, DX4_lease_89, DX4_lease_90, DX4_lease_93, DX4_lease_94, DX4_lease_95, DX4_lease_98, DX4_lease_101, DX4_lease_102, DX4_lease_105, DX4_lease_106, DX4_lease_107, DX4_lease_108, DX4_lease_111, DX4_lease_112, DX4_lease_113, DX4_lease_116, DX4_lease_117, DX4_lease_118, DX4_lease_119, DX4_lease_122, nxr, ce_X4_leaseAt, ↓ct_X4_leaseAt, ycl_X4_leaseAt, ce_X4_needIndex, ↓ct_X4_needIndex, ycl_X4_needIndex, ce_X4_shortHours, ↓ct_X4_shortHours, ycl_X4_shortHours, cX_nil mhh_X4_lease]
  simp (disch := omega) only [i32_lit, i32_neg, i32_add, i32_mul, i32_sub, i32_nI, i32_lt, i32_le, i32_eq, inR_i, i32_clamp, i32_div, i32_max, i32_min, ite_max, ite_min, b2i_0, b2i_1, b2i_01, i32_toInt, tn_i, Int.toNat_natCast, em_t, true_and, and_true, Int.reduceToNat, Int.reduceLE, Int.reduceLT, Int.reduceAdd, Int.reduceMul, Int.reduceSub, Int.reduceNeg, Int.reduceEq, true_implies, not_true_eq_false, false_implies, not_false_eq_true, kC, rC0, rC1, rC2, rC3, rC4, kQ, rQ0, rQ1, kV, lV, kG, lG, kP, lP, kT, lT, LB1, LB2, LB3, LH1, LH2, LH3, LL1, LL2, LL3, dDy, dEv, true_and, and_true, Option.some.injEq, exists_eq_left', nmOf_0, nmOf_1, nmOf_2, nmOf_3, nmOf_4, nmOf_5, nmOf_6, Nat.add_sub_cancel, Nat.reduceSub, Nat.reduceLT, Nat.reduceEqDiff, ne_eq, not_false_eq_true, kL, eL0, eL1, eL2, eL3, eL4, eL5, eL6, eL7, eL8, eL9, qL, kqL, lqL, hI]
  refine ⟨by omega, ?_⟩
  have hqh := hq h Fr.rf hI
  refine ⟨rfl, by omega, ⟨fun h3 => ?_, fun h3 => ?_, fun h3 => ?_, fun h3 => ?_, fun h3 => ?_, fun h3 => ?_, fun h3 => ?_, fun h3 => ?_, fun h3 => ?_⟩, fun h3 => ?_⟩
  · rw [h3] at hqh; exact hqh
  · rw [h3] at hqh; exact hqh
  · rw [h3] at hqh; exact hqh
  · rw [h3] at hqh; exact hqh
  · rw [h3] at hqh; exact hqh
  · rw [h3] at hqh; exact hqh
  · rw [h3] at hqh
    have hq2 : Q (some (.int (i32 (S.lf b 6)))) h := hqh
    exact ⟨fun z => by rw [z] at hq2; exact hq2, fun z => by rw [show S.lf b 6 = 1 by omega] at hq2; exact hq2⟩
  · rw [h3] at hqh; exact hqh
  · rw [h3] at hqh; exact hqh
  · rw [show wV = 9 by omega] at hq
    exact ⟨b, by omega, rfl, fun h' f' hI' => hq h' f' hI'⟩
def ct_X4_lease_t (G : GT) (D : WD) (S : SS) : Ct := fun As h Q QX => sR As fun c r => sI r fun b r => sI r fun w r => s0 r (CI G h D S ∧ c = D 0 0 ∧ (((0 ≤ b.toInt ∧ b.toInt < S.nl) ∧ (0 ≤ w.toInt ∧ w.toInt ≤ 9) → nxr G h D S Q (.int (i32 (leT S (tn b) (tn w))))) ∧ (¬ ((0 ≤ b.toInt ∧ b.toInt < S.nl) ∧ (0 ≤ w.toInt ∧ w.toInt ≤ 9)) → QX IOB h)))
def ce_X4_lease_t (G : GT) (D : WD) (S : SS) : CE := (0, yX4_lease, MX4_lease, 2, 11, 4, 24, ct_X4_lease_t G D S)
set_option maxRecDepth 100000 in
set_option maxHeartbeats 4000000 in
theorem ok_X4_lease_t (G : GT) (G : GT) (D : WD) (S : SS) (hW : WF S) : OKm G yX4_lease MX4_lease 11 4 24 (ct_X4_lease_t G D S) := by
  refine mkOK (ini := false) (by decide) rfl (by first | exact fun _ => rfl | (intro hh; cases hh)) (fun As h Q QX hc => ?_)
  replace hc := sR_e hc; obtain ⟨c, r, rfl, hc⟩ := hc
  replace hc := sI_e hc; obtain ⟨b, r, rfl, hc⟩ := hc
  replace hc := sI_e hc; obtain ⟨w, r, rfl, hc⟩ := hc
  replace hc := s0_e hc; obtain ⟨rfl, hc⟩ := hc
  obtain ⟨hI, rfl, hq, hx⟩ := hc
  obtain ⟨bV, hbV, rfl⟩ := i32_all b
  obtain ⟨wV, hwV, rfl⟩ := i32_all w
  simp only [i32_toInt hbV, tn_i hbV, i32_toInt hwV, tn_i hwV] at hq hx
  have hD := hI.cd
  have hD0 := hD
  have hA0 := hD.1
  have hB0 := hD.2
  obtain ⟨⟨kC, rC0, rC1, rC2, rC3, rC4⟩, ⟨kQ, rQ0, rQ1⟩, ⟨kV, lV⟩, ⟨kG, lG⟩, ⟨kP, lP⟩, ⟨kT, lT⟩, ⟨⟨LB1, LB2, LB3, LB4, LB5, LB6, LB7⟩, ⟨LH1, LH2, LH3, LH4, LH5, LH6, LH7⟩, ⟨LL1, LL2, LL3, LL4, LL5, LL6, LL7⟩⟩, hKB, hHA, hKL, hCJ⟩ := hA0
  obtain ⟨dDy, dEv, dG, dP, dV, dB, dL, dH⟩ := hB0
  have hnb := hW.1
  have hnl := hW.2.1
  refine ⟨Nat.le_of_ble_eq_true rfl, ?_⟩
  simp only [ent, entL, catN, List.length_cons, List.length_nil, List.replicate, List.cons_append, List.nil_append, reduceIte, Nat.reduceEqDiff,  Nat.reduceAdd, Nat.reduceSub, mnl_X4_lease]
  refine wpW (cs := [(183, ce_X4_leaseAt_t G D S), (130, ce_X4_needIndex_t), (201, ce_X4_shortHours G D S)]) (stop := [5]) (n := 200) (env_cons (ceV (by decide +kernel) ⟨by decide, by decide, by decide +kernel⟩ (by decide) rfl (ok_X4_leaseAt_t G G D S hW)) (env_cons (ceS (by decide +kernel) ⟨by decide, by decide, by decide +kernel⟩ (by decide) (ok_X4_needIndex_t G)) (env_cons (ceV (by decide +kernel) ⟨by decide, by decide, by decide +kernel⟩ (by decide) rfl (ok_X4_shortHours G G D S hW)) (env_nil0 (env_hh rfl))))) ?_
  simp only [↓wpN_S, ↓step_u, ↓stC_s, stC_s, ↓stF_u, stF_u, ↓stepI, lenI, ↓kN_u, isS, ↓gI_0, ↓gI_S, ↓gL_0, ↓gL_S, ↓gD_0, ↓gD_S, ↓gR_0, ↓gR_S, ↓sI_c, ↓sL_c, ↓sD_c, ↓sR_c, ↓s1_r, ↓s1_i, ↓vR_r, ↓vR_n, ↓s0_n, s0_n, ↓oR_u, ↓sP_u, ↓sPa_0, ↓sPa_S, ↓lkC_c, ↓callK_u, ↓cQ_s, ↓cQ_n, putL, putW, clr, kil, catS, catN, refF, booF, finF, nF, nmOf_0, nmOf_1, nmOf_2, nmOf_3, nmOf_4, nmOf_5, nmOf_6, nmOf_50, nmOf_51, nmOf_52, ↓reduceIte, reduceIte, Bool.false_eq_true, eq_self, true_or, or_true, true_and, and_true, false_or, or_false, Nat.reduceAdd, Nat.reduceSub, Nat.reduceEqDiff, Nat.reduceLT, Nat.reduceLeDiff, reduceCtorEq, true_implies, List.length_cons, List.length_nil, List.replicate, List.cons_append, List.nil_append, mrt_X4_lease, mhh_X4_lease, mow_X4_lease, mnl_X4_lease, DX4_lease_0, DX4_lease_1, DX4_lease_2, DX4_lease_5, DX4_lease_6, DX4_lease_7, DX4_lease_9, DX4_lease_12, DX4_lease_13, DX4_lease_64, DX4_lease_65, DX4_lease_68, DX4_lease_69, DX4_lease_70, DX4_lease_73, DX4_lease_74, DX4_lease_75, DX4_lease_78, DX4_lease_79, DX4_lease_80, DX4_lease_83, DX4_lease_84, DX4_lease_85, DX4_lease_88, DX4_lease_89, DX4_lease_90, DX4_lease_93, DX4_lease_94, DX4_lease_95, DX4_lease_98, DX4_lease_101, DX4_lease_102, DX4_lease_105, DX4_lease_106, DX4_lease_107, DX4_lease_108, DX4_lease_111, DX4_lease_112, DX4_lease_113, DX4_lease_116, DX4_lease_117, DX4_lease_118, DX4_lease_119, DX4_lease_122, nxr, ce_X4_leaseAt_t, ↓ct_X4_leaseAt_t, ycl_X4_leaseAt, ce_X4_needIndex_t, ↓ct_X4_needIndex_t, ycl_X4_needIndex, ce_X4_shortHours, ↓ct_X4_shortHours, ycl_X4_shortHours, cX_nil mhh_X4_lease]
  simp (disch := omega) only [i32_lit, i32_neg, i32_add, i32_mul, i32_sub, i32_nI, i32_lt, i32_le, i32_eq, inR_i, i32_clamp, i32_div, i32_max, i32_min, ite_max, ite_min, b2i_0, b2i_1, b2i_01, i32_toInt, tn_i, Int.toNat_natCast, em_t, true_and, and_true, Int.reduceToNat, Int.reduceLE, Int.reduceLT, Int.reduceAdd, Int.reduceMul, Int.reduceSub, Int.reduceNeg, Int.reduceEq, true_implies, not_true_eq_false, false_implies, not_false_eq_true, kC, rC0, rC1, rC2, rC3, rC4, kQ, rQ0, rQ1, kV, lV, kG, lG, kP, lP, kT, lT, LB1, LB2, LB3, LH1, LH2, LH3, LL1, LL2, LL3, dDy, dEv, true_and, and_true, Option.some.injEq, exists_eq_left', nmOf_0, nmOf_1, nmOf_2, nmOf_3, nmOf_4, nmOf_5, nmOf_6, Nat.add_sub_cancel, Nat.reduceSub, Nat.reduceLT, Nat.reduceEqDiff, ne_eq, not_false_eq_true, hD0]
  refine ⟨fun h1 => ?_, fun z => hx (fun q => z q.1)⟩
  have hb2 := h1.2
  obtain ⟨b, rfl⟩ := Int.eq_ofNat_of_zero_le h1.1
  simp only [Int.toNat_natCast] at hq hx ⊢
  have kL := hKL b (by omega)
  obtain ⟨eL0, eL1, eL2, eL3, eL4, eL5, eL6, eL7, eL8, eL9⟩ := dL b (by omega)
  have qL := LL7 b (by omega)
  obtain ⟨kqL, lqL⟩ := LL6 (by omega)
  obtain ⟨vL0, vL0', vL1, vL1', vL2, vL2', vL3, vL4, vL4', vL5, vL5', vL6, vL7, vL7'⟩ := hW.2.2.2.1 b (by omega)
  refine wpW (cs := [(183, ce_X4_leaseAt_t G D S), (130, ce_X4_needIndex_t), (201, ce_X4_shortHours G D S)]) (stop := []) (n := 200) (env_cons (ceV (by decide +kernel) ⟨by decide, by decide, by decide +kernel⟩ (by decide) rfl (ok_X4_leaseAt_t G G D S hW)) (env_cons (ceS (by decide +kernel) ⟨by decide, by decide, by decide +kernel⟩ (by decide) (ok_X4_needIndex_t G)) (env_cons (ceV (by decide +kernel) ⟨by decide, by decide, by decide +kernel⟩ (by decide) rfl (ok_X4_shortHours G G D S hW)) (env_nil0 (env_hh rfl))))) ?_
  simp only [↓wpN_S, ↓step_u, ↓stC_s, stC_s, ↓stF_u, stF_u, ↓stepI, lenI, ↓kN_u, isS, ↓gI_0, ↓gI_S, ↓gL_0, ↓gL_S, ↓gD_0, ↓gD_S, ↓gR_0, ↓gR_S, ↓sI_c, ↓sL_c, ↓sD_c, ↓sR_c, ↓s1_r, ↓s1_i, ↓vR_r, ↓vR_n, ↓s0_n, s0_n, ↓oR_u, ↓sP_u, ↓sPa_0, ↓sPa_S, ↓lkC_c, ↓callK_u, ↓cQ_s, ↓cQ_n, putL, putW, clr, kil, catS, catN, refF, booF, finF, nF, nmOf_0, nmOf_1, nmOf_2, nmOf_3, nmOf_4, nmOf_5, nmOf_6, nmOf_50, nmOf_51, nmOf_52, ↓reduceIte, reduceIte, Bool.false_eq_true, eq_self, true_or, or_true, true_and, and_true, false_or, or_false, Nat.reduceAdd, Nat.reduceSub, Nat.reduceEqDiff, Nat.reduceLT, Nat.reduceLeDiff, reduceCtorEq, true_implies, List.length_cons, List.length_nil, List.replicate, List.cons_append, List.nil_append, mrt_X4_lease, mhh_X4_lease, mow_X4_lease, mnl_X4_lease, DX4_lease_0, DX4_lease_1, DX4_lease_2, DX4_lease_5, DX4_lease_6, DX4_lease_7, DX4_lease_9, DX4_lease_12, DX4_lease_13, DX4_lease_64, DX4_lease_65, DX4_lease_68, DX4_lease_69, DX4_lease_70, DX4_lease_73, DX4_lease_74, DX4_lease_75, DX4_lease_78, DX4_lease_79, DX4_lease_80, DX4_lease_83, DX4_lease_84, DX4_lease_85, DX4_lease_88, DX4_lease_89, DX4_lease_90, DX4_lease_93, DX4_lease_94, DX4_lease_95, DX4_lease_98, DX4_lease_101, DX4_lease_102, DX4_lease_105, DX4_lease_106, DX4_lease_107, DX4_lease_108, DX4_lease_111, DX4_lease_112, DX4_lease_113, DX4_lease_116, DX4_lease_117, DX4_lease_118, DX4_lease_119, DX4_lease_122, nxr, ce_X4_leaseAt_t, ↓ct_X4_leaseAt_t, ycl_X4_leaseAt, ce_X4_needIndex_t, ↓ct_X4_needIndex_t, ycl_X4_needIndex, ce_X4_shortHours, ↓ct_X4_shortHours, ycl_X4_shortHours, cX_nil mhh_X4_lease]
  simp only [↓swP_S, ↓swP_0, ↓wpN_S, ↓step_u, ↓stC_s, stC_s, ↓stF_u, stF_u, ↓stepI, lenI, ↓kN_u, isS, ↓gI_0, ↓gI_S, ↓gL_0, ↓gL_S, ↓gD_0, ↓gD_S, ↓gR_0, ↓gR_S, ↓sI_c, ↓sL_c, ↓sD_c, ↓sR_c, ↓s1_r, ↓s1_i, ↓vR_r, ↓vR_n, ↓s0_n, s0_n, ↓oR_u, ↓sP_u, ↓sPa_0, ↓sPa_S, ↓lkC_c, ↓callK_u, ↓cQ_s, ↓cQ_n, putL, putW, clr, kil, catS, catN, refF, booF, finF, nF, nmOf_0, nmOf_1, nmOf_2, nmOf_3, nmOf_4, nmOf_5, nmOf_6, nmOf_50, nmOf_51, nmOf_52, ↓reduceIte, reduceIte, Bool.false_eq_true, eq_self, true_or, or_true, true_and, and_true, false_or, or_false, Nat.reduceAdd, Nat.reduceSub, Nat.reduceEqDiff, Nat.reduceLT, Nat.reduceLeDiff, reduceCtorEq, true_implies, List.length_cons, List.length_nil, List.replicate, List.cons_append, List.nil_append, mrt_X4_lease, mhh_X4_lease, mow_X4_lease, mnl_X4_lease, DX4_lease_0, DX4_lease_1, DX4_lease_2, DX4_lease_5, DX4_lease_6, DX4_lease_7, DX4_lease_9, DX4_lease_12, DX4_lease_13, DX4_lease_64, DX4_lease_65, DX4_lease_68, DX4_lease_69, DX4_lease_70, DX4_lease_73, DX4_lease_74, DX4_lease_75, DX4_lease_78, DX4_lease_79, DX4_lease_80, DX4_lease_83, DX4_lease_84, DX4_lease_85, DX4_lease_88, DX4_lease_89, DX4_lease_90, DX4_lease_93, DX4_lease_94, DX4_lease_95, DX4_lease_98, DX4_lease_101, DX4_lease_102, DX4_lease_105, DX4_lease_106, DX4_lease_107, DX4_lease_108, DX4_lease_111, DX4_lease_112, DX4_lease_113, DX4_lease_116, DX4_lease_117, DX4_lease_118, DX4_lease_119, DX4_lease_122, nxr, ce_X4_leaseAt_t, ↓ct_X4_leaseAt_t, ycl_X4_leaseAt, ce_X4_needIndex_t, ↓ct_X4_needIndex_t, ycl_X4_needIndex, ce_X4_shortHours, ↓ct_X4_shortHours, ycl_X4_shortHours, cX_nil mhh_X4_lease]
  simp (disch := omega) only [i32_lit, i32_neg, i32_add, i32_mul, i32_sub, i32_nI, i32_lt, i32_le, i32_eq, inR_i, i32_clamp, i32_div, i32_max, i32_min, ite_max, ite_min, b2i_0, b2i_1, b2i_01, i32_toInt, tn_i, Int.toNat_natCast, em_t, true_and, and_true, Int.reduceToNat, Int.reduceLE, Int.reduceLT, Int.reduceAdd, Int.reduceMul, Int.reduceSub, Int.reduceNeg, Int.reduceEq, true_implies, not_true_eq_false, false_implies, not_false_eq_true, kC, rC0, rC1, rC2, rC3, rC4, kQ, rQ0, rQ1, kV, lV, kG, lG, kP, lP, kT, lT, LB1, LB2, LB3, LH1, LH2, LH3, LL1, LL2, LL3, dDy, dEv, true_and, and_true, Option.some.injEq, exists_eq_left', nmOf_0, nmOf_1, nmOf_2, nmOf_3, nmOf_4, nmOf_5, nmOf_6, Nat.add_sub_cancel, Nat.reduceSub, Nat.reduceLT, Nat.reduceEqDiff, ne_eq, not_false_eq_true, kL, eL0, eL1, eL2, eL3, eL4, eL5, eL6, eL7, eL8, eL9, qL, kqL, lqL, hI]
  refine ⟨fun h2 => ?_, fun z => hx (by omega)⟩
  replace hq := hq ⟨by omega, by omega⟩
  have hqh := hq h Fr.rf hI
  refine ⟨rfl, by omega, ⟨fun h3 => ?_, fun h3 => ?_, fun h3 => ?_, fun h3 => ?_, fun h3 => ?_, fun h3 => ?_, fun h3 => ?_, fun h3 => ?_, fun h3 => ?_⟩, fun h3 => ?_⟩
  · rw [h3] at hqh; exact hqh
  · rw [h3] at hqh; exact hqh
  · rw [h3] at hqh; exact hqh
  · rw [h3] at hqh; exact hqh
  · rw [h3] at hqh; exact hqh
  · rw [h3] at hqh; exact hqh
  · rw [h3] at hqh
    have hq2 : Q (some (.int (i32 (S.lf b 6)))) h := hqh
    exact ⟨fun z => by rw [z] at hq2; exact hq2, fun z => by rw [show S.lf b 6 = 1 by omega] at hq2; exact hq2⟩
  · rw [h3] at hqh; exact hqh
  · rw [h3] at hqh; exact hqh
  · rw [show wV = 9 by omega] at hq
    exact ⟨b, by omega, rfl, fun h' f' hI' => hq h' f' hI'⟩
theorem cnt_ex {S : SS} {r : Nat} {b K : Int} (hK : 0 ≤ K) : ∀ n : Nat, K < cnt S r b n → ∃ c, c < n ∧ bel S r c = b ∧ cnt S r b c = K
  | 0, h => by simp only [cnt, sumN] at h; omega
  | n + 1, h => by
    by_cases q : K < cnt S r b n
    · obtain ⟨c, h1, h2, h3⟩ := cnt_ex hK n q
      exact ⟨c, by omega, h2, h3⟩
    · have e : cnt S r b (n + 1) = cnt S r b n + (if bel S r n = b then 1 else 0) := rfl
      rw [e] at h
      by_cases z : bel S r n = b
      · rw [if_pos z] at h
        exact ⟨n, by omega, z, by omega⟩
      · rw [if_neg z] at h
        omega
/-! sums of the square -/
def ct_X3_standing (G : GT) (D : WD) (S : SS) : Ct := fun As h Q _ => sR As fun a r => s0 r (CD G h D S ∧ a = D 0 1 ∧ Q (some (.int (i32 (sumN (fun b => S.bf b 6) S.nb)))) h)
def ce_X3_standing (G : GT) (D : WD) (S : SS) : CE := (0, yX3_standing, MX3_standing, 0, 3, 0, 0, ct_X3_standing G D S)
set_option maxRecDepth 100000 in
set_option maxHeartbeats 4000000 in
theorem lp_X3_standing (G : GT) {D : WD} {S : SS} (hW : WF S) {h : Hp} {Q : Option Value → Hp → Prop} {QX : String → Hp → Prop} (hD : CD G h D S) (hq : Q (some (.int (i32 (sumN (fun b => S.bf b 6) S.nb)))) h) :
    ∀ k n : Nat, n + k = S.nb → Wp G MX3_standing false 3 Q QX 4 [some (.ref (D 0 1)), some (.int (i32 (sumN (fun b => S.bf b 6) n))), some (.int (i32 n))] [] h (0, 0) := by
  intro k
  induction k with
  | zero =>
    intro n hn
    have e : n = S.nb := by omega
    subst e
    have hA0 := hD.1
    have hB0 := hD.2
    obtain ⟨⟨kC, rC0, rC1, rC2, rC3, rC4⟩, ⟨kQ, rQ0, rQ1⟩, ⟨kV, lV⟩, ⟨kG, lG⟩, ⟨kP, lP⟩, ⟨kT, lT⟩, ⟨⟨LB1, LB2, LB3, LB4, LB5, LB6, LB7⟩, ⟨LH1, LH2, LH3, LH4, LH5, LH6, LH7⟩, ⟨LL1, LL2, LL3, LL4, LL5, LL6, LL7⟩⟩, hKB, hHA, hKL, hCJ⟩ := hA0
    obtain ⟨dDy, dEv, dG, dP, dV, dB, dL, dH⟩ := hB0
    have hnb := hW.1
    have hnl := hW.2.1
    refine wpW (cs := [(41, ce_Jx4a65c_size_8abf5), (45, ce_Jx4a65c_get_915e3)]) (stop := [4]) (n := 200) (env_cons (ceV (by decide +kernel) ⟨by decide, by decide, by decide +kernel⟩ (by decide) rfl (ok_Jx4a65c_size_8abf5 G)) (env_cons (ceV (by decide +kernel) ⟨by decide, by decide, by decide +kernel⟩ (by decide) rfl (ok_Jx4a65c_get_915e3 G)) (env_nil0 (env_hh rfl)))) ?_
    simp only [↓wpN_S, ↓step_u, ↓stC_s, stC_s, ↓stF_u, stF_u, ↓stepI, lenI, ↓kN_u, isS, ↓gI_0, ↓gI_S, ↓gL_0, ↓gL_S, ↓gD_0, ↓gD_S, ↓gR_0, ↓gR_S, ↓sI_c, ↓sL_c, ↓sD_c, ↓sR_c, ↓s1_r, ↓s1_i, ↓vR_r, ↓vR_n, ↓s0_n, s0_n, ↓oR_u, ↓sP_u, ↓sPa_0, ↓sPa_S, ↓lkC_c, ↓callK_u, ↓cQ_s, ↓cQ_n, putL, putW, clr, kil, catS, catN, refF, booF, finF, nF, nmOf_0, nmOf_1, nmOf_2, nmOf_3, nmOf_4, nmOf_5, nmOf_6, nmOf_50, nmOf_51, nmOf_52, ↓reduceIte, reduceIte, Bool.false_eq_true, eq_self, true_or, or_true, true_and, and_true, false_or, or_false, Nat.reduceAdd, Nat.reduceSub, Nat.reduceEqDiff, Nat.reduceLT, Nat.reduceLeDiff, reduceCtorEq, true_implies, List.length_cons, List.length_nil, List.replicate, List.cons_append, List.nil_append, mrt_X3_standing, mhh_X3_standing, mow_X3_standing, mnl_X3_standing, DX3_standing_0, DX3_standing_1, DX3_standing_2, DX3_standing_3, DX3_standing_4, DX3_standing_5, DX3_standing_6, DX3_standing_9, DX3_standing_12, DX3_standing_15, DX3_standing_16, DX3_standing_19, DX3_standing_20, DX3_standing_23, DX3_standing_26, DX3_standing_29, DX3_standing_32, DX3_standing_35, DX3_standing_38, DX3_standing_41, DX3_standing_42, ce_Jx4a65c_size_8abf5, ↓ct_Jx4a65c_size_8abf5, ycl_Jx4a65c_size_8abf5, ce_Jx4a65c_get_915e3, ↓ct_Jx4a65c_get_915e3, ycl_Jx4a65c_get_915e3, cX_nil mhh_X3_standing]
    simp (disch := omega) only [i32_lit, i32_neg, i32_add, i32_mul, i32_sub, i32_nI, i32_lt, i32_le, i32_eq, inR_i, i32_clamp, i32_div, i32_max, i32_min, ite_max, ite_min, b2i_0, b2i_1, b2i_01, i32_toInt, tn_i, Int.toNat_natCast, em_t, true_and, and_true, Int.reduceToNat, Int.reduceLE, Int.reduceLT, Int.reduceAdd, Int.reduceMul, Int.reduceSub, Int.reduceNeg, Int.reduceEq, true_implies, not_true_eq_false, false_implies, not_false_eq_true, kC, rC0, rC1, rC2, rC3, rC4, kQ, rQ0, rQ1, kV, lV, kG, lG, kP, lP, kT, lT, LB1, LB2, LB3, LH1, LH2, LH3, LL1, LL2, LL3, dDy, dEv, true_and, and_true, Option.some.injEq, exists_eq_left', nmOf_0, nmOf_1, nmOf_2, nmOf_3, nmOf_4, nmOf_5, nmOf_6, Nat.add_sub_cancel, Nat.reduceSub, Nat.reduceLT, Nat.reduceEqDiff, ne_eq, not_false_eq_true]
    exact ⟨fun _ => hq, fun z => by omega⟩
  | succ k ih =>
    intro n hn
    have hs := ih (n + 1) (by omega)
    simp only [sumN] at hs
    have hn' : n < S.nb := by omega
    have hA0 := hD.1
    have hB0 := hD.2
    obtain ⟨⟨kC, rC0, rC1, rC2, rC3, rC4⟩, ⟨kQ, rQ0, rQ1⟩, ⟨kV, lV⟩, ⟨kG, lG⟩, ⟨kP, lP⟩, ⟨kT, lT⟩, ⟨⟨LB1, LB2, LB3, LB4, LB5, LB6, LB7⟩, ⟨LH1, LH2, LH3, LH4, LH5, LH6, LH7⟩, ⟨LL1, LL2, LL3, LL4, LL5, LL6, LL7⟩⟩, hKB, hHA, hKL, hCJ⟩ := hA0
    obtain ⟨dDy, dEv, dG, dP, dV, dB, dL, dH⟩ := hB0
    have hnb := hW.1
    have hnl := hW.2.1
    have kB := hKB n hn'
    obtain ⟨eB0, eB1, eB2, eB3, eB4, eB5, eB6, eB7⟩ := dB n hn'
    have qB := LB7 n hn'
    obtain ⟨kqB, lqB⟩ := LB6 (by omega)
    obtain ⟨vB0, vB2, vB2', vB02, vB1, vB3, vB3', vB13, vB4, vB4', vB5, vB5', vB6⟩ := hW.2.2.1 n hn'
    refine wpW (cs := [(41, ce_Jx4a65c_size_8abf5), (45, ce_Jx4a65c_get_915e3)]) (stop := [4]) (n := 200) (env_cons (ceV (by decide +kernel) ⟨by decide, by decide, by decide +kernel⟩ (by decide) rfl (ok_Jx4a65c_size_8abf5 G)) (env_cons (ceV (by decide +kernel) ⟨by decide, by decide, by decide +kernel⟩ (by decide) rfl (ok_Jx4a65c_get_915e3 G)) (env_nil0 (env_hh rfl)))) ?_
    simp only [↓wpN_S, ↓step_u, ↓stC_s, stC_s, ↓stF_u, stF_u, ↓stepI, lenI, ↓kN_u, isS, ↓gI_0, ↓gI_S, ↓gL_0, ↓gL_S, ↓gD_0, ↓gD_S, ↓gR_0, ↓gR_S, ↓sI_c, ↓sL_c, ↓sD_c, ↓sR_c, ↓s1_r, ↓s1_i, ↓vR_r, ↓vR_n, ↓s0_n, s0_n, ↓oR_u, ↓sP_u, ↓sPa_0, ↓sPa_S, ↓lkC_c, ↓callK_u, ↓cQ_s, ↓cQ_n, putL, putW, clr, kil, catS, catN, refF, booF, finF, nF, nmOf_0, nmOf_1, nmOf_2, nmOf_3, nmOf_4, nmOf_5, nmOf_6, nmOf_50, nmOf_51, nmOf_52, ↓reduceIte, reduceIte, Bool.false_eq_true, eq_self, true_or, or_true, true_and, and_true, false_or, or_false, Nat.reduceAdd, Nat.reduceSub, Nat.reduceEqDiff, Nat.reduceLT, Nat.reduceLeDiff, reduceCtorEq, true_implies, List.length_cons, List.length_nil, List.replicate, List.cons_append, List.nil_append, mrt_X3_standing, mhh_X3_standing, mow_X3_standing, mnl_X3_standing, DX3_standing_0, DX3_standing_1, DX3_standing_2, DX3_standing_3, DX3_standing_4, DX3_standing_5, DX3_standing_6, DX3_standing_9, DX3_standing_12, DX3_standing_15, DX3_standing_16, DX3_standing_19, DX3_standing_20, DX3_standing_23, DX3_standing_26, DX3_standing_29, DX3_standing_32, DX3_standing_35, DX3_standing_38, DX3_standing_41, DX3_standing_42, ce_Jx4a65c_size_8abf5, ↓ct_Jx4a65c_size_8abf5, ycl_Jx4a65c_size_8abf5, ce_Jx4a65c_get_915e3, ↓ct_Jx4a65c_get_915e3, ycl_Jx4a65c_get_915e3, cX_nil mhh_X3_standing]
    simp (disch := omega) only [i32_lit, i32_neg, i32_add, i32_mul, i32_sub, i32_nI, i32_lt, i32_le, i32_eq, inR_i, i32_clamp, i32_div, i32_max, i32_min, ite_max, ite_min, b2i_0, b2i_1, b2i_01, i32_toInt, tn_i, Int.toNat_natCast, em_t, true_and, and_true, Int.reduceToNat, Int.reduceLE, Int.reduceLT, Int.reduceAdd, Int.reduceMul, Int.reduceSub, Int.reduceNeg, Int.reduceEq, true_implies, not_true_eq_false, false_implies, not_false_eq_true, kC, rC0, rC1, rC2, rC3, rC4, kQ, rQ0, rQ1, kV, lV, kG, lG, kP, lP, kT, lT, LB1, LB2, LB3, LH1, LH2, LH3, LL1, LL2, LL3, dDy, dEv, true_and, and_true, Option.some.injEq, exists_eq_left', nmOf_0, nmOf_1, nmOf_2, nmOf_3, nmOf_4, nmOf_5, nmOf_6, Nat.add_sub_cancel, Nat.reduceSub, Nat.reduceLT, Nat.reduceEqDiff, ne_eq, not_false_eq_true, kB, eB0, eB1, eB2, eB3, eB4, eB5, eB6, eB7, qB, kqB, lqB]
    rw [show (n : Int) + 1 = ((n + 1 : Nat) : Int) by omega]
    refine ⟨fun z => by omega, fun _ => ⟨by omega, by omega, by omega, fun z => ?_, fun z => ?_⟩⟩
    · rw [z, Int.add_zero] at hs; exact hs
    · rw [show S.bf n 6 = 1 by omega] at hs; exact hs
set_option maxRecDepth 100000 in
set_option maxHeartbeats 4000000 in
theorem ok_X3_standing (G : GT) (G : GT) (D : WD) (S : SS) (hW : WF S) : OKm G yX3_standing MX3_standing 3 0 0 (ct_X3_standing G D S) := by
  refine mkOK (ini := false) (by decide) rfl (by first | exact fun _ => rfl | (intro hh; cases hh)) (fun As h Q QX hc => ?_)
  replace hc := sR_e hc; obtain ⟨a, r, rfl, hc⟩ := hc
  replace hc := s0_e hc; obtain ⟨rfl, hc⟩ := hc
  obtain ⟨hD, rfl, hq⟩ := hc
  have hz := lp_X3_standing (Q := Q) (QX := QX) G hW hD hq S.nb 0 (Nat.zero_add _)
  refine ⟨Nat.le_of_ble_eq_true rfl, ?_⟩
  simp only [ent, entL, catN, List.length_cons, List.length_nil, List.replicate, List.cons_append, List.nil_append, reduceIte, Nat.reduceEqDiff,  Nat.reduceAdd, Nat.reduceSub, mnl_X3_standing]
  refine wpW (cs := [(41, ce_Jx4a65c_size_8abf5), (45, ce_Jx4a65c_get_915e3)]) (stop := [4]) (n := 200) (env_cons (ceV (by decide +kernel) ⟨by decide, by decide, by decide +kernel⟩ (by decide) rfl (ok_Jx4a65c_size_8abf5 G)) (env_cons (ceV (by decide +kernel) ⟨by decide, by decide, by decide +kernel⟩ (by decide) rfl (ok_Jx4a65c_get_915e3 G)) (env_nil0 (env_hh rfl)))) ?_
  simp only [↓wpN_S, ↓step_u, ↓stC_s, stC_s, ↓stF_u, stF_u, ↓stepI, lenI, ↓kN_u, isS, ↓gI_0, ↓gI_S, ↓gL_0, ↓gL_S, ↓gD_0, ↓gD_S, ↓gR_0, ↓gR_S, ↓sI_c, ↓sL_c, ↓sD_c, ↓sR_c, ↓s1_r, ↓s1_i, ↓vR_r, ↓vR_n, ↓s0_n, s0_n, ↓oR_u, ↓sP_u, ↓sPa_0, ↓sPa_S, ↓lkC_c, ↓callK_u, ↓cQ_s, ↓cQ_n, putL, putW, clr, kil, catS, catN, refF, booF, finF, nF, nmOf_0, nmOf_1, nmOf_2, nmOf_3, nmOf_4, nmOf_5, nmOf_6, nmOf_50, nmOf_51, nmOf_52, ↓reduceIte, reduceIte, Bool.false_eq_true, eq_self, true_or, or_true, true_and, and_true, false_or, or_false, Nat.reduceAdd, Nat.reduceSub, Nat.reduceEqDiff, Nat.reduceLT, Nat.reduceLeDiff, reduceCtorEq, true_implies, List.length_cons, List.length_nil, List.replicate, List.cons_append, List.nil_append, mrt_X3_standing, mhh_X3_standing, mow_X3_standing, mnl_X3_standing, DX3_standing_0, DX3_standing_1, DX3_standing_2, DX3_standing_3, DX3_standing_4, DX3_standing_5, DX3_standing_6, DX3_standing_9, DX3_standing_12, DX3_standing_15, DX3_standing_16, DX3_standing_19, DX3_standing_20, DX3_standing_23, DX3_standing_26, DX3_standing_29, DX3_standing_32, DX3_standing_35, DX3_standing_38, DX3_standing_41, DX3_standing_42, ce_Jx4a65c_size_8abf5, ↓ct_Jx4a65c_size_8abf5, ycl_Jx4a65c_size_8abf5, ce_Jx4a65c_get_915e3, ↓ct_Jx4a65c_get_915e3, ycl_Jx4a65c_get_915e3, cX_nil mhh_X3_standing]
  exact hz
def ccI (S : SS) (b : Nat) : Int := if S.bf b 6 = 1 then S.bf b 2 * S.bf b 3 else 0
def ct_X3_coveredCells (G : GT) (D : WD) (S : SS) : Ct := fun As h Q _ => sR As fun a r => s0 r (CD G h D S ∧ a = D 0 1 ∧ Q (some (.int (i32 (sumN (fun b => ccI S b) S.nb)))) h)
def ce_X3_coveredCells (G : GT) (D : WD) (S : SS) : CE := (0, yX3_coveredCells, MX3_coveredCells, 0, 3, 0, 0, ct_X3_coveredCells G D S)
set_option maxRecDepth 100000 in
set_option maxHeartbeats 4000000 in
theorem lp_X3_coveredCells (G : GT) {D : WD} {S : SS} (hW : WF S) {h : Hp} {Q : Option Value → Hp → Prop} {QX : String → Hp → Prop} (hD : CD G h D S) (hq : Q (some (.int (i32 (sumN (fun b => ccI S b) S.nb)))) h) :
    ∀ k n : Nat, n + k = S.nb → ∀ o3, Wp G MX3_coveredCells false 3 Q QX 4 [some (.ref (D 0 1)), some (.int (i32 (sumN (fun b => ccI S b) n))), some (.int (i32 n)), o3] [] h (0, 0) := by
  intro k
  induction k with
  | zero =>
    intro n hn o3
    have e : n = S.nb := by omega
    subst e
    have hA0 := hD.1
    have hB0 := hD.2
    obtain ⟨⟨kC, rC0, rC1, rC2, rC3, rC4⟩, ⟨kQ, rQ0, rQ1⟩, ⟨kV, lV⟩, ⟨kG, lG⟩, ⟨kP, lP⟩, ⟨kT, lT⟩, ⟨⟨LB1, LB2, LB3, LB4, LB5, LB6, LB7⟩, ⟨LH1, LH2, LH3, LH4, LH5, LH6, LH7⟩, ⟨LL1, LL2, LL3, LL4, LL5, LL6, LL7⟩⟩, hKB, hHA, hKL, hCJ⟩ := hA0
    obtain ⟨dDy, dEv, dG, dP, dV, dB, dL, dH⟩ := hB0
    have hnb := hW.1
    have hnl := hW.2.1
    refine wpW (cs := [(41, ce_Jx4a65c_size_8abf5), (45, ce_Jx4a65c_get_915e3)]) (stop := [4]) (n := 200) (env_cons (ceV (by decide +kernel) ⟨by decide, by decide, by decide +kernel⟩ (by decide) rfl (ok_Jx4a65c_size_8abf5 G)) (env_cons (ceV (by decide +kernel) ⟨by decide, by decide, by decide +kernel⟩ (by decide) rfl (ok_Jx4a65c_get_915e3 G)) (env_nil0 (env_hh rfl)))) ?_
    simp only [↓wpN_S, ↓step_u, ↓stC_s, stC_s, ↓stF_u, stF_u, ↓stepI, lenI, ↓kN_u, isS, ↓gI_0, ↓gI_S, ↓gL_0, ↓gL_S, ↓gD_0, ↓gD_S, ↓gR_0, ↓gR_S, ↓sI_c, ↓sL_c, ↓sD_c, ↓sR_c, ↓s1_r, ↓s1_i, ↓vR_r, ↓vR_n, ↓s0_n, s0_n, ↓oR_u, ↓sP_u, ↓sPa_0, ↓sPa_S, ↓lkC_c, ↓callK_u, ↓cQ_s, ↓cQ_n, putL, putW, clr, kil, catS, catN, refF, booF, finF, nF, nmOf_0, nmOf_1, nmOf_2, nmOf_3, nmOf_4, nmOf_5, nmOf_6, nmOf_50, nmOf_51, nmOf_52, ↓reduceIte, reduceIte, Bool.false_eq_true, eq_self, true_or, or_true, true_and, and_true, false_or, or_false, Nat.reduceAdd, Nat.reduceSub, Nat.reduceEqDiff, Nat.reduceLT, Nat.reduceLeDiff, reduceCtorEq, true_implies, List.length_cons, List.length_nil, List.replicate, List.cons_append, List.nil_append, mrt_X3_coveredCells, mhh_X3_coveredCells, mow_X3_coveredCells, mnl_X3_coveredCells, DX3_coveredCells_0, DX3_coveredCells_1, DX3_coveredCells_2, DX3_coveredCells_3, DX3_coveredCells_4, DX3_coveredCells_5, DX3_coveredCells_6, DX3_coveredCells_9, DX3_coveredCells_12, DX3_coveredCells_15, DX3_coveredCells_16, DX3_coveredCells_19, DX3_coveredCells_20, DX3_coveredCells_23, DX3_coveredCells_26, DX3_coveredCells_27, DX3_coveredCells_28, DX3_coveredCells_29, DX3_coveredCells_32, DX3_coveredCells_35, DX3_coveredCells_36, DX3_coveredCells_39, DX3_coveredCells_40, DX3_coveredCells_43, DX3_coveredCells_44, DX3_coveredCells_47, DX3_coveredCells_48, DX3_coveredCells_49, DX3_coveredCells_50, DX3_coveredCells_53, DX3_coveredCells_56, DX3_coveredCells_57, ce_Jx4a65c_size_8abf5, ↓ct_Jx4a65c_size_8abf5, ycl_Jx4a65c_size_8abf5, ce_Jx4a65c_get_915e3, ↓ct_Jx4a65c_get_915e3, ycl_Jx4a65c_get_915e3, cX_nil mhh_X3_coveredCells]
    simp (disch := omega) only [i32_lit, i32_neg, i32_add, i32_mul, i32_sub, i32_nI, i32_lt, i32_le, i32_eq, inR_i, i32_clamp, i32_div, i32_max, i32_min, ite_max, ite_min, b2i_0, b2i_1, b2i_01, i32_toInt, tn_i, Int.toNat_natCast, em_t, true_and, and_true, Int.reduceToNat, Int.reduceLE, Int.reduceLT, Int.reduceAdd, Int.reduceMul, Int.reduceSub, Int.reduceNeg, Int.reduceEq, true_implies, not_true_eq_false, false_implies, not_false_eq_true, kC, rC0, rC1, rC2, rC3, rC4, kQ, rQ0, rQ1, kV, lV, kG, lG, kP, lP, kT, lT, LB1, LB2, LB3, LH1, LH2, LH3, LL1, LL2, LL3, dDy, dEv, true_and, and_true, Option.some.injEq, exists_eq_left', nmOf_0, nmOf_1, nmOf_2, nmOf_3, nmOf_4, nmOf_5, nmOf_6, Nat.add_sub_cancel, Nat.reduceSub, Nat.reduceLT, Nat.reduceEqDiff, ne_eq, not_false_eq_true]
    exact ⟨fun _ => hq, fun z => by omega⟩
  | succ k ih =>
    intro n hn o3
    have hs := ih (n + 1) (by omega)
    simp only [sumN] at hs
    have hn' : n < S.nb := by omega
    have hA0 := hD.1
    have hB0 := hD.2
    obtain ⟨⟨kC, rC0, rC1, rC2, rC3, rC4⟩, ⟨kQ, rQ0, rQ1⟩, ⟨kV, lV⟩, ⟨kG, lG⟩, ⟨kP, lP⟩, ⟨kT, lT⟩, ⟨⟨LB1, LB2, LB3, LB4, LB5, LB6, LB7⟩, ⟨LH1, LH2, LH3, LH4, LH5, LH6, LH7⟩, ⟨LL1, LL2, LL3, LL4, LL5, LL6, LL7⟩⟩, hKB, hHA, hKL, hCJ⟩ := hA0
    obtain ⟨dDy, dEv, dG, dP, dV, dB, dL, dH⟩ := hB0
    have hnb := hW.1
    have hnl := hW.2.1
    have kB := hKB n hn'
    obtain ⟨eB0, eB1, eB2, eB3, eB4, eB5, eB6, eB7⟩ := dB n hn'
    have qB := LB7 n hn'
    obtain ⟨kqB, lqB⟩ := LB6 (by omega)
    obtain ⟨vB0, vB2, vB2', vB02, vB1, vB3, vB3', vB13, vB4, vB4', vB5, vB5', vB6⟩ := hW.2.2.1 n hn'
    refine wpW (cs := [(41, ce_Jx4a65c_size_8abf5), (45, ce_Jx4a65c_get_915e3)]) (stop := [4]) (n := 200) (env_cons (ceV (by decide +kernel) ⟨by decide, by decide, by decide +kernel⟩ (by decide) rfl (ok_Jx4a65c_size_8abf5 G)) (env_cons (ceV (by decide +kernel) ⟨by decide, by decide, by decide +kernel⟩ (by decide) rfl (ok_Jx4a65c_get_915e3 G)) (env_nil0 (env_hh rfl)))) ?_
    simp only [↓wpN_S, ↓step_u, ↓stC_s, stC_s, ↓stF_u, stF_u, ↓stepI, lenI, ↓kN_u, isS, ↓gI_0, ↓gI_S, ↓gL_0, ↓gL_S, ↓gD_0, ↓gD_S, ↓gR_0, ↓gR_S, ↓sI_c, ↓sL_c, ↓sD_c, ↓sR_c, ↓s1_r, ↓s1_i, ↓vR_r, ↓vR_n, ↓s0_n, s0_n, ↓oR_u, ↓sP_u, ↓sPa_0, ↓sPa_S, ↓lkC_c, ↓callK_u, ↓cQ_s, ↓cQ_n, putL, putW, clr, kil, catS, catN, refF, booF, finF, nF, nmOf_0, nmOf_1, nmOf_2, nmOf_3, nmOf_4, nmOf_5, nmOf_6, nmOf_50, nmOf_51, nmOf_52, ↓reduceIte, reduceIte, Bool.false_eq_true, eq_self, true_or, or_true, true_and, and_true, false_or, or_false, Nat.reduceAdd, Nat.reduceSub, Nat.reduceEqDiff, Nat.reduceLT, Nat.reduceLeDiff, reduceCtorEq, true_implies, List.length_cons, List.length_nil, List.replicate, List.cons_append, List.nil_append, mrt_X3_coveredCells, mhh_X3_coveredCells, mow_X3_coveredCells, mnl_X3_coveredCells, DX3_coveredCells_0, DX3_coveredCells_1, DX3_coveredCells_2, DX3_coveredCells_3, DX3_coveredCells_4, DX3_coveredCells_5, DX3_coveredCells_6, DX3_coveredCells_9, DX3_coveredCells_12, DX3_coveredCells_15, DX3_coveredCells_16, DX3_coveredCells_19, DX3_coveredCells_20, DX3_coveredCells_23, DX3_coveredCells_26, DX3_coveredCells_27, DX3_coveredCells_28, DX3_coveredCells_29, DX3_coveredCells_32, DX3_coveredCells_35, DX3_coveredCells_36, DX3_coveredCells_39, DX3_coveredCells_40, DX3_coveredCells_43, DX3_coveredCells_44, DX3_coveredCells_47, DX3_coveredCells_48, DX3_coveredCells_49, DX3_coveredCells_50, DX3_coveredCells_53, DX3_coveredCells_56, DX3_coveredCells_57, ce_Jx4a65c_size_8abf5, ↓ct_Jx4a65c_size_8abf5, ycl_Jx4a65c_size_8abf5, ce_Jx4a65c_get_915e3, ↓ct_Jx4a65c_get_915e3, ycl_Jx4a65c_get_915e3, cX_nil mhh_X3_coveredCells]
    simp (disch := omega) only [i32_lit, i32_neg, i32_add, i32_mul, i32_sub, i32_nI, i32_lt, i32_le, i32_eq, inR_i, i32_clamp, i32_div, i32_max, i32_min, ite_max, ite_min, b2i_0, b2i_1, b2i_01, i32_toInt, tn_i, Int.toNat_natCast, em_t, true_and, and_true, Int.reduceToNat, Int.reduceLE, Int.reduceLT, Int.reduceAdd, Int.reduceMul, Int.reduceSub, Int.reduceNeg, Int.reduceEq, true_implies, not_true_eq_false, false_implies, not_false_eq_true, kC, rC0, rC1, rC2, rC3, rC4, kQ, rQ0, rQ1, kV, lV, kG, lG, kP, lP, kT, lT, LB1, LB2, LB3, LH1, LH2, LH3, LL1, LL2, LL3, dDy, dEv, true_and, and_true, Option.some.injEq, exists_eq_left', nmOf_0, nmOf_1, nmOf_2, nmOf_3, nmOf_4, nmOf_5, nmOf_6, Nat.add_sub_cancel, Nat.reduceSub, Nat.reduceLT, Nat.reduceEqDiff, ne_eq, not_false_eq_true, kB, eB0, eB1, eB2, eB3, eB4, eB5, eB6, eB7, qB, kqB, lqB]
    rw [show (n : Int) + 1 = ((n + 1 : Nat) : Int) by omega]
    refine ⟨fun z => by omega, fun _ => ⟨by omega, by omega, by omega, fun z => ?_, fun z => ?_⟩⟩
    · rw [show ccI S n = 0 by unfold ccI; rw [if_neg (by omega)]] at hs; exact hs _
    · rw [show ccI S n = S.bf n 2 * S.bf n 3 by unfold ccI; rw [if_pos (by omega)]] at hs; exact hs _
set_option maxRecDepth 100000 in
set_option maxHeartbeats 4000000 in
theorem ok_X3_coveredCells (G : GT) (G : GT) (D : WD) (S : SS) (hW : WF S) : OKm G yX3_coveredCells MX3_coveredCells 3 0 0 (ct_X3_coveredCells G D S) := by
  refine mkOK (ini := false) (by decide) rfl (by first | exact fun _ => rfl | (intro hh; cases hh)) (fun As h Q QX hc => ?_)
  replace hc := sR_e hc; obtain ⟨a, r, rfl, hc⟩ := hc
  replace hc := s0_e hc; obtain ⟨rfl, hc⟩ := hc
  obtain ⟨hD, rfl, hq⟩ := hc
  have hz := lp_X3_coveredCells (Q := Q) (QX := QX) G hW hD hq S.nb 0 (Nat.zero_add _) none
  refine ⟨Nat.le_of_ble_eq_true rfl, ?_⟩
  simp only [ent, entL, catN, List.length_cons, List.length_nil, List.replicate, List.cons_append, List.nil_append, reduceIte, Nat.reduceEqDiff,  Nat.reduceAdd, Nat.reduceSub, mnl_X3_coveredCells]
  refine wpW (cs := [(41, ce_Jx4a65c_size_8abf5), (45, ce_Jx4a65c_get_915e3)]) (stop := [4]) (n := 200) (env_cons (ceV (by decide +kernel) ⟨by decide, by decide, by decide +kernel⟩ (by decide) rfl (ok_Jx4a65c_size_8abf5 G)) (env_cons (ceV (by decide +kernel) ⟨by decide, by decide, by decide +kernel⟩ (by decide) rfl (ok_Jx4a65c_get_915e3 G)) (env_nil0 (env_hh rfl)))) ?_
  simp only [↓wpN_S, ↓step_u, ↓stC_s, stC_s, ↓stF_u, stF_u, ↓stepI, lenI, ↓kN_u, isS, ↓gI_0, ↓gI_S, ↓gL_0, ↓gL_S, ↓gD_0, ↓gD_S, ↓gR_0, ↓gR_S, ↓sI_c, ↓sL_c, ↓sD_c, ↓sR_c, ↓s1_r, ↓s1_i, ↓vR_r, ↓vR_n, ↓s0_n, s0_n, ↓oR_u, ↓sP_u, ↓sPa_0, ↓sPa_S, ↓lkC_c, ↓callK_u, ↓cQ_s, ↓cQ_n, putL, putW, clr, kil, catS, catN, refF, booF, finF, nF, nmOf_0, nmOf_1, nmOf_2, nmOf_3, nmOf_4, nmOf_5, nmOf_6, nmOf_50, nmOf_51, nmOf_52, ↓reduceIte, reduceIte, Bool.false_eq_true, eq_self, true_or, or_true, true_and, and_true, false_or, or_false, Nat.reduceAdd, Nat.reduceSub, Nat.reduceEqDiff, Nat.reduceLT, Nat.reduceLeDiff, reduceCtorEq, true_implies, List.length_cons, List.length_nil, List.replicate, List.cons_append, List.nil_append, mrt_X3_coveredCells, mhh_X3_coveredCells, mow_X3_coveredCells, mnl_X3_coveredCells, DX3_coveredCells_0, DX3_coveredCells_1, DX3_coveredCells_2, DX3_coveredCells_3, DX3_coveredCells_4, DX3_coveredCells_5, DX3_coveredCells_6, DX3_coveredCells_9, DX3_coveredCells_12, DX3_coveredCells_15, DX3_coveredCells_16, DX3_coveredCells_19, DX3_coveredCells_20, DX3_coveredCells_23, DX3_coveredCells_26, DX3_coveredCells_27, DX3_coveredCells_28, DX3_coveredCells_29, DX3_coveredCells_32, DX3_coveredCells_35, DX3_coveredCells_36, DX3_coveredCells_39, DX3_coveredCells_40, DX3_coveredCells_43, DX3_coveredCells_44, DX3_coveredCells_47, DX3_coveredCells_48, DX3_coveredCells_49, DX3_coveredCells_50, DX3_coveredCells_53, DX3_coveredCells_56, DX3_coveredCells_57, ce_Jx4a65c_size_8abf5, ↓ct_Jx4a65c_size_8abf5, ycl_Jx4a65c_size_8abf5, ce_Jx4a65c_get_915e3, ↓ct_Jx4a65c_get_915e3, ycl_Jx4a65c_get_915e3, cX_nil mhh_X3_coveredCells]
  exact hz
def ct_X4_standingLeases (G : GT) (D : WD) (S : SS) : Ct := fun As h Q _ => sR As fun a r => s0 r (CD G h D S ∧ a = D 0 0 ∧ Q (some (.int (i32 (sumN (fun b => S.lf b 6) S.nl)))) h)
def ce_X4_standingLeases (G : GT) (D : WD) (S : SS) : CE := (0, yX4_standingLeases, MX4_standingLeases, 0, 3, 0, 0, ct_X4_standingLeases G D S)
set_option maxRecDepth 100000 in
set_option maxHeartbeats 4000000 in
theorem lp_X4_standingLeases (G : GT) {D : WD} {S : SS} (hW : WF S) {h : Hp} {Q : Option Value → Hp → Prop} {QX : String → Hp → Prop} (hD : CD G h D S) (hq : Q (some (.int (i32 (sumN (fun b => S.lf b 6) S.nl)))) h) :
    ∀ k n : Nat, n + k = S.nl → Wp G MX4_standingLeases false 3 Q QX 4 [some (.ref (D 0 0)), some (.int (i32 (sumN (fun b => S.lf b 6) n))), some (.int (i32 n))] [] h (0, 0) := by
  intro k
  induction k with
  | zero =>
    intro n hn
    have e : n = S.nl := by omega
    subst e
    have hA0 := hD.1
    have hB0 := hD.2
    obtain ⟨⟨kC, rC0, rC1, rC2, rC3, rC4⟩, ⟨kQ, rQ0, rQ1⟩, ⟨kV, lV⟩, ⟨kG, lG⟩, ⟨kP, lP⟩, ⟨kT, lT⟩, ⟨⟨LB1, LB2, LB3, LB4, LB5, LB6, LB7⟩, ⟨LH1, LH2, LH3, LH4, LH5, LH6, LH7⟩, ⟨LL1, LL2, LL3, LL4, LL5, LL6, LL7⟩⟩, hKB, hHA, hKL, hCJ⟩ := hA0
    obtain ⟨dDy, dEv, dG, dP, dV, dB, dL, dH⟩ := hB0
    have hnb := hW.1
    have hnl := hW.2.1
    refine wpW (cs := [(49, ce_Jx4a65c_size_8abf5), (84, ce_Jx4a65c_get_915e3)]) (stop := [4]) (n := 200) (env_cons (ceV (by decide +kernel) ⟨by decide, by decide, by decide +kernel⟩ (by decide) rfl (ok_Jx4a65c_size_8abf5 G)) (env_cons (ceV (by decide +kernel) ⟨by decide, by decide, by decide +kernel⟩ (by decide) rfl (ok_Jx4a65c_get_915e3 G)) (env_nil0 (env_hh rfl)))) ?_
    simp only [↓wpN_S, ↓step_u, ↓stC_s, stC_s, ↓stF_u, stF_u, ↓stepI, lenI, ↓kN_u, isS, ↓gI_0, ↓gI_S, ↓gL_0, ↓gL_S, ↓gD_0, ↓gD_S, ↓gR_0, ↓gR_S, ↓sI_c, ↓sL_c, ↓sD_c, ↓sR_c, ↓s1_r, ↓s1_i, ↓vR_r, ↓vR_n, ↓s0_n, s0_n, ↓oR_u, ↓sP_u, ↓sPa_0, ↓sPa_S, ↓lkC_c, ↓callK_u, ↓cQ_s, ↓cQ_n, putL, putW, clr, kil, catS, catN, refF, booF, finF, nF, nmOf_0, nmOf_1, nmOf_2, nmOf_3, nmOf_4, nmOf_5, nmOf_6, nmOf_50, nmOf_51, nmOf_52, ↓reduceIte, reduceIte, Bool.false_eq_true, eq_self, true_or, or_true, true_and, and_true, false_or, or_false, Nat.reduceAdd, Nat.reduceSub, Nat.reduceEqDiff, Nat.reduceLT, Nat.reduceLeDiff, reduceCtorEq, true_implies, List.length_cons, List.length_nil, List.replicate, List.cons_append, List.nil_append, mrt_X4_standingLeases, mhh_X4_standingLeases, mow_X4_standingLeases, mnl_X4_standingLeases, DX4_standingLeases_0, DX4_standingLeases_1, DX4_standingLeases_2, DX4_standingLeases_3, DX4_standingLeases_4, DX4_standingLeases_5, DX4_standingLeases_6, DX4_standingLeases_9, DX4_standingLeases_12, DX4_standingLeases_15, DX4_standingLeases_16, DX4_standingLeases_19, DX4_standingLeases_20, DX4_standingLeases_23, DX4_standingLeases_26, DX4_standingLeases_29, DX4_standingLeases_32, DX4_standingLeases_35, DX4_standingLeases_38, DX4_standingLeases_41, DX4_standingLeases_42, ce_Jx4a65c_size_8abf5, ↓ct_Jx4a65c_size_8abf5, ycl_Jx4a65c_size_8abf5, ce_Jx4a65c_get_915e3, ↓ct_Jx4a65c_get_915e3, ycl_Jx4a65c_get_915e3, cX_nil mhh_X4_standingLeases]
    simp (disch := omega) only [i32_lit, i32_neg, i32_add, i32_mul, i32_sub, i32_nI, i32_lt, i32_le, i32_eq, inR_i, i32_clamp, i32_div, i32_max, i32_min, ite_max, ite_min, b2i_0, b2i_1, b2i_01, i32_toInt, tn_i, Int.toNat_natCast, em_t, true_and, and_true, Int.reduceToNat, Int.reduceLE, Int.reduceLT, Int.reduceAdd, Int.reduceMul, Int.reduceSub, Int.reduceNeg, Int.reduceEq, true_implies, not_true_eq_false, false_implies, not_false_eq_true, kC, rC0, rC1, rC2, rC3, rC4, kQ, rQ0, rQ1, kV, lV, kG, lG, kP, lP, kT, lT, LB1, LB2, LB3, LH1, LH2, LH3, LL1, LL2, LL3, dDy, dEv, true_and, and_true, Option.some.injEq, exists_eq_left', nmOf_0, nmOf_1, nmOf_2, nmOf_3, nmOf_4, nmOf_5, nmOf_6, Nat.add_sub_cancel, Nat.reduceSub, Nat.reduceLT, Nat.reduceEqDiff, ne_eq, not_false_eq_true]
    exact ⟨fun _ => hq, fun z => by omega⟩
  | succ k ih =>
    intro n hn
    have hs := ih (n + 1) (by omega)
    simp only [sumN] at hs
    have hn' : n < S.nl := by omega
    have hA0 := hD.1
    have hB0 := hD.2
    obtain ⟨⟨kC, rC0, rC1, rC2, rC3, rC4⟩, ⟨kQ, rQ0, rQ1⟩, ⟨kV, lV⟩, ⟨kG, lG⟩, ⟨kP, lP⟩, ⟨kT, lT⟩, ⟨⟨LB1, LB2, LB3, LB4, LB5, LB6, LB7⟩, ⟨LH1, LH2, LH3, LH4, LH5, LH6, LH7⟩, ⟨LL1, LL2, LL3, LL4, LL5, LL6, LL7⟩⟩, hKB, hHA, hKL, hCJ⟩ := hA0
    obtain ⟨dDy, dEv, dG, dP, dV, dB, dL, dH⟩ := hB0
    have hnb := hW.1
    have hnl := hW.2.1
    have kL := hKL n hn'
    obtain ⟨eL0, eL1, eL2, eL3, eL4, eL5, eL6, eL7, eL8, eL9⟩ := dL n hn'
    have qL := LL7 n hn'
    obtain ⟨kqL, lqL⟩ := LL6 (by omega)
    obtain ⟨vL0, vL0', vL1, vL1', vL2, vL2', vL3, vL4, vL4', vL5, vL5', vL6, vL7, vL7'⟩ := hW.2.2.2.1 n hn'
    refine wpW (cs := [(49, ce_Jx4a65c_size_8abf5), (84, ce_Jx4a65c_get_915e3)]) (stop := [4]) (n := 200) (env_cons (ceV (by decide +kernel) ⟨by decide, by decide, by decide +kernel⟩ (by decide) rfl (ok_Jx4a65c_size_8abf5 G)) (env_cons (ceV (by decide +kernel) ⟨by decide, by decide, by decide +kernel⟩ (by decide) rfl (ok_Jx4a65c_get_915e3 G)) (env_nil0 (env_hh rfl)))) ?_
    simp only [↓wpN_S, ↓step_u, ↓stC_s, stC_s, ↓stF_u, stF_u, ↓stepI, lenI, ↓kN_u, isS, ↓gI_0, ↓gI_S, ↓gL_0, ↓gL_S, ↓gD_0, ↓gD_S, ↓gR_0, ↓gR_S, ↓sI_c, ↓sL_c, ↓sD_c, ↓sR_c, ↓s1_r, ↓s1_i, ↓vR_r, ↓vR_n, ↓s0_n, s0_n, ↓oR_u, ↓sP_u, ↓sPa_0, ↓sPa_S, ↓lkC_c, ↓callK_u, ↓cQ_s, ↓cQ_n, putL, putW, clr, kil, catS, catN, refF, booF, finF, nF, nmOf_0, nmOf_1, nmOf_2, nmOf_3, nmOf_4, nmOf_5, nmOf_6, nmOf_50, nmOf_51, nmOf_52, ↓reduceIte, reduceIte, Bool.false_eq_true, eq_self, true_or, or_true, true_and, and_true, false_or, or_false, Nat.reduceAdd, Nat.reduceSub, Nat.reduceEqDiff, Nat.reduceLT, Nat.reduceLeDiff, reduceCtorEq, true_implies, List.length_cons, List.length_nil, List.replicate, List.cons_append, List.nil_append, mrt_X4_standingLeases, mhh_X4_standingLeases, mow_X4_standingLeases, mnl_X4_standingLeases, DX4_standingLeases_0, DX4_standingLeases_1, DX4_standingLeases_2, DX4_standingLeases_3, DX4_standingLeases_4, DX4_standingLeases_5, DX4_standingLeases_6, DX4_standingLeases_9, DX4_standingLeases_12, DX4_standingLeases_15, DX4_standingLeases_16, DX4_standingLeases_19, DX4_standingLeases_20, DX4_standingLeases_23, DX4_standingLeases_26, DX4_standingLeases_29, DX4_standingLeases_32, DX4_standingLeases_35, DX4_standingLeases_38, DX4_standingLeases_41, DX4_standingLeases_42, ce_Jx4a65c_size_8abf5, ↓ct_Jx4a65c_size_8abf5, ycl_Jx4a65c_size_8abf5, ce_Jx4a65c_get_915e3, ↓ct_Jx4a65c_get_915e3, ycl_Jx4a65c_get_915e3, cX_nil mhh_X4_standingLeases]
    simp (disch := omega) only [i32_lit, i32_neg, i32_add, i32_mul, i32_sub, i32_nI, i32_lt, i32_le, i32_eq, inR_i, i32_clamp, i32_div, i32_max, i32_min, ite_max, ite_min, b2i_0, b2i_1, b2i_01, i32_toInt, tn_i, Int.toNat_natCast, em_t, true_and, and_true, Int.reduceToNat, Int.reduceLE, Int.reduceLT, Int.reduceAdd, Int.reduceMul, Int.reduceSub, Int.reduceNeg, Int.reduceEq, true_implies, not_true_eq_false, false_implies, not_false_eq_true, kC, rC0, rC1, rC2, rC3, rC4, kQ, rQ0, rQ1, kV, lV, kG, lG, kP, lP, kT, lT, LB1, LB2, LB3, LH1, LH2, LH3, LL1, LL2, LL3, dDy, dEv, true_and, and_true, Option.some.injEq, exists_eq_left', nmOf_0, nmOf_1, nmOf_2, nmOf_3, nmOf_4, nmOf_5, nmOf_6, Nat.add_sub_cancel, Nat.reduceSub, Nat.reduceLT, Nat.reduceEqDiff, ne_eq, not_false_eq_true, kL, eL0, eL1, eL2, eL3, eL4, eL5, eL6, eL7, eL8, eL9, qL, kqL, lqL]
    rw [show (n : Int) + 1 = ((n + 1 : Nat) : Int) by omega]
    refine ⟨fun z => by omega, fun _ => ⟨by omega, by omega, by omega, fun z => ?_, fun z => ?_⟩⟩
    · rw [z, Int.add_zero] at hs; exact hs
    · rw [show S.lf n 6 = 1 by omega] at hs; exact hs
set_option maxRecDepth 100000 in
set_option maxHeartbeats 4000000 in
theorem ok_X4_standingLeases (G : GT) (G : GT) (D : WD) (S : SS) (hW : WF S) : OKm G yX4_standingLeases MX4_standingLeases 3 0 0 (ct_X4_standingLeases G D S) := by
  refine mkOK (ini := false) (by decide) rfl (by first | exact fun _ => rfl | (intro hh; cases hh)) (fun As h Q QX hc => ?_)
  replace hc := sR_e hc; obtain ⟨a, r, rfl, hc⟩ := hc
  replace hc := s0_e hc; obtain ⟨rfl, hc⟩ := hc
  obtain ⟨hD, rfl, hq⟩ := hc
  have hz := lp_X4_standingLeases (Q := Q) (QX := QX) G hW hD hq S.nl 0 (Nat.zero_add _)
  refine ⟨Nat.le_of_ble_eq_true rfl, ?_⟩
  simp only [ent, entL, catN, List.length_cons, List.length_nil, List.replicate, List.cons_append, List.nil_append, reduceIte, Nat.reduceEqDiff,  Nat.reduceAdd, Nat.reduceSub, mnl_X4_standingLeases]
  refine wpW (cs := [(49, ce_Jx4a65c_size_8abf5), (84, ce_Jx4a65c_get_915e3)]) (stop := [4]) (n := 200) (env_cons (ceV (by decide +kernel) ⟨by decide, by decide, by decide +kernel⟩ (by decide) rfl (ok_Jx4a65c_size_8abf5 G)) (env_cons (ceV (by decide +kernel) ⟨by decide, by decide, by decide +kernel⟩ (by decide) rfl (ok_Jx4a65c_get_915e3 G)) (env_nil0 (env_hh rfl)))) ?_
  simp only [↓wpN_S, ↓step_u, ↓stC_s, stC_s, ↓stF_u, stF_u, ↓stepI, lenI, ↓kN_u, isS, ↓gI_0, ↓gI_S, ↓gL_0, ↓gL_S, ↓gD_0, ↓gD_S, ↓gR_0, ↓gR_S, ↓sI_c, ↓sL_c, ↓sD_c, ↓sR_c, ↓s1_r, ↓s1_i, ↓vR_r, ↓vR_n, ↓s0_n, s0_n, ↓oR_u, ↓sP_u, ↓sPa_0, ↓sPa_S, ↓lkC_c, ↓callK_u, ↓cQ_s, ↓cQ_n, putL, putW, clr, kil, catS, catN, refF, booF, finF, nF, nmOf_0, nmOf_1, nmOf_2, nmOf_3, nmOf_4, nmOf_5, nmOf_6, nmOf_50, nmOf_51, nmOf_52, ↓reduceIte, reduceIte, Bool.false_eq_true, eq_self, true_or, or_true, true_and, and_true, false_or, or_false, Nat.reduceAdd, Nat.reduceSub, Nat.reduceEqDiff, Nat.reduceLT, Nat.reduceLeDiff, reduceCtorEq, true_implies, List.length_cons, List.length_nil, List.replicate, List.cons_append, List.nil_append, mrt_X4_standingLeases, mhh_X4_standingLeases, mow_X4_standingLeases, mnl_X4_standingLeases, DX4_standingLeases_0, DX4_standingLeases_1, DX4_standingLeases_2, DX4_standingLeases_3, DX4_standingLeases_4, DX4_standingLeases_5, DX4_standingLeases_6, DX4_standingLeases_9, DX4_standingLeases_12, DX4_standingLeases_15, DX4_standingLeases_16, DX4_standingLeases_19, DX4_standingLeases_20, DX4_standingLeases_23, DX4_standingLeases_26, DX4_standingLeases_29, DX4_standingLeases_32, DX4_standingLeases_35, DX4_standingLeases_38, DX4_standingLeases_41, DX4_standingLeases_42, ce_Jx4a65c_size_8abf5, ↓ct_Jx4a65c_size_8abf5, ycl_Jx4a65c_size_8abf5, ce_Jx4a65c_get_915e3, ↓ct_Jx4a65c_get_915e3, ycl_Jx4a65c_get_915e3, cX_nil mhh_X4_standingLeases]
  exact hz

