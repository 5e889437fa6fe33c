/-! ===== the class: askedBefore, allot, cellOfShade ===== -/
def ct_X1_askedBefore (G : GT) (D : WD) (S : SS) : Ct := fun As h Q _ => sR As fun a r => sR r fun b r => sR r fun c r => s0 r (CD G h D S ∧ c = D 0 5 ∧ ∃ r l, r < 12 ∧ l < S.nl ∧ a = D 2 r ∧ b = D 3 l ∧ Q (some (.int (i32 (wnt S (S.lf l 0) r (S.lf l 5) l)))) h)
def ce_X1_askedBefore (G : GT) (D : WD) (S : SS) : CE := (0, yX1_askedBefore, MX1_askedBefore, 2, 3, 0, 0, ct_X1_askedBefore G D S)
set_option maxRecDepth 100000 in
set_option maxHeartbeats 4000000 in
theorem lp_X1_askedBefore (G : GT) {D : WD} {S : SS} (hW : WF S) {h : Hp} {r l : Nat} {Q : Option Value → Hp → Prop} {QX : String → Hp → Prop} (hr : r < 12) (hl : l < S.nl) (hD : CD G h D S) (hq : Q (some (.int (i32 (wnt S (S.lf l 0) r (S.lf l 5) l)))) h) :
    ∀ k n : Nat, n + k = S.nl → ∀ o5, Wp G MX1_askedBefore false 3 Q QX 5 [some (.ref (D 2 r)), some (.ref (D 3 l)), some (.ref (D 0 5)), some (.int (i32 (sumN (fun i => if S.lf i 0 = S.lf l 0 ∧ hasH S i r = true ∧ (S.lf i 5 > S.lf l 5 ∨ S.lf i 5 = S.lf l 5 ∧ (i : Int) < l) then S.lf i 4 else 0) n))), some (.int (i32 n)), o5] [] h (0, 0) := by
  have hD0 := hD
  intro k
  induction k with
  | zero =>
    intro n hn o5
    have e : n = S.nl := by omega
    subst e
    unfold wnt at hq
    have hA0 := hD.1
    have hB0 := hD.2
    obtain ⟨⟨kC, rC0, rC1, rC2, rC3, rC4⟩, ⟨kQ, rQ0, rQ1⟩, ⟨kV, lV⟩, ⟨kG, lG⟩, ⟨kP, lP⟩, ⟨kT, lT⟩, ⟨⟨LB1, LB2, LB3, LB4, LB5, LB6, LB7⟩, ⟨LH1, LH2, LH3, LH4, LH5, LH6, LH7⟩, ⟨LL1, LL2, LL3, LL4, LL5, LL6, LL7⟩⟩, hKB, hHA, hKL, hCJ⟩ := hA0
    obtain ⟨dDy, dEv, dG, dP, dV, dB, dL, dH⟩ := hB0
    have hnb := hW.1
    have hnl := hW.2.1
    refine wpW (cs := [(88, ce_Jx4a65c_size_8abf5), (94, ce_Jx4a65c_get_915e3), (59, ce_X2_asksIn G D S), (153, ce_X2_comesBefore G D S)]) (stop := [5]) (n := 200) (env_cons (ceV (by decide +kernel) ⟨by decide, by decide, by decide +kernel⟩ (by decide) rfl (ok_Jx4a65c_size_8abf5 G)) (env_cons (ceV (by decide +kernel) ⟨by decide, by decide, by decide +kernel⟩ (by decide) rfl (ok_Jx4a65c_get_915e3 G)) (env_cons (ceV (by decide +kernel) ⟨by decide, by decide, by decide +kernel⟩ (by decide) rfl (ok_X2_asksIn G G D S hW)) (env_cons (ceV (by decide +kernel) ⟨by decide, by decide, by decide +kernel⟩ (by decide) rfl (ok_X2_comesBefore G G D S hW)) (env_nil0 (env_hh rfl)))))) ?_
    simp only [↓wpN_S, ↓step_u, ↓stC_s, stC_s, ↓stF_u, stF_u, ↓stepI, lenI, ↓kN_u, isS, ↓gI_0, ↓gI_S, ↓gL_0, ↓gL_S, ↓gD_0, ↓gD_S, ↓gR_0, ↓gR_S, ↓sI_c, ↓sL_c, ↓sD_c, ↓sR_c, ↓s1_r, ↓s1_i, ↓vR_r, ↓vR_n, ↓s0_n, s0_n, ↓oR_u, ↓sP_u, ↓sPa_0, ↓sPa_S, ↓lkC_c, ↓callK_u, ↓cQ_s, ↓cQ_n, putL, putW, clr, kil, catS, catN, refF, booF, finF, nF, nmOf_0, nmOf_1, nmOf_2, nmOf_3, nmOf_4, nmOf_5, nmOf_6, nmOf_50, nmOf_51, nmOf_52, ↓reduceIte, reduceIte, Bool.false_eq_true, eq_self, true_or, or_true, true_and, and_true, false_or, or_false, Nat.reduceAdd, Nat.reduceSub, Nat.reduceEqDiff, Nat.reduceLT, Nat.reduceLeDiff, reduceCtorEq, true_implies, List.length_cons, List.length_nil, List.replicate, List.cons_append, List.nil_append, mrt_X1_askedBefore, mhh_X1_askedBefore, mow_X1_askedBefore, mnl_X1_askedBefore, DX1_askedBefore_0, DX1_askedBefore_1, DX1_askedBefore_2, DX1_askedBefore_3, DX1_askedBefore_5, DX1_askedBefore_7, DX1_askedBefore_8, DX1_askedBefore_11, DX1_askedBefore_14, DX1_askedBefore_15, DX1_askedBefore_17, DX1_askedBefore_20, DX1_askedBefore_23, DX1_askedBefore_25, DX1_askedBefore_27, DX1_askedBefore_30, DX1_askedBefore_31, DX1_askedBefore_34, DX1_askedBefore_37, DX1_askedBefore_39, DX1_askedBefore_40, DX1_askedBefore_43, DX1_askedBefore_46, DX1_askedBefore_49, DX1_askedBefore_51, DX1_askedBefore_52, DX1_askedBefore_55, DX1_askedBefore_58, DX1_askedBefore_59, DX1_askedBefore_61, DX1_askedBefore_64, DX1_askedBefore_65, DX1_askedBefore_66, DX1_askedBefore_69, DX1_askedBefore_72, DX1_askedBefore_73, ce_Jx4a65c_size_8abf5, ↓ct_Jx4a65c_size_8abf5, ycl_Jx4a65c_size_8abf5, ce_Jx4a65c_get_915e3, ↓ct_Jx4a65c_get_915e3, ycl_Jx4a65c_get_915e3, ce_X2_asksIn, ↓ct_X2_asksIn, ycl_X2_asksIn, ce_X2_comesBefore, ↓ct_X2_comesBefore, ycl_X2_comesBefore, cX_nil mhh_X1_askedBefore]
    simp (disch := omega) only [i32_lit, i32_neg, i32_add, i32_mul, i32_sub, i32_nI, i32_lt, i32_le, i32_eq, inR_i, i32_clamp, i32_div, i32_max, i32_min, ite_max, ite_min, b2i_0, b2i_1, b2i_01, i32_toInt, tn_i, Int.toNat_natCast, em_t, true_and, and_true, Int.reduceToNat, Int.reduceLE, Int.reduceLT, Int.reduceAdd, Int.reduceMul, Int.reduceSub, Int.reduceNeg, Int.reduceEq, true_implies, not_true_eq_false, false_implies, not_false_eq_true, kC, rC0, rC1, rC2, rC3, rC4, kQ, rQ0, rQ1, kV, lV, kG, lG, kP, lP, kT, lT, LB1, LB2, LB3, LH1, LH2, LH3, LL1, LL2, LL3, dDy, dEv, true_and, and_true, Option.some.injEq, exists_eq_left', nmOf_0, nmOf_1, nmOf_2, nmOf_3, nmOf_4, nmOf_5, nmOf_6, Nat.add_sub_cancel, Nat.reduceSub, Nat.reduceLT, Nat.reduceEqDiff, ne_eq, not_false_eq_true]
    exact ⟨fun _ => hq, fun z => by omega⟩
  | succ k ih =>
    intro n hn o5
    have hs := ih (n + 1) (by omega)
    simp only [sumN] at hs
    have hn' : n < S.nl := by omega
    have hb := wnt_b hW (S.lf l 0) r (S.lf l 5) l n (by omega)
    have hA0 := hD.1
    have hB0 := hD.2
    obtain ⟨⟨kC, rC0, rC1, rC2, rC3, rC4⟩, ⟨kQ, rQ0, rQ1⟩, ⟨kV, lV⟩, ⟨kG, lG⟩, ⟨kP, lP⟩, ⟨kT, lT⟩, ⟨⟨LB1, LB2, LB3, LB4, LB5, LB6, LB7⟩, ⟨LH1, LH2, LH3, LH4, LH5, LH6, LH7⟩, ⟨LL1, LL2, LL3, LL4, LL5, LL6, LL7⟩⟩, hKB, hHA, hKL, hCJ⟩ := hA0
    obtain ⟨dDy, dEv, dG, dP, dV, dB, dL, dH⟩ := hB0
    have hnb := hW.1
    have hnl := hW.2.1
    obtain ⟨kH, ⟨rH5, rH6, rH7, rH8, rH12⟩, ⟨kH4, lH4⟩, ⟨kH5, lH5⟩, ⟨kH6, lH6⟩, ⟨kH7, lH7⟩⟩ := hHA r hr
    obtain ⟨eH0, eH1, eH2, eH3⟩ := dH r hr
    have qH := LH7 r hr
    obtain ⟨kqH, lqH⟩ := LH6 (by omega)
    obtain ⟨vH0, vH0', vH1, vH1', -, vH2, vH2'⟩ := hW.2.2.2.2.1 r hr
    obtain ⟨f0, f1, f2, f3, f4, f5, f6, f7, f8, f9⟩ := dL l hl
    have kL' := hKL l hl
    have w := hW.2.2.2.1 l hl
    have kL := hKL n hn'
    obtain ⟨eL0, eL1, eL2, eL3, eL4, eL5, eL6, eL7, eL8, eL9⟩ := dL n hn'
    have qL := LL7 n hn'
    obtain ⟨kqL, lqL⟩ := LL6 (by omega)
    obtain ⟨vL0, vL0', vL1, vL1', vL2, vL2', vL3, vL4, vL4', vL5, vL5', vL6, vL7, vL7'⟩ := hW.2.2.2.1 n hn'
    refine wpW (cs := [(88, ce_Jx4a65c_size_8abf5), (94, ce_Jx4a65c_get_915e3), (59, ce_X2_asksIn G D S), (153, ce_X2_comesBefore G D S)]) (stop := [5]) (n := 200) (env_cons (ceV (by decide +kernel) ⟨by decide, by decide, by decide +kernel⟩ (by decide) rfl (ok_Jx4a65c_size_8abf5 G)) (env_cons (ceV (by decide +kernel) ⟨by decide, by decide, by decide +kernel⟩ (by decide) rfl (ok_Jx4a65c_get_915e3 G)) (env_cons (ceV (by decide +kernel) ⟨by decide, by decide, by decide +kernel⟩ (by decide) rfl (ok_X2_asksIn G G D S hW)) (env_cons (ceV (by decide +kernel) ⟨by decide, by decide, by decide +kernel⟩ (by decide) rfl (ok_X2_comesBefore G G D S hW)) (env_nil0 (env_hh rfl)))))) ?_
    simp only [↓wpN_S, ↓step_u, ↓stC_s, stC_s, ↓stF_u, stF_u, ↓stepI, lenI, ↓kN_u, isS, ↓gI_0, ↓gI_S, ↓gL_0, ↓gL_S, ↓gD_0, ↓gD_S, ↓gR_0, ↓gR_S, ↓sI_c, ↓sL_c, ↓sD_c, ↓sR_c, ↓s1_r, ↓s1_i, ↓vR_r, ↓vR_n, ↓s0_n, s0_n, ↓oR_u, ↓sP_u, ↓sPa_0, ↓sPa_S, ↓lkC_c, ↓callK_u, ↓cQ_s, ↓cQ_n, putL, putW, clr, kil, catS, catN, refF, booF, finF, nF, nmOf_0, nmOf_1, nmOf_2, nmOf_3, nmOf_4, nmOf_5, nmOf_6, nmOf_50, nmOf_51, nmOf_52, ↓reduceIte, reduceIte, Bool.false_eq_true, eq_self, true_or, or_true, true_and, and_true, false_or, or_false, Nat.reduceAdd, Nat.reduceSub, Nat.reduceEqDiff, Nat.reduceLT, Nat.reduceLeDiff, reduceCtorEq, true_implies, List.length_cons, List.length_nil, List.replicate, List.cons_append, List.nil_append, mrt_X1_askedBefore, mhh_X1_askedBefore, mow_X1_askedBefore, mnl_X1_askedBefore, DX1_askedBefore_0, DX1_askedBefore_1, DX1_askedBefore_2, DX1_askedBefore_3, DX1_askedBefore_5, DX1_askedBefore_7, DX1_askedBefore_8, DX1_askedBefore_11, DX1_askedBefore_14, DX1_askedBefore_15, DX1_askedBefore_17, DX1_askedBefore_20, DX1_askedBefore_23, DX1_askedBefore_25, DX1_askedBefore_27, DX1_askedBefore_30, DX1_askedBefore_31, DX1_askedBefore_34, DX1_askedBefore_37, DX1_askedBefore_39, DX1_askedBefore_40, DX1_askedBefore_43, DX1_askedBefore_46, DX1_askedBefore_49, DX1_askedBefore_51, DX1_askedBefore_52, DX1_askedBefore_55, DX1_askedBefore_58, DX1_askedBefore_59, DX1_askedBefore_61, DX1_askedBefore_64, DX1_askedBefore_65, DX1_askedBefore_66, DX1_askedBefore_69, DX1_askedBefore_72, DX1_askedBefore_73, ce_Jx4a65c_size_8abf5, ↓ct_Jx4a65c_size_8abf5, ycl_Jx4a65c_size_8abf5, ce_Jx4a65c_get_915e3, ↓ct_Jx4a65c_get_915e3, ycl_Jx4a65c_get_915e3, ce_X2_asksIn, ↓ct_X2_asksIn, ycl_X2_asksIn, ce_X2_comesBefore, ↓ct_X2_comesBefore, ycl_X2_comesBefore, cX_nil mhh_X1_askedBefore]
    simp (disch := omega) only [i32_lit, i32_neg, i32_add, i32_mul, i32_sub, i32_nI, i32_lt, i32_le, i32_eq, inR_i, i32_clamp, i32_div, i32_max, i32_min, ite_max, ite_min, b2i_0, b2i_1, b2i_01, i32_toInt, tn_i, Int.toNat_natCast, em_t, true_and, and_true, Int.reduceToNat, Int.reduceLE, Int.reduceLT, Int.reduceAdd, Int.reduceMul, Int.reduceSub, Int.reduceNeg, Int.reduceEq, true_implies, not_true_eq_false, false_implies, not_false_eq_true, kC, rC0, rC1, rC2, rC3, rC4, kQ, rQ0, rQ1, kV, lV, kG, lG, kP, lP, kT, lT, LB1, LB2, LB3, LH1, LH2, LH3, LL1, LL2, LL3, dDy, dEv, true_and, and_true, Option.some.injEq, exists_eq_left', nmOf_0, nmOf_1, nmOf_2, nmOf_3, nmOf_4, nmOf_5, nmOf_6, Nat.add_sub_cancel, Nat.reduceSub, Nat.reduceLT, Nat.reduceEqDiff, ne_eq, not_false_eq_true, kH, rH5, rH6, rH7, rH8, rH12, kH4, lH4, kH5, lH5, kH6, lH6, kH7, lH7, eH0, eH1, eH2, eH3, qH, kqH, lqH, kL, eL0, eL1, eL2, eL3, eL4, eL5, eL6, eL7, eL8, eL9, qL, kqL, lqL, f1, kL', hD0]
    trace_state
    done
