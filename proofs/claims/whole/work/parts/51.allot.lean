/-! ===== the class: askedBefore, allot, cellOfShade ===== -/
def ct_X1_askedBefore (G : GT) (D : WD) (S : SS) : Ct := fun As h Q _ => sR As fun a r => sR r fun b r => sR r fun c r => s0 r (CD G h D S ∧ c = D 0 5 ∧ ∃ r l, r < 12 ∧ l < S.nl ∧ a = D 2 r ∧ b = D 3 l ∧ Q (some (.int (i32 (wnt S (S.lf l 0) r (S.lf l 5) l)))) h)
def ce_X1_askedBefore (G : GT) (D : WD) (S : SS) : CE := (0, yX1_askedBefore, MX1_askedBefore, 2, 3, 0, 0, ct_X1_askedBefore G D S)
set_option maxRecDepth 100000 in
set_option maxHeartbeats 4000000 in
theorem lp_X1_askedBefore (G : GT) {D : WD} {S : SS} (hW : WF S) {h : Hp} {r l : Nat} {Q : Option Value → Hp → Prop} {QX : String → Hp → Prop} (hr : r < 12) (hl : l < S.nl) (hD : CD G h D S) (hq : Q (some (.int (i32 (wnt S (S.lf l 0) r (S.lf l 5) l)))) h) :
    ∀ k n : Nat, n + k = S.nl → ∀ o5, Wp G MX1_askedBefore false 3 Q QX 5 [some (.ref (D 2 r)), some (.ref (D 3 l)), some (.ref (D 0 5)), some (.int (i32 (sumN (fun i => if S.lf i 0 = S.lf l 0 ∧ hasH S i r = true ∧ (S.lf i 5 > S.lf l 5 ∨ S.lf i 5 = S.lf l 5 ∧ (i : Int) < l) then S.lf i 4 else 0) n))), some (.int (i32 n)), o5] [] h (0, 0) := by
  have hD0 := hD
  intro k
  induction k with
  | zero =>
    intro n hn o5
    have e : n = S.nl := by omega
    subst e
    unfold wnt at hq
    have hA0 := hD.1
    have hB0 := hD.2
    obtain ⟨⟨kC, rC0, rC1, rC2, rC3, rC4⟩, ⟨kQ, rQ0, rQ1⟩, ⟨kV, lV⟩, ⟨kG, lG⟩, ⟨kP, lP⟩, ⟨kT, lT⟩, ⟨⟨LB1, LB2, LB3, LB4, LB5, LB6, LB7⟩, ⟨LH1, LH2, LH3, LH4, LH5, LH6, LH7⟩, ⟨LL1, LL2, LL3, LL4, LL5, LL6, LL7⟩⟩, hKB, hHA, hKL, hCJ⟩ := hA0
    obtain ⟨dDy, dEv, dG, dP, dV, dB, dL, dH⟩ := hB0
    have hnb := hW.1
    have hnl := hW.2.1
    refine wpW (cs := [(88, ce_Jx4a65c_size_8abf5), (94, ce_Jx4a65c_get_915e3), (59, ce_X2_asksIn G D S), (153, ce_X2_comesBefore G D S)]) (stop := [5]) (n := 200) (env_cons (ceV (by decide +kernel) ⟨by decide, by decide, by decide +kernel⟩ (by decide) rfl (ok_Jx4a65c_size_8abf5 G)) (env_cons (ceV (by decide +kernel) ⟨by decide, by decide, by decide +kernel⟩ (by decide) rfl (ok_Jx4a65c_get_915e3 G)) (env_cons (ceV (by decide +kernel) ⟨by decide, by decide, by decide +kernel⟩ (by decide) rfl (ok_X2_asksIn G G D S hW)) (env_cons (ceV (by decide +kernel) ⟨by decide, by decide, by decide +kernel⟩ (by decide) rfl (ok_X2_comesBefore G G D S hW)) (env_nil0 (env_hh rfl)))))) ?_
    simp only [↓wpN_S, ↓step_u, ↓stC_s, stC_s, ↓stF_u, stF_u, ↓stepI, lenI, ↓kN_u, isS, ↓gI_0, ↓gI_S, ↓gL_0, ↓gL_S, ↓gD_0, ↓gD_S, ↓gR_0, ↓gR_S, ↓sI_c, ↓sL_c, ↓sD_c, ↓sR_c, ↓s1_r, ↓s1_i, ↓vR_r, ↓vR_n, ↓s0_n, s0_n, ↓oR_u, ↓sP_u, ↓sPa_0, ↓sPa_S, ↓lkC_c, ↓callK_u, ↓cQ_s, ↓cQ_n, putL, putW, clr, kil, catS, catN, refF, booF, finF, nF, nmOf_0, nmOf_1, nmOf_2, nmOf_3, nmOf_4, nmOf_5, nmOf_6, nmOf_50, nmOf_51, nmOf_52, ↓reduceIte, reduceIte, Bool.false_eq_true, eq_self, true_or, or_true, true_and, and_true, false_or, or_false, Nat.reduceAdd, Nat.reduceSub, Nat.reduceEqDiff, Nat.reduceLT, Nat.reduceLeDiff, reduceCtorEq, true_implies, List.length_cons, List.length_nil, List.replicate, List.cons_append, List.nil_append, mrt_X1_askedBefore, mhh_X1_askedBefore, mow_X1_askedBefore, mnl_X1_askedBefore, DX1_askedBefore_0, DX1_askedBefore_1, DX1_askedBefore_2, DX1_askedBefore_3, DX1_askedBefore_5, DX1_askedBefore_7, DX1_askedBefore_8, DX1_askedBefore_11, DX1_askedBefore_14, DX1_askedBefore_15, DX1_askedBefore_17, DX1_askedBefore_20, DX1_askedBefore_23, DX1_askedBefore_25, DX1_askedBefore_27, DX1_askedBefore_30, DX1_askedBefore_31, DX1_askedBefore_34, DX1_askedBefore_37, DX1_askedBefore_39, DX1_askedBefore_40, DX1_askedBefore_43, DX1_askedBefore_46, DX1_askedBefore_49, DX1_askedBefore_51, DX1_askedBefore_52, DX1_askedBefore_55, DX1_askedBefore_58, DX1_askedBefore_59, DX1_askedBefore_61, DX1_askedBefore_64, DX1_askedBefore_65, DX1_askedBefore_66, DX1_askedBefore_69, DX1_askedBefore_72, DX1_askedBefore_73, ce_Jx4a65c_size_8abf5, ↓ct_Jx4a65c_size_8abf5, ycl_Jx4a65c_size_8abf5, ce_Jx4a65c_get_915e3, ↓ct_Jx4a65c_get_915e3, ycl_Jx4a65c_get_915e3, ce_X2_asksIn, ↓ct_X2_asksIn, ycl_X2_asksIn, ce_X2_comesBefore, ↓ct_X2_comesBefore, ycl_X2_comesBefore, cX_nil mhh_X1_askedBefore]
    simp (disch := omega) only [i32_lit, i32_neg, i32_add, i32_mul, i32_sub, i32_nI, i32_lt, i32_le, i32_eq, inR_i, i32_clamp, i32_div, i32_max, i32_min, ite_max, ite_min, b2i_0, b2i_1, b2i_01, i32_toInt, tn_i, Int.toNat_natCast, em_t, true_and, and_true, Int.reduceToNat, Int.reduceLE, Int.reduceLT, Int.reduceAdd, Int.reduceMul, Int.reduceSub, Int.reduceNeg, Int.reduceEq, true_implies, not_true_eq_false, false_implies, not_false_eq_true, kC, rC0, rC1, rC2, rC3, rC4, kQ, rQ0, rQ1, kV, lV, kG, lG, kP, lP, kT, lT, LB1, LB2, LB3, LH1, LH2, LH3, LL1, LL2, LL3, dDy, dEv, true_and, and_true, Option.some.injEq, exists_eq_left', nmOf_0, nmOf_1, nmOf_2, nmOf_3, nmOf_4, nmOf_5, nmOf_6, Nat.add_sub_cancel, Nat.reduceSub, Nat.reduceLT, Nat.reduceEqDiff, ne_eq, not_false_eq_true]
    exact ⟨fun _ => hq, fun z => by omega⟩
  | succ k ih =>
    intro n hn o5
    have hs := ih (n + 1) (by omega)
    simp only [sumN] at hs
    have hn' : n < S.nl := by omega
    have hb := wnt_b hW (S.lf l 0) r (S.lf l 5) l n (by omega)
    have hA0 := hD.1
    have hB0 := hD.2
    obtain ⟨⟨kC, rC0, rC1, rC2, rC3, rC4⟩, ⟨kQ, rQ0, rQ1⟩, ⟨kV, lV⟩, ⟨kG, lG⟩, ⟨kP, lP⟩, ⟨kT, lT⟩, ⟨⟨LB1, LB2, LB3, LB4, LB5, LB6, LB7⟩, ⟨LH1, LH2, LH3, LH4, LH5, LH6, LH7⟩, ⟨LL1, LL2, LL3, LL4, LL5, LL6, LL7⟩⟩, hKB, hHA, hKL, hCJ⟩ := hA0
    obtain ⟨dDy, dEv, dG, dP, dV, dB, dL, dH⟩ := hB0
    have hnb := hW.1
    have hnl := hW.2.1
    obtain ⟨kH, ⟨rH5, rH6, rH7, rH8, rH12⟩, ⟨kH4, lH4⟩, ⟨kH5, lH5⟩, ⟨kH6, lH6⟩, ⟨kH7, lH7⟩⟩ := hHA r hr
    obtain ⟨eH0, eH1, eH2, eH3⟩ := dH r hr
    have qH := LH7 r hr
    obtain ⟨kqH, lqH⟩ := LH6 (by omega)
    obtain ⟨vH0, vH0', vH1, vH1', -, vH2, vH2'⟩ := hW.2.2.2.2.1 r hr
    obtain ⟨f0, f1, f2, f3, f4, f5, f6, f7, f8, f9⟩ := dL l hl
    have kL' := hKL l hl
    have w := hW.2.2.2.1 l hl
    have kL := hKL n hn'
    obtain ⟨eL0, eL1, eL2, eL3, eL4, eL5, eL6, eL7, eL8, eL9⟩ := dL n hn'
    have qL := LL7 n hn'
    obtain ⟨kqL, lqL⟩ := LL6 (by omega)
    obtain ⟨vL0, vL0', vL1, vL1', vL2, vL2', vL3, vL4, vL4', vL5, vL5', vL6, vL7, vL7'⟩ := hW.2.2.2.1 n hn'
    refine wpW (cs := [(88, ce_Jx4a65c_size_8abf5), (94, ce_Jx4a65c_get_915e3), (59, ce_X2_asksIn G D S), (153, ce_X2_comesBefore G D S)]) (stop := [5]) (n := 200) (env_cons (ceV (by decide +kernel) ⟨by decide, by decide, by decide +kernel⟩ (by decide) rfl (ok_Jx4a65c_size_8abf5 G)) (env_cons (ceV (by decide +kernel) ⟨by decide, by decide, by decide +kernel⟩ (by decide) rfl (ok_Jx4a65c_get_915e3 G)) (env_cons (ceV (by decide +kernel) ⟨by decide, by decide, by decide +kernel⟩ (by decide) rfl (ok_X2_asksIn G G D S hW)) (env_cons (ceV (by decide +kernel) ⟨by decide, by decide, by decide +kernel⟩ (by decide) rfl (ok_X2_comesBefore G G D S hW)) (env_nil0 (env_hh rfl)))))) ?_
    simp only [↓wpN_S, ↓step_u, ↓stC_s, stC_s, ↓stF_u, stF_u, ↓stepI, lenI, ↓kN_u, isS, ↓gI_0, ↓gI_S, ↓gL_0, ↓gL_S, ↓gD_0, ↓gD_S, ↓gR_0, ↓gR_S, ↓sI_c, ↓sL_c, ↓sD_c, ↓sR_c, ↓s1_r, ↓s1_i, ↓vR_r, ↓vR_n, ↓s0_n, s0_n, ↓oR_u, ↓sP_u, ↓sPa_0, ↓sPa_S, ↓lkC_c, ↓callK_u, ↓cQ_s, ↓cQ_n, putL, putW, clr, kil, catS, catN, refF, booF, finF, nF, nmOf_0, nmOf_1, nmOf_2, nmOf_3, nmOf_4, nmOf_5, nmOf_6, nmOf_50, nmOf_51, nmOf_52, ↓reduceIte, reduceIte, Bool.false_eq_true, eq_self, true_or, or_true, true_and, and_true, false_or, or_false, Nat.reduceAdd, Nat.reduceSub, Nat.reduceEqDiff, Nat.reduceLT, Nat.reduceLeDiff, reduceCtorEq, true_implies, List.length_cons, List.length_nil, List.replicate, List.cons_append, List.nil_append, mrt_X1_askedBefore, mhh_X1_askedBefore, mow_X1_askedBefore, mnl_X1_askedBefore, DX1_askedBefore_0, DX1_askedBefore_1, DX1_askedBefore_2, DX1_askedBefore_3, DX1_askedBefore_5, DX1_askedBefore_7, DX1_askedBefore_8, DX1_askedBefore_11, DX1_askedBefore_14, DX1_askedBefore_15, DX1_askedBefore_17, DX1_askedBefore_20, DX1_askedBefore_23, DX1_askedBefore_25, DX1_askedBefore_27, DX1_askedBefore_30, DX1_askedBefore_31, DX1_askedBefore_34, DX1_askedBefore_37, DX1_askedBefore_39, DX1_askedBefore_40, DX1_askedBefore_43, DX1_askedBefore_46, DX1_askedBefore_49, DX1_askedBefore_51, DX1_askedBefore_52, DX1_askedBefore_55, DX1_askedBefore_58, DX1_askedBefore_59, DX1_askedBefore_61, DX1_askedBefore_64, DX1_askedBefore_65, DX1_askedBefore_66, DX1_askedBefore_69, DX1_askedBefore_72, DX1_askedBefore_73, ce_Jx4a65c_size_8abf5, ↓ct_Jx4a65c_size_8abf5, ycl_Jx4a65c_size_8abf5, ce_Jx4a65c_get_915e3, ↓ct_Jx4a65c_get_915e3, ycl_Jx4a65c_get_915e3, ce_X2_asksIn, ↓ct_X2_asksIn, ycl_X2_asksIn, ce_X2_comesBefore, ↓ct_X2_comesBefore, ycl_X2_comesBefore, cX_nil mhh_X1_askedBefore]
    simp (disch := omega) only [i32_lit, i32_neg, i32_add, i32_mul, i32_sub, i32_nI, i32_lt, i32_le, i32_eq, inR_i, i32_clamp, i32_div, i32_max, i32_min, ite_max, ite_min, b2i_0, b2i_1, b2i_01, i32_toInt, tn_i, Int.toNat_natCast, em_t, true_and, and_true, Int.reduceToNat, Int.reduceLE, Int.reduceLT, Int.reduceAdd, Int.reduceMul, Int.reduceSub, Int.reduceNeg, Int.reduceEq, true_implies, not_true_eq_false, false_implies, not_false_eq_true, kC, rC0, rC1, rC2, rC3, rC4, kQ, rQ0, rQ1, kV, lV, kG, lG, kP, lP, kT, lT, LB1, LB2, LB3, LH1, LH2, LH3, LL1, LL2, LL3, dDy, dEv, true_and, and_true, Option.some.injEq, exists_eq_left', nmOf_0, nmOf_1, nmOf_2, nmOf_3, nmOf_4, nmOf_5, nmOf_6, Nat.add_sub_cancel, Nat.reduceSub, Nat.reduceLT, Nat.reduceEqDiff, ne_eq, not_false_eq_true, kH, rH5, rH6, rH7, rH8, rH12, kH4, lH4, kH5, lH5, kH6, lH6, kH7, lH7, eH0, eH1, eH2, eH3, qH, kqH, lqH, kL, eL0, eL1, eL2, eL3, eL4, eL5, eL6, eL7, eL8, eL9, qL, kqL, lqL, f1, kL', hD0]
    rw [show (n : Int) + 1 = ((n + 1 : Nat) : Int) by omega]
    have hno : ¬ (S.lf n 0 = S.lf l 0 ∧ hasH S n r = true ∧ (S.lf n 5 > S.lf l 5 ∨ S.lf n 5 = S.lf l 5 ∧ (n : Int) < l)) → ∀ o5, Wp G MX1_askedBefore false 3 Q QX 5 [some (.ref (D 2 r)), some (.ref (D 3 l)), some (.ref (D 0 5)), some (.int (i32 (sumN (fun i => if S.lf i 0 = S.lf l 0 ∧ hasH S i r = true ∧ (S.lf i 5 > S.lf l 5 ∨ S.lf i 5 = S.lf l 5 ∧ (i : Int) < l) then S.lf i 4 else 0) n))), some (.int (i32 ((n + 1 : Nat) : Int))), o5] [] h (0, 0) := fun q => by
      rw [if_neg q, Int.add_zero] at hs
      exact hs
    refine ⟨fun z => by omega, fun _ => ⟨by omega, by omega, by omega, fun z => hno (fun q => z q.1) _, fun z1 => ⟨by omega, n, hn', rfl, fun z => hno (fun q => z q.2.1) _, fun z2 => ⟨n, l, hn', hl, rfl, rfl, fun z => hno (fun q => z (by have := q.2.2; unfold cbf; omega)) _, fun z => ?_⟩⟩⟩⟩
    have z3 := Classical.not_not.mp z
    unfold cbf at z3
    rw [if_pos ⟨z1, Classical.not_not.mp z2, by omega⟩] at hs
    exact hs _
set_option maxRecDepth 100000 in
set_option maxHeartbeats 4000000 in
theorem ok_X1_askedBefore (G : GT) (G : GT) (D : WD) (S : SS) (hW : WF S) : OKm G yX1_askedBefore MX1_askedBefore 3 0 0 (ct_X1_askedBefore G D S) := by
  refine mkOK (ini := false) (by decide) rfl (by first | exact fun _ => rfl | (intro hh; cases hh)) (fun As h Q QX hc => ?_)
  replace hc := sR_e hc; obtain ⟨a, r, rfl, hc⟩ := hc
  replace hc := sR_e hc; obtain ⟨b, r, rfl, hc⟩ := hc
  replace hc := sR_e hc; obtain ⟨c, r, rfl, hc⟩ := hc
  replace hc := s0_e hc; obtain ⟨rfl, hc⟩ := hc
  obtain ⟨hD, rfl, r, l, hr, hl, rfl, rfl, hq⟩ := hc
  have hr5 := lp_X1_askedBefore (Q := Q) (QX := QX) G hW hr hl hD hq S.nl 0 (Nat.zero_add _) none
  refine ⟨Nat.le_of_ble_eq_true rfl, ?_⟩
  simp only [ent, entL, catN, List.length_cons, List.length_nil, List.replicate, List.cons_append, List.nil_append, reduceIte, Nat.reduceEqDiff,  Nat.reduceAdd, Nat.reduceSub, mnl_X1_askedBefore]
  refine wpW (cs := [(88, ce_Jx4a65c_size_8abf5), (94, ce_Jx4a65c_get_915e3), (59, ce_X2_asksIn G D S), (153, ce_X2_comesBefore G D S)]) (stop := [5]) (n := 200) (env_cons (ceV (by decide +kernel) ⟨by decide, by decide, by decide +kernel⟩ (by decide) rfl (ok_Jx4a65c_size_8abf5 G)) (env_cons (ceV (by decide +kernel) ⟨by decide, by decide, by decide +kernel⟩ (by decide) rfl (ok_Jx4a65c_get_915e3 G)) (env_cons (ceV (by decide +kernel) ⟨by decide, by decide, by decide +kernel⟩ (by decide) rfl (ok_X2_asksIn G G D S hW)) (env_cons (ceV (by decide +kernel) ⟨by decide, by decide, by decide +kernel⟩ (by decide) rfl (ok_X2_comesBefore G G D S hW)) (env_nil0 (env_hh rfl)))))) ?_
  simp only [↓wpN_S, ↓step_u, ↓stC_s, stC_s, ↓stF_u, stF_u, ↓stepI, lenI, ↓kN_u, isS, ↓gI_0, ↓gI_S, ↓gL_0, ↓gL_S, ↓gD_0, ↓gD_S, ↓gR_0, ↓gR_S, ↓sI_c, ↓sL_c, ↓sD_c, ↓sR_c, ↓s1_r, ↓s1_i, ↓vR_r, ↓vR_n, ↓s0_n, s0_n, ↓oR_u, ↓sP_u, ↓sPa_0, ↓sPa_S, ↓lkC_c, ↓callK_u, ↓cQ_s, ↓cQ_n, putL, putW, clr, kil, catS, catN, refF, booF, finF, nF, nmOf_0, nmOf_1, nmOf_2, nmOf_3, nmOf_4, nmOf_5, nmOf_6, nmOf_50, nmOf_51, nmOf_52, ↓reduceIte, reduceIte, Bool.false_eq_true, eq_self, true_or, or_true, true_and, and_true, false_or, or_false, Nat.reduceAdd, Nat.reduceSub, Nat.reduceEqDiff, Nat.reduceLT, Nat.reduceLeDiff, reduceCtorEq, true_implies, List.length_cons, List.length_nil, List.replicate, List.cons_append, List.nil_append, mrt_X1_askedBefore, mhh_X1_askedBefore, mow_X1_askedBefore, mnl_X1_askedBefore, DX1_askedBefore_0, DX1_askedBefore_1, DX1_askedBefore_2, DX1_askedBefore_3, DX1_askedBefore_5, DX1_askedBefore_7, DX1_askedBefore_8, DX1_askedBefore_11, DX1_askedBefore_14, DX1_askedBefore_15, DX1_askedBefore_17, DX1_askedBefore_20, DX1_askedBefore_23, DX1_askedBefore_25, DX1_askedBefore_27, DX1_askedBefore_30, DX1_askedBefore_31, DX1_askedBefore_34, DX1_askedBefore_37, DX1_askedBefore_39, DX1_askedBefore_40, DX1_askedBefore_43, DX1_askedBefore_46, DX1_askedBefore_49, DX1_askedBefore_51, DX1_askedBefore_52, DX1_askedBefore_55, DX1_askedBefore_58, DX1_askedBefore_59, DX1_askedBefore_61, DX1_askedBefore_64, DX1_askedBefore_65, DX1_askedBefore_66, DX1_askedBefore_69, DX1_askedBefore_72, DX1_askedBefore_73, ce_Jx4a65c_size_8abf5, ↓ct_Jx4a65c_size_8abf5, ycl_Jx4a65c_size_8abf5, ce_Jx4a65c_get_915e3, ↓ct_Jx4a65c_get_915e3, ycl_Jx4a65c_get_915e3, ce_X2_asksIn, ↓ct_X2_asksIn, ycl_X2_asksIn, ce_X2_comesBefore, ↓ct_X2_comesBefore, ycl_X2_comesBefore, cX_nil mhh_X1_askedBefore]
  exact hr5
/-! allot -/
def ct_X1_allot (G : GT) (D : WD) (S : SS) : Ct := fun As h Q _ => sR As fun a r => sR r fun c r => s0 r (CD G h D S ∧ c = D 0 5 ∧ ∃ r, r < 12 ∧ a = D 2 r ∧ HM h D S r ∧ ∀ h', FH h h' D r → (∀ k, k ≠ 11 → k ≠ 13 → k ≠ 14 → fi h' 2 k (D 2 r) = fi h 2 k (D 2 r)) → fi h' 2 11 (D 2 r) = i32 1 → HM h' D S r → HL h' D S r → Q none h')
def ce_X1_allot (G : GT) (D : WD) (S : SS) : CE := (0, yX1_allot, MX1_allot, 1, 4, 0, 0, ct_X1_allot G D S)
theorem HM.st {h h' : Hp} {D : WD} {S : SS} {r : Nat} (hM : HM h D S r) (h4 : ∀ i, ia h' (D 4 r) i = ia h (D 4 r) i) (h5 : ∀ i, ia h' (D 5 r) i = ia h (D 5 r) i) (h6 : ∀ i, ia h' (D 6 r) i = ia h (D 6 r) i) (h9 : fi h' 2 9 (D 2 r) = fi h 2 9 (D 2 r)) (h10 : fi h' 2 10 (D 2 r) = fi h 2 10 (D 2 r)) : HM h' D S r := by
  obtain ⟨m1, m2, m3, m4⟩ := hM
  exact ⟨fun k hk => ⟨(h4 k).trans (m1 k hk).1, (h5 k).trans (m1 k hk).2⟩, fun b hb => (h6 b).trans (m2 b hb), h9.trans m3, h10.trans m4⟩
theorem gts_c {S : SS} {l r : Nat} (h1 : 1 ≤ S.lf l 4) (h : hasH S l r = true) : gts S l r = max 0 (min (S.lf l 4) (area S (S.lf l 0) r - wnt S (S.lf l 0) r (S.lf l 5) l)) := by
  unfold gts free
  rw [if_pos h]
  omega
set_option maxRecDepth 100000 in
set_option maxHeartbeats 4000000 in
theorem lp_X1_allot (G : GT) {D : WD} {S : SS} (hW : WF S) {h0 : Hp} {r : Nat} {Q : Option Value → Hp → Prop} {QX : String → Hp → Prop} (hr : r < 12) (hq : ∀ h', FH h0 h' D r → (∀ k, k ≠ 11 → k ≠ 13 → k ≠ 14 → fi h' 2 k (D 2 r) = fi h0 2 k (D 2 r)) → fi h' 2 11 (D 2 r) = i32 1 → HM h' D S r → HL h' D S r → Q none h') :
    ∀ k n : Nat, n + k = S.nl → ∀ h, FH h0 h D r → (∀ k, k ≠ 11 → k ≠ 13 → k ≠ 14 → fi h 2 k (D 2 r) = fi h0 2 k (D 2 r)) → CD G h D S → HM h D S r → (∀ l, l < n → ia h (D 7 r) l = i32 (gts S l r)) → fi h 2 13 (D 2 r) = i32 (sumN (fun l => gts S l r) n) → fi h 2 14 (D 2 r) = i32 (sumN (fun l => if isSh S l r = true then 1 else 0) n) → ∀ o3 o4, Wp G MX1_allot false 4 Q QX 12 [some (.ref (D 2 r)), some (.ref (D 0 5)), some (.int (i32 n)), o3, o4] [] h (0, 0) := by
  intro k
  induction k with
  | zero =>
    intro n hn h f f2 hD hM h7 h13 h14 o3 o4
    have e : n = S.nl := by omega
    subst e
    have hz := hq (setI h 2 11 (D 2 r) (i32 1)) (f.tr (FH.sI (by omega))) (fun k z1 z2 z3 => by rw [fi_setI, if_neg (by omega)]; exact f2 k z1 z2 z3) (by rw [fi_setI, if_pos ⟨rfl, rfl, rfl⟩]) (hM.st (fun _ => rfl) (fun _ => rfl) (fun _ => rfl) (by rw [fi_setI, if_neg (by omega)]) (by rw [fi_setI, if_neg (by omega)])) ⟨h7, by rw [fi_setI, if_neg (by omega)]; exact h13, by rw [fi_setI, if_neg (by omega)]; exact h14⟩
    have hA0 := hD.1
    have hB0 := hD.2
    obtain ⟨⟨kC, rC0, rC1, rC2, rC3, rC4⟩, ⟨kQ, rQ0, rQ1⟩, ⟨kV, lV⟩, ⟨kG, lG⟩, ⟨kP, lP⟩, ⟨kT, lT⟩, ⟨⟨LB1, LB2, LB3, LB4, LB5, LB6, LB7⟩, ⟨LH1, LH2, LH3, LH4, LH5, LH6, LH7⟩, ⟨LL1, LL2, LL3, LL4, LL5, LL6, LL7⟩⟩, hKB, hHA, hKL, hCJ⟩ := hA0
    obtain ⟨dDy, dEv, dG, dP, dV, dB, dL, dH⟩ := hB0
    have hnb := hW.1
    have hnl := hW.2.1
    obtain ⟨kH, ⟨rH5, rH6, rH7, rH8, rH12⟩, ⟨kH4, lH4⟩, ⟨kH5, lH5⟩, ⟨kH6, lH6⟩, ⟨kH7, lH7⟩⟩ := hHA r hr
    obtain ⟨eH0, eH1, eH2, eH3⟩ := dH r hr
    have qH := LH7 r hr
    obtain ⟨kqH, lqH⟩ := LH6 (by omega)
    obtain ⟨vH0, vH0', vH1, vH1', -, vH2, vH2'⟩ := hW.2.2.2.2.1 r hr
    refine wpW (cs := [(88, ce_Jx4a65c_size_8abf5), (94, ce_Jx4a65c_get_915e3), (59, ce_X2_asksIn G D S), (137, ce_X1_areaOf G D S), (140, ce_X1_askedBefore G D S), (144, ce_min), (150, ce_max)]) (stop := [12]) (n := 200) (env_cons (ceV (by decide +kernel) ⟨by decide, by decide, by decide +kernel⟩ (by decide) rfl (ok_Jx4a65c_size_8abf5 G)) (env_cons (ceV (by decide +kernel) ⟨by decide, by decide, by decide +kernel⟩ (by decide) rfl (ok_Jx4a65c_get_915e3 G)) (env_cons (ceV (by decide +kernel) ⟨by decide, by decide, by decide +kernel⟩ (by decide) rfl (ok_X2_asksIn G G D S hW)) (env_cons (ceV (by decide +kernel) ⟨by decide, by decide, by decide +kernel⟩ (by decide) rfl (ok_X1_areaOf G G D S hW)) (env_cons (ceV (by decide +kernel) ⟨by decide, by decide, by decide +kernel⟩ (by decide) rfl (ok_X1_askedBefore G G D S hW)) (env_cons (ce_minOK (by decide +kernel)) (env_cons (ce_maxOK (by decide +kernel)) (env_nil0 (env_hh rfl))))))))) ?_
    simp only [↓wpN_S, ↓step_u, ↓stC_s, stC_s, ↓stF_u, stF_u, ↓stepI, lenI, ↓kN_u, isS, ↓gI_0, ↓gI_S, ↓gL_0, ↓gL_S, ↓gD_0, ↓gD_S, ↓gR_0, ↓gR_S, ↓sI_c, ↓sL_c, ↓sD_c, ↓sR_c, ↓s1_r, ↓s1_i, ↓vR_r, ↓vR_n, ↓s0_n, s0_n, ↓oR_u, ↓sP_u, ↓sPa_0, ↓sPa_S, ↓lkC_c, ↓callK_u, ↓cQ_s, ↓cQ_n, putL, putW, clr, kil, catS, catN, refF, booF, finF, nF, nmOf_0, nmOf_1, nmOf_2, nmOf_3, nmOf_4, nmOf_5, nmOf_6, nmOf_50, nmOf_51, nmOf_52, ↓reduceIte, reduceIte, Bool.false_eq_true, eq_self, true_or, or_true, true_and, and_true, false_or, or_false, Nat.reduceAdd, Nat.reduceSub, Nat.reduceEqDiff, Nat.reduceLT, Nat.reduceLeDiff, reduceCtorEq, true_implies, List.length_cons, List.length_nil, List.replicate, List.cons_append, List.nil_append, mrt_X1_allot, mhh_X1_allot, mow_X1_allot, mnl_X1_allot, DX1_allot_0, DX1_allot_1, DX1_allot_2, DX1_allot_5, DX1_allot_6, DX1_allot_7, DX1_allot_10, DX1_allot_11, DX1_allot_12, DX1_allot_13, DX1_allot_14, DX1_allot_17, DX1_allot_20, DX1_allot_21, DX1_allot_22, DX1_allot_25, DX1_allot_26, DX1_allot_29, DX1_allot_30, DX1_allot_31, DX1_allot_34, DX1_allot_37, DX1_allot_38, DX1_allot_39, DX1_allot_42, DX1_allot_43, DX1_allot_44, DX1_allot_45, DX1_allot_46, DX1_allot_47, DX1_allot_50, DX1_allot_53, DX1_allot_56, DX1_allot_57, DX1_allot_58, DX1_allot_61, DX1_allot_64, DX1_allot_65, DX1_allot_66, DX1_allot_67, DX1_allot_70, DX1_allot_71, DX1_allot_73, DX1_allot_74, DX1_allot_77, DX1_allot_78, DX1_allot_79, DX1_allot_80, DX1_allot_83, DX1_allot_85, DX1_allot_88, DX1_allot_91, DX1_allot_92, DX1_allot_93, DX1_allot_94, DX1_allot_97, DX1_allot_98, DX1_allot_101, DX1_allot_102, DX1_allot_103, DX1_allot_104, DX1_allot_107, DX1_allot_110, DX1_allot_111, DX1_allot_114, DX1_allot_115, DX1_allot_116, DX1_allot_119, DX1_allot_120, DX1_allot_121, DX1_allot_124, DX1_allot_125, DX1_allot_128, DX1_allot_129, DX1_allot_130, DX1_allot_131, DX1_allot_134, DX1_allot_137, DX1_allot_140, DX1_allot_141, DX1_allot_142, DX1_allot_145, ce_Jx4a65c_size_8abf5, ↓ct_Jx4a65c_size_8abf5, ycl_Jx4a65c_size_8abf5, ce_Jx4a65c_get_915e3, ↓ct_Jx4a65c_get_915e3, ycl_Jx4a65c_get_915e3, ce_X2_asksIn, ↓ct_X2_asksIn, ycl_X2_asksIn, ce_X1_areaOf, ↓ct_X1_areaOf, ycl_X1_areaOf, ce_X1_askedBefore, ↓ct_X1_askedBefore, ycl_X1_askedBefore, ce_min, ce_max, cX_nil mhh_X1_allot]
    simp (disch := omega) only [i32_lit, i32_neg, i32_add, i32_mul, i32_sub, i32_nI, i32_lt, i32_le, i32_eq, inR_i, i32_clamp, i32_div, i32_max, i32_min, ite_max, ite_min, b2i_0, b2i_1, b2i_01, i32_toInt, tn_i, Int.toNat_natCast, em_t, true_and, and_true, Int.reduceToNat, Int.reduceLE, Int.reduceLT, Int.reduceAdd, Int.reduceMul, Int.reduceSub, Int.reduceNeg, Int.reduceEq, true_implies, not_true_eq_false, false_implies, not_false_eq_true, kC, rC0, rC1, rC2, rC3, rC4, kQ, rQ0, rQ1, kV, lV, kG, lG, kP, lP, kT, lT, LB1, LB2, LB3, LH1, LH2, LH3, LL1, LL2, LL3, dDy, dEv, true_and, and_true, Option.some.injEq, exists_eq_left', nmOf_0, nmOf_1, nmOf_2, nmOf_3, nmOf_4, nmOf_5, nmOf_6, Nat.add_sub_cancel, Nat.reduceSub, Nat.reduceLT, Nat.reduceEqDiff, ne_eq, not_false_eq_true, kH, rH5, rH6, rH7, rH8, rH12, kH4, lH4, kH5, lH5, kH6, lH6, kH7, lH7, eH0, eH1, eH2, eH3, qH, kqH, lqH]
    exact ⟨fun _ => hz, fun z => by omega⟩
  | succ k ih =>
    intro n hn h f f2 hD hM h7 h13 h14 o3 o4
    have hn' : n < S.nl := by omega
    have hJ := hD.1.2.2.2.2.2.2.2.2.2.2.2.2.2.2.2
    have rk : ∀ t, 4 ≤ t → t ≤ 7 → RK t r := fun t h1 h2 => Or.inr ⟨h1, h2, hr⟩
    have n47 : ¬ D 4 r = D 7 r := fun q => by have := hJ 4 r 7 r (rk 4 (by omega) (by omega)) (rk 7 (by omega) (by omega)) q; omega
    have n57 : ¬ D 5 r = D 7 r := fun q => by have := hJ 5 r 7 r (rk 5 (by omega) (by omega)) (rk 7 (by omega) (by omega)) q; omega
    have n67 : ¬ D 6 r = D 7 r := fun q => by have := hJ 6 r 7 r (rk 6 (by omega) (by omega)) (rk 7 (by omega) (by omega)) q; omega
    have hj119 : ∀ h', FH h h' D r → (∀ k, k ≠ 11 → k ≠ 13 → k ≠ 14 → fi h' 2 k (D 2 r) = fi h 2 k (D 2 r)) → HM h' D S r → (∀ l, l < n + 1 → ia h' (D 7 r) l = i32 (gts S l r)) → fi h' 2 13 (D 2 r) = i32 (sumN (fun l => gts S l r) n) → fi h' 2 14 (D 2 r) = i32 (sumN (fun l => if isSh S l r = true then 1 else 0) (n + 1)) → ∀ o3 o4, Wp G MX1_allot false 4 Q QX 119 [some (.ref (D 2 r)), some (.ref (D 0 5)), some (.int (i32 n)), o3, o4] [] h' (0, 0) := fun h' g1 g2 g3 g4 g5 g6 o3 o4 => by
      have hs := ih (n + 1) (by omega) (setI h' 2 13 (D 2 r) (i32 (sumN (fun l => gts S l r) n + gts S n r))) ((f.tr g1).tr (FH.sI (by omega))) (fun k z1 z2 z3 => by rw [fi_setI, if_neg (by omega)]; exact (g2 k z1 z2 z3).trans (f2 k z1 z2 z3)) (hD.fh hr (g1.tr (FH.sI (by omega)))) (g3.st (fun _ => rfl) (fun _ => rfl) (fun _ => rfl) (by rw [fi_setI, if_neg (by omega)]) (by rw [fi_setI, if_neg (by omega)])) g4 (by rw [fi_setI, if_pos ⟨rfl, rfl, rfl⟩]; rfl) (by rw [fi_setI, if_neg (by omega)]; exact g6) o3 o4
      have g7 := g4 n (by omega)
      have hD2 := hD.fh hr g1
      clear hD
      have hD := hD2
      have hA0 := hD.1
      have hB0 := hD.2
      obtain ⟨⟨kC, rC0, rC1, rC2, rC3, rC4⟩, ⟨kQ, rQ0, rQ1⟩, ⟨kV, lV⟩, ⟨kG, lG⟩, ⟨kP, lP⟩, ⟨kT, lT⟩, ⟨⟨LB1, LB2, LB3, LB4, LB5, LB6, LB7⟩, ⟨LH1, LH2, LH3, LH4, LH5, LH6, LH7⟩, ⟨LL1, LL2, LL3, LL4, LL5, LL6, LL7⟩⟩, hKB, hHA, hKL, hCJ⟩ := hA0
      obtain ⟨dDy, dEv, dG, dP, dV, dB, dL, dH⟩ := hB0
      have hnb := hW.1
      have hnl := hW.2.1
      obtain ⟨kH, ⟨rH5, rH6, rH7, rH8, rH12⟩, ⟨kH4, lH4⟩, ⟨kH5, lH5⟩, ⟨kH6, lH6⟩, ⟨kH7, lH7⟩⟩ := hHA r hr
      obtain ⟨eH0, eH1, eH2, eH3⟩ := dH r hr
      have qH := LH7 r hr
      obtain ⟨kqH, lqH⟩ := LH6 (by omega)
      obtain ⟨vH0, vH0', vH1, vH1', -, vH2, vH2'⟩ := hW.2.2.2.2.1 r hr
      refine wpW (cs := [(88, ce_Jx4a65c_size_8abf5), (94, ce_Jx4a65c_get_915e3), (59, ce_X2_asksIn G D S), (137, ce_X1_areaOf G D S), (140, ce_X1_askedBefore G D S), (144, ce_min), (150, ce_max)]) (stop := [12]) (n := 200) (env_cons (ceV (by decide +kernel) ⟨by decide, by decide, by decide +kernel⟩ (by decide) rfl (ok_Jx4a65c_size_8abf5 G)) (env_cons (ceV (by decide +kernel) ⟨by decide, by decide, by decide +kernel⟩ (by decide) rfl (ok_Jx4a65c_get_915e3 G)) (env_cons (ceV (by decide +kernel) ⟨by decide, by decide, by decide +kernel⟩ (by decide) rfl (ok_X2_asksIn G G D S hW)) (env_cons (ceV (by decide +kernel) ⟨by decide, by decide, by decide +kernel⟩ (by decide) rfl (ok_X1_areaOf G G D S hW)) (env_cons (ceV (by decide +kernel) ⟨by decide, by decide, by decide +kernel⟩ (by decide) rfl (ok_X1_askedBefore G G D S hW)) (env_cons (ce_minOK (by decide +kernel)) (env_cons (ce_maxOK (by decide +kernel)) (env_nil0 (env_hh rfl))))))))) ?_
      simp only [↓wpN_S, ↓step_u, ↓stC_s, stC_s, ↓stF_u, stF_u, ↓stepI, lenI, ↓kN_u, isS, ↓gI_0, ↓gI_S, ↓gL_0, ↓gL_S, ↓gD_0, ↓gD_S, ↓gR_0, ↓gR_S, ↓sI_c, ↓sL_c, ↓sD_c, ↓sR_c, ↓s1_r, ↓s1_i, ↓vR_r, ↓vR_n, ↓s0_n, s0_n, ↓oR_u, ↓sP_u, ↓sPa_0, ↓sPa_S, ↓lkC_c, ↓callK_u, ↓cQ_s, ↓cQ_n, putL, putW, clr, kil, catS, catN, refF, booF, finF, nF, nmOf_0, nmOf_1, nmOf_2, nmOf_3, nmOf_4, nmOf_5, nmOf_6, nmOf_50, nmOf_51, nmOf_52, ↓reduceIte, reduceIte, Bool.false_eq_true, eq_self, true_or, or_true, true_and, and_true, false_or, or_false, Nat.reduceAdd, Nat.reduceSub, Nat.reduceEqDiff, Nat.reduceLT, Nat.reduceLeDiff, reduceCtorEq, true_implies, List.length_cons, List.length_nil, List.replicate, List.cons_append, List.nil_append, mrt_X1_allot, mhh_X1_allot, mow_X1_allot, mnl_X1_allot, DX1_allot_0, DX1_allot_1, DX1_allot_2, DX1_allot_5, DX1_allot_6, DX1_allot_7, DX1_allot_10, DX1_allot_11, DX1_allot_12, DX1_allot_13, DX1_allot_14, DX1_allot_17, DX1_allot_20, DX1_allot_21, DX1_allot_22, DX1_allot_25, DX1_allot_26, DX1_allot_29, DX1_allot_30, DX1_allot_31, DX1_allot_34, DX1_allot_37, DX1_allot_38, DX1_allot_39, DX1_allot_42, DX1_allot_43, DX1_allot_44, DX1_allot_45, DX1_allot_46, DX1_allot_47, DX1_allot_50, DX1_allot_53, DX1_allot_56, DX1_allot_57, DX1_allot_58, DX1_allot_61, DX1_allot_64, DX1_allot_65, DX1_allot_66, DX1_allot_67, DX1_allot_70, DX1_allot_71, DX1_allot_73, DX1_allot_74, DX1_allot_77, DX1_allot_78, DX1_allot_79, DX1_allot_80, DX1_allot_83, DX1_allot_85, DX1_allot_88, DX1_allot_91, DX1_allot_92, DX1_allot_93, DX1_allot_94, DX1_allot_97, DX1_allot_98, DX1_allot_101, DX1_allot_102, DX1_allot_103, DX1_allot_104, DX1_allot_107, DX1_allot_110, DX1_allot_111, DX1_allot_114, DX1_allot_115, DX1_allot_116, DX1_allot_119, DX1_allot_120, DX1_allot_121, DX1_allot_124, DX1_allot_125, DX1_allot_128, DX1_allot_129, DX1_allot_130, DX1_allot_131, DX1_allot_134, DX1_allot_137, DX1_allot_140, DX1_allot_141, DX1_allot_142, DX1_allot_145, ce_Jx4a65c_size_8abf5, ↓ct_Jx4a65c_size_8abf5, ycl_Jx4a65c_size_8abf5, ce_Jx4a65c_get_915e3, ↓ct_Jx4a65c_get_915e3, ycl_Jx4a65c_get_915e3, ce_X2_asksIn, ↓ct_X2_asksIn, ycl_X2_asksIn, ce_X1_areaOf, ↓ct_X1_areaOf, ycl_X1_areaOf, ce_X1_askedBefore, ↓ct_X1_askedBefore, ycl_X1_askedBefore, ce_min, ce_max, cX_nil mhh_X1_allot]
      simp (disch := omega) only [i32_lit, i32_neg, i32_add, i32_mul, i32_sub, i32_nI, i32_lt, i32_le, i32_eq, inR_i, i32_clamp, i32_div, i32_max, i32_min, ite_max, ite_min, b2i_0, b2i_1, b2i_01, i32_toInt, tn_i, Int.toNat_natCast, em_t, true_and, and_true, Int.reduceToNat, Int.reduceLE, Int.reduceLT, Int.reduceAdd, Int.reduceMul, Int.reduceSub, Int.reduceNeg, Int.reduceEq, true_implies, not_true_eq_false, false_implies, not_false_eq_true, kC, rC0, rC1, rC2, rC3, rC4, kQ, rQ0, rQ1, kV, lV, kG, lG, kP, lP, kT, lT, LB1, LB2, LB3, LH1, LH2, LH3, LL1, LL2, LL3, dDy, dEv, true_and, and_true, Option.some.injEq, exists_eq_left', nmOf_0, nmOf_1, nmOf_2, nmOf_3, nmOf_4, nmOf_5, nmOf_6, Nat.add_sub_cancel, Nat.reduceSub, Nat.reduceLT, Nat.reduceEqDiff, ne_eq, not_false_eq_true, kH, rH5, rH6, rH7, rH8, rH12, kH4, lH4, kH5, lH5, kH6, lH6, kH7, lH7, eH0, eH1, eH2, eH3, qH, kqH, lqH, g5, g7]
      rw [show (n : Int) + 1 = ((n + 1 : Nat) : Int) by omega]
      exact ⟨by omega, hs⟩
    have h45 : ∀ h', FH h h' D r → (∀ k, fi h' 2 k (D 2 r) = fi h 2 k (D 2 r)) → HM h' D S r → (∀ l, l < n → ia h' (D 7 r) l = i32 (gts S l r)) → ia h' (D 7 r) n = i32 0 → ∀ o4, Wp G MX1_allot false 4 Q QX 45 [some (.ref (D 2 r)), some (.ref (D 0 5)), some (.int (i32 n)), some (.ref (D 3 n)), o4] [] h' (0, 0) := fun h' g1 g2 g3 g4 g5 o4 => by
      have hD2 := hD.fh hr g1
      have e13 := (g2 13).trans h13
      have e14 := (g2 14).trans h14
      have hab := area_b S (S.lf n 0) r
      have hwb : 0 ≤ wnt S (S.lf n 0) r (S.lf n 5) n ∧ wnt S (S.lf n 0) r (S.lf n 5) n ≤ 2400 := wnt_b hW (S.lf n 0) r (S.lf n 5) n S.nl (Nat.le_refl _)
      have gb := gts_b (r := r) hW hn'
      have hz : ∀ e : Int, (e = if isSh S n r = true then 1 else 0) → ∀ o4, Wp G MX1_allot false 4 Q QX 119 [some (.ref (D 2 r)), some (.ref (D 0 5)), some (.int (i32 n)), some (.ref (D 3 n)), o4] [] (setI (setIA h' (D 7 r) n (i32 (gts S n r))) 2 14 (D 2 r) (i32 (sumN (fun l => if isSh S l r = true then 1 else 0) n + e))) (0, 0) := fun e he o4 =>
        hj119 _ ((g1.tr (FH.sA (by omega))).tr (FH.sI (by omega))) (fun k z1 z2 z3 => by rw [fi_setI, if_neg (by omega)]; exact g2 k) (g3.st (fun i => by rw [ia_setI, ia_setIA, if_neg (fun y => n47 y.1)]) (fun i => by rw [ia_setI, ia_setIA, if_neg (fun y => n57 y.1)]) (fun i => by rw [ia_setI, ia_setIA, if_neg (fun y => n67 y.1)]) (by rw [fi_setI, if_neg (by omega)]; rfl) (by rw [fi_setI, if_neg (by omega)]; rfl)) (fun l hl => by
          rw [ia_setI, ia_setIA]
          by_cases q : l = n
          · rw [if_pos ⟨rfl, q⟩, q]
          · rw [if_neg (fun y => q y.2)]; exact g4 l (by omega)) (by rw [fi_setI, if_neg (by omega)]; exact e13) (by rw [fi_setI, if_pos ⟨rfl, rfl, rfl⟩, he]; rfl) _ _
      clear hD
      have hD := hD2
      have hA0 := hD.1
      have hB0 := hD.2
      obtain ⟨⟨kC, rC0, rC1, rC2, rC3, rC4⟩, ⟨kQ, rQ0, rQ1⟩, ⟨kV, lV⟩, ⟨kG, lG⟩, ⟨kP, lP⟩, ⟨kT, lT⟩, ⟨⟨LB1, LB2, LB3, LB4, LB5, LB6, LB7⟩, ⟨LH1, LH2, LH3, LH4, LH5, LH6, LH7⟩, ⟨LL1, LL2, LL3, LL4, LL5, LL6, LL7⟩⟩, hKB, hHA, hKL, hCJ⟩ := hA0
      obtain ⟨dDy, dEv, dG, dP, dV, dB, dL, dH⟩ := hB0
      have hnb := hW.1
      have hnl := hW.2.1
      obtain ⟨kH, ⟨rH5, rH6, rH7, rH8, rH12⟩, ⟨kH4, lH4⟩, ⟨kH5, lH5⟩, ⟨kH6, lH6⟩, ⟨kH7, lH7⟩⟩ := hHA r hr
      obtain ⟨eH0, eH1, eH2, eH3⟩ := dH r hr
      have qH := LH7 r hr
      obtain ⟨kqH, lqH⟩ := LH6 (by omega)
      obtain ⟨vH0, vH0', vH1, vH1', -, vH2, vH2'⟩ := hW.2.2.2.2.1 r hr
      have kL := hKL n hn'
      obtain ⟨eL0, eL1, eL2, eL3, eL4, eL5, eL6, eL7, eL8, eL9⟩ := dL n hn'
      have qL := LL7 n hn'
      obtain ⟨kqL, lqL⟩ := LL6 (by omega)
      obtain ⟨vL0, vL0', vL1, vL1', vL2, vL2', vL3, vL4, vL4', vL5, vL5', vL6, vL7, vL7'⟩ := hW.2.2.2.1 n hn'
      refine wpW (cs := [(88, ce_Jx4a65c_size_8abf5), (94, ce_Jx4a65c_get_915e3), (59, ce_X2_asksIn G D S), (137, ce_X1_areaOf G D S), (140, ce_X1_askedBefore G D S), (144, ce_min), (150, ce_max)]) (stop := [119]) (n := 200) (env_cons (ceV (by decide +kernel) ⟨by decide, by decide, by decide +kernel⟩ (by decide) rfl (ok_Jx4a65c_size_8abf5 G)) (env_cons (ceV (by decide +kernel) ⟨by decide, by decide, by decide +kernel⟩ (by decide) rfl (ok_Jx4a65c_get_915e3 G)) (env_cons (ceV (by decide +kernel) ⟨by decide, by decide, by decide +kernel⟩ (by decide) rfl (ok_X2_asksIn G G D S hW)) (env_cons (ceV (by decide +kernel) ⟨by decide, by decide, by decide +kernel⟩ (by decide) rfl (ok_X1_areaOf G G D S hW)) (env_cons (ceV (by decide +kernel) ⟨by decide, by decide, by decide +kernel⟩ (by decide) rfl (ok_X1_askedBefore G G D S hW)) (env_cons (ce_minOK (by decide +kernel)) (env_cons (ce_maxOK (by decide +kernel)) (env_nil0 (env_hh rfl))))))))) ?_
      simp only [↓wpN_S, ↓step_u, ↓stC_s, stC_s, ↓stF_u, stF_u, ↓stepI, lenI, ↓kN_u, isS, ↓gI_0, ↓gI_S, ↓gL_0, ↓gL_S, ↓gD_0, ↓gD_S, ↓gR_0, ↓gR_S, ↓sI_c, ↓sL_c, ↓sD_c, ↓sR_c, ↓s1_r, ↓s1_i, ↓vR_r, ↓vR_n, ↓s0_n, s0_n, ↓oR_u, ↓sP_u, ↓sPa_0, ↓sPa_S, ↓lkC_c, ↓callK_u, ↓cQ_s, ↓cQ_n, putL, putW, clr, kil, catS, catN, refF, booF, finF, nF, nmOf_0, nmOf_1, nmOf_2, nmOf_3, nmOf_4, nmOf_5, nmOf_6, nmOf_50, nmOf_51, nmOf_52, ↓reduceIte, reduceIte, Bool.false_eq_true, eq_self, true_or, or_true, true_and, and_true, false_or, or_false, Nat.reduceAdd, Nat.reduceSub, Nat.reduceEqDiff, Nat.reduceLT, Nat.reduceLeDiff, reduceCtorEq, true_implies, List.length_cons, List.length_nil, List.replicate, List.cons_append, List.nil_append, mrt_X1_allot, mhh_X1_allot, mow_X1_allot, mnl_X1_allot, DX1_allot_0, DX1_allot_1, DX1_allot_2, DX1_allot_5, DX1_allot_6, DX1_allot_7, DX1_allot_10, DX1_allot_11, DX1_allot_12, DX1_allot_13, DX1_allot_14, DX1_allot_17, DX1_allot_20, DX1_allot_21, DX1_allot_22, DX1_allot_25, DX1_allot_26, DX1_allot_29, DX1_allot_30, DX1_allot_31, DX1_allot_34, DX1_allot_37, DX1_allot_38, DX1_allot_39, DX1_allot_42, DX1_allot_43, DX1_allot_44, DX1_allot_45, DX1_allot_46, DX1_allot_47, DX1_allot_50, DX1_allot_53, DX1_allot_56, DX1_allot_57, DX1_allot_58, DX1_allot_61, DX1_allot_64, DX1_allot_65, DX1_allot_66, DX1_allot_67, DX1_allot_70, DX1_allot_71, DX1_allot_73, DX1_allot_74, DX1_allot_77, DX1_allot_78, DX1_allot_79, DX1_allot_80, DX1_allot_83, DX1_allot_85, DX1_allot_88, DX1_allot_91, DX1_allot_92, DX1_allot_93, DX1_allot_94, DX1_allot_97, DX1_allot_98, DX1_allot_101, DX1_allot_102, DX1_allot_103, DX1_allot_104, DX1_allot_107, DX1_allot_110, DX1_allot_111, DX1_allot_114, DX1_allot_115, DX1_allot_116, DX1_allot_119, DX1_allot_120, DX1_allot_121, DX1_allot_124, DX1_allot_125, DX1_allot_128, DX1_allot_129, DX1_allot_130, DX1_allot_131, DX1_allot_134, DX1_allot_137, DX1_allot_140, DX1_allot_141, DX1_allot_142, DX1_allot_145, ce_Jx4a65c_size_8abf5, ↓ct_Jx4a65c_size_8abf5, ycl_Jx4a65c_size_8abf5, ce_Jx4a65c_get_915e3, ↓ct_Jx4a65c_get_915e3, ycl_Jx4a65c_get_915e3, ce_X2_asksIn, ↓ct_X2_asksIn, ycl_X2_asksIn, ce_X1_areaOf, ↓ct_X1_areaOf, ycl_X1_areaOf, ce_X1_askedBefore, ↓ct_X1_askedBefore, ycl_X1_askedBefore, ce_min, ce_max, cX_nil mhh_X1_allot]
      simp (disch := omega) only [i32_lit, i32_neg, i32_add, i32_mul, i32_sub, i32_nI, i32_lt, i32_le, i32_eq, inR_i, i32_clamp, i32_div, i32_max, i32_min, ite_max, ite_min, b2i_0, b2i_1, b2i_01, i32_toInt, tn_i, Int.toNat_natCast, em_t, true_and, and_true, Int.reduceToNat, Int.reduceLE, Int.reduceLT, Int.reduceAdd, Int.reduceMul, Int.reduceSub, Int.reduceNeg, Int.reduceEq, true_implies, not_true_eq_false, false_implies, not_false_eq_true, kC, rC0, rC1, rC2, rC3, rC4, kQ, rQ0, rQ1, kV, lV, kG, lG, kP, lP, kT, lT, LB1, LB2, LB3, LH1, LH2, LH3, LL1, LL2, LL3, dDy, dEv, true_and, and_true, Option.some.injEq, exists_eq_left', nmOf_0, nmOf_1, nmOf_2, nmOf_3, nmOf_4, nmOf_5, nmOf_6, Nat.add_sub_cancel, Nat.reduceSub, Nat.reduceLT, Nat.reduceEqDiff, ne_eq, not_false_eq_true, kH, rH5, rH6, rH7, rH8, rH12, kH4, lH4, kH5, lH5, kH6, lH6, kH7, lH7, eH0, eH1, eH2, eH3, qH, kqH, lqH, kL, eL0, eL1, eL2, eL3, eL4, eL5, eL6, eL7, eL8, eL9, qL, kqL, lqL, hD2, e14, kd_setI, fi_setI, fr_setI, ln_setI, ia_setI, ja_setI, ra_setI, kd_setR, fi_setR, fr_setR, ln_setR, ia_setR, ja_setR, ra_setR, kd_setIA, fi_setIA, fr_setIA, ln_setIA, ia_setIA, ja_setIA, ra_setIA, kd_setLA, fi_setLA, fr_setLA, ln_setLA, ia_setLA, ja_setLA, ra_setLA, kd_setRA, fi_setRA, fr_setRA, ln_setRA, ia_setRA, ja_setRA, ra_setRA, kd_cpRA, fi_cpRA, fr_cpRA, ln_cpRA, ia_cpRA, ja_cpRA, ra_cpRA, kd_cpIA, fi_cpIA, fr_cpIA, ln_cpIA, ia_cpIA, ja_cpIA, ra_cpIA, kd_newO, fi_newO, fr_newO, ln_newO, ia_newO, ja_newO, ra_newO, kd_newA, fi_newA, fr_newA, ln_newA, ia_newA, ja_newA, ra_newA, and_self, if_true, n47]
      refine ⟨by omega, n, hn', rfl, fun z => ?_, fun z => ⟨by omega, r, hr, rfl, g3, r, n, hr, hn', rfl, rfl, by omega, by omega, ?_⟩⟩
      · have eg : gts S n r = 0 := by unfold gts; rw [if_neg z]
        have es : isSh S n r = false := by unfold isSh; rw [decide_eq_false_iff_not]; exact fun q => z q.1
        refine hj119 h' g1 (fun k _ _ _ => g2 k) g3 (fun l hl => ?_) e13 ?_ _ _
        · by_cases q : l = n
          · rw [q, eg]; exact g5
          · exact g4 l (by omega)
        · simp only [sumN, es, Bool.false_eq_true, if_false, Int.add_zero]
          exact e14
      · have eg := gts_c vL4 (Classical.not_not.mp z)
        simp (disch := omega) only [i32_lit, i32_neg, i32_add, i32_mul, i32_sub, i32_nI, i32_lt, i32_le, i32_eq, inR_i, i32_clamp, i32_div, i32_max, i32_min, ite_max, ite_min, b2i_0, b2i_1, b2i_01, i32_toInt, tn_i, Int.toNat_natCast, em_t, true_and, and_true, Int.reduceToNat, Int.reduceLE, Int.reduceLT, Int.reduceAdd, Int.reduceMul, Int.reduceSub, Int.reduceNeg, Int.reduceEq, true_implies, not_true_eq_false, false_implies, not_false_eq_true]
        rw [← eg]
        have es : isSh S n r = true ↔ gts S n r < S.lf n 4 := by
          unfold isSh
          rw [decide_eq_true_iff]
          exact ⟨fun q => q.2, fun q => ⟨Classical.not_not.mp z, q⟩⟩
        exact ⟨fun y => hz 0 (by rw [if_neg (fun q => by have := es.mp q; omega)]) _, fun y => hz 1 (by rw [if_pos (es.mpr (by omega))]) _⟩
    have hA0 := hD.1
    have hB0 := hD.2
    obtain ⟨⟨kC, rC0, rC1, rC2, rC3, rC4⟩, ⟨kQ, rQ0, rQ1⟩, ⟨kV, lV⟩, ⟨kG, lG⟩, ⟨kP, lP⟩, ⟨kT, lT⟩, ⟨⟨LB1, LB2, LB3, LB4, LB5, LB6, LB7⟩, ⟨LH1, LH2, LH3, LH4, LH5, LH6, LH7⟩, ⟨LL1, LL2, LL3, LL4, LL5, LL6, LL7⟩⟩, hKB, hHA, hKL, hCJ⟩ := hA0
    obtain ⟨dDy, dEv, dG, dP, dV, dB, dL, dH⟩ := hB0
    have hnb := hW.1
    have hnl := hW.2.1
    obtain ⟨kH, ⟨rH5, rH6, rH7, rH8, rH12⟩, ⟨kH4, lH4⟩, ⟨kH5, lH5⟩, ⟨kH6, lH6⟩, ⟨kH7, lH7⟩⟩ := hHA r hr
    obtain ⟨eH0, eH1, eH2, eH3⟩ := dH r hr
    have qH := LH7 r hr
    obtain ⟨kqH, lqH⟩ := LH6 (by omega)
    obtain ⟨vH0, vH0', vH1, vH1', -, vH2, vH2'⟩ := hW.2.2.2.2.1 r hr
    have kL := hKL n hn'
    obtain ⟨eL0, eL1, eL2, eL3, eL4, eL5, eL6, eL7, eL8, eL9⟩ := dL n hn'
    have qL := LL7 n hn'
    obtain ⟨kqL, lqL⟩ := LL6 (by omega)
    obtain ⟨vL0, vL0', vL1, vL1', vL2, vL2', vL3, vL4, vL4', vL5, vL5', vL6, vL7, vL7'⟩ := hW.2.2.2.1 n hn'
    refine wpW (cs := [(88, ce_Jx4a65c_size_8abf5), (94, ce_Jx4a65c_get_915e3), (59, ce_X2_asksIn G D S), (137, ce_X1_areaOf G D S), (140, ce_X1_askedBefore G D S), (144, ce_min), (150, ce_max)]) (stop := [12, 45]) (n := 200) (env_cons (ceV (by decide +kernel) ⟨by decide, by decide, by decide +kernel⟩ (by decide) rfl (ok_Jx4a65c_size_8abf5 G)) (env_cons (ceV (by decide +kernel) ⟨by decide, by decide, by decide +kernel⟩ (by decide) rfl (ok_Jx4a65c_get_915e3 G)) (env_cons (ceV (by decide +kernel) ⟨by decide, by decide, by decide +kernel⟩ (by decide) rfl (ok_X2_asksIn G G D S hW)) (env_cons (ceV (by decide +kernel) ⟨by decide, by decide, by decide +kernel⟩ (by decide) rfl (ok_X1_areaOf G G D S hW)) (env_cons (ceV (by decide +kernel) ⟨by decide, by decide, by decide +kernel⟩ (by decide) rfl (ok_X1_askedBefore G G D S hW)) (env_cons (ce_minOK (by decide +kernel)) (env_cons (ce_maxOK (by decide +kernel)) (env_nil0 (env_hh rfl))))))))) ?_
    simp only [↓wpN_S, ↓step_u, ↓stC_s, stC_s, ↓stF_u, stF_u, ↓stepI, lenI, ↓kN_u, isS, ↓gI_0, ↓gI_S, ↓gL_0, ↓gL_S, ↓gD_0, ↓gD_S, ↓gR_0, ↓gR_S, ↓sI_c, ↓sL_c, ↓sD_c, ↓sR_c, ↓s1_r, ↓s1_i, ↓vR_r, ↓vR_n, ↓s0_n, s0_n, ↓oR_u, ↓sP_u, ↓sPa_0, ↓sPa_S, ↓lkC_c, ↓callK_u, ↓cQ_s, ↓cQ_n, putL, putW, clr, kil, catS, catN, refF, booF, finF, nF, nmOf_0, nmOf_1, nmOf_2, nmOf_3, nmOf_4, nmOf_5, nmOf_6, nmOf_50, nmOf_51, nmOf_52, ↓reduceIte, reduceIte, Bool.false_eq_true, eq_self, true_or, or_true, true_and, and_true, false_or, or_false, Nat.reduceAdd, Nat.reduceSub, Nat.reduceEqDiff, Nat.reduceLT, Nat.reduceLeDiff, reduceCtorEq, true_implies, List.length_cons, List.length_nil, List.replicate, List.cons_append, List.nil_append, mrt_X1_allot, mhh_X1_allot, mow_X1_allot, mnl_X1_allot, DX1_allot_0, DX1_allot_1, DX1_allot_2, DX1_allot_5, DX1_allot_6, DX1_allot_7, DX1_allot_10, DX1_allot_11, DX1_allot_12, DX1_allot_13, DX1_allot_14, DX1_allot_17, DX1_allot_20, DX1_allot_21, DX1_allot_22, DX1_allot_25, DX1_allot_26, DX1_allot_29, DX1_allot_30, DX1_allot_31, DX1_allot_34, DX1_allot_37, DX1_allot_38, DX1_allot_39, DX1_allot_42, DX1_allot_43, DX1_allot_44, DX1_allot_45, DX1_allot_46, DX1_allot_47, DX1_allot_50, DX1_allot_53, DX1_allot_56, DX1_allot_57, DX1_allot_58, DX1_allot_61, DX1_allot_64, DX1_allot_65, DX1_allot_66, DX1_allot_67, DX1_allot_70, DX1_allot_71, DX1_allot_73, DX1_allot_74, DX1_allot_77, DX1_allot_78, DX1_allot_79, DX1_allot_80, DX1_allot_83, DX1_allot_85, DX1_allot_88, DX1_allot_91, DX1_allot_92, DX1_allot_93, DX1_allot_94, DX1_allot_97, DX1_allot_98, DX1_allot_101, DX1_allot_102, DX1_allot_103, DX1_allot_104, DX1_allot_107, DX1_allot_110, DX1_allot_111, DX1_allot_114, DX1_allot_115, DX1_allot_116, DX1_allot_119, DX1_allot_120, DX1_allot_121, DX1_allot_124, DX1_allot_125, DX1_allot_128, DX1_allot_129, DX1_allot_130, DX1_allot_131, DX1_allot_134, DX1_allot_137, DX1_allot_140, DX1_allot_141, DX1_allot_142, DX1_allot_145, ce_Jx4a65c_size_8abf5, ↓ct_Jx4a65c_size_8abf5, ycl_Jx4a65c_size_8abf5, ce_Jx4a65c_get_915e3, ↓ct_Jx4a65c_get_915e3, ycl_Jx4a65c_get_915e3, ce_X2_asksIn, ↓ct_X2_asksIn, ycl_X2_asksIn, ce_X1_areaOf, ↓ct_X1_areaOf, ycl_X1_areaOf, ce_X1_askedBefore, ↓ct_X1_askedBefore, ycl_X1_askedBefore, ce_min, ce_max, cX_nil mhh_X1_allot]
    simp (disch := omega) only [i32_lit, i32_neg, i32_add, i32_mul, i32_sub, i32_nI, i32_lt, i32_le, i32_eq, inR_i, i32_clamp, i32_div, i32_max, i32_min, ite_max, ite_min, b2i_0, b2i_1, b2i_01, i32_toInt, tn_i, Int.toNat_natCast, em_t, true_and, and_true, Int.reduceToNat, Int.reduceLE, Int.reduceLT, Int.reduceAdd, Int.reduceMul, Int.reduceSub, Int.reduceNeg, Int.reduceEq, true_implies, not_true_eq_false, false_implies, not_false_eq_true, kC, rC0, rC1, rC2, rC3, rC4, kQ, rQ0, rQ1, kV, lV, kG, lG, kP, lP, kT, lT, LB1, LB2, LB3, LH1, LH2, LH3, LL1, LL2, LL3, dDy, dEv, true_and, and_true, Option.some.injEq, exists_eq_left', nmOf_0, nmOf_1, nmOf_2, nmOf_3, nmOf_4, nmOf_5, nmOf_6, Nat.add_sub_cancel, Nat.reduceSub, Nat.reduceLT, Nat.reduceEqDiff, ne_eq, not_false_eq_true, kH, rH5, rH6, rH7, rH8, rH12, kH4, lH4, kH5, lH5, kH6, lH6, kH7, lH7, eH0, eH1, eH2, eH3, qH, kqH, lqH, kL, eL0, eL1, eL2, eL3, eL4, eL5, eL6, eL7, eL8, eL9, qL, kqL, lqL]
    refine ⟨fun z => by omega, fun _ => ⟨by omega, by omega, fun z => by omega, fun _ => ⟨by omega, by omega, by omega, by omega, ?_⟩⟩⟩
    refine h45 _ (FH.sA (by omega)) (fun _ => rfl) (hM.st (fun i => by rw [ia_setIA, if_neg (fun y => n47 y.1)]) (fun i => by rw [ia_setIA, if_neg (fun y => n57 y.1)]) (fun i => by rw [ia_setIA, if_neg (fun y => n67 y.1)]) rfl rfl) (fun l hl => ?_) ?_ _
    · rw [ia_setIA, if_neg (fun y => by omega)]; exact h7 l hl
    · rw [ia_setIA, if_pos ⟨rfl, rfl⟩]
set_option maxRecDepth 100000 in
set_option maxHeartbeats 4000000 in
theorem ok_X1_allot (G : GT) (G : GT) (D : WD) (S : SS) (hW : WF S) : OKm G yX1_allot MX1_allot 4 0 0 (ct_X1_allot G D S) := by
  refine mkOK (ini := false) (by decide) rfl (by first | exact fun _ => rfl | (intro hh; cases hh)) (fun As h Q QX hc => ?_)
  replace hc := sR_e hc; obtain ⟨a, r, rfl, hc⟩ := hc
  replace hc := sR_e hc; obtain ⟨c, r, rfl, hc⟩ := hc
  replace hc := s0_e hc; obtain ⟨rfl, hc⟩ := hc
  obtain ⟨hD, rfl, r, hr, rfl, hM, hq⟩ := hc
  have hD0 := hD
  have f : FH h (setI (setI h 2 13 (D 2 r) (i32 0)) 2 14 (D 2 r) (i32 0)) D r := (FH.sI (by omega)).tr (FH.sI (by omega))
  have hz := lp_X1_allot (Q := Q) (QX := QX) G hW hr hq S.nl 0 (Nat.zero_add _) _ f (fun k z1 z2 z3 => by rw [fi_setI, if_neg (by omega), fi_setI, if_neg (by omega)]) (hD.fh hr f) (hM.st (fun _ => rfl) (fun _ => rfl) (fun _ => rfl) (by rw [fi_setI, if_neg (by omega), fi_setI, if_neg (by omega)]) (by rw [fi_setI, if_neg (by omega), fi_setI, if_neg (by omega)])) (fun l hl => by omega) (by rw [fi_setI, if_neg (by omega), fi_setI, if_pos ⟨rfl, rfl, rfl⟩]; rfl) (by rw [fi_setI, if_pos ⟨rfl, rfl, rfl⟩]; rfl) none none
  have hA0 := hD.1
  have hB0 := hD.2
  obtain ⟨⟨kC, rC0, rC1, rC2, rC3, rC4⟩, ⟨kQ, rQ0, rQ1⟩, ⟨kV, lV⟩, ⟨kG, lG⟩, ⟨kP, lP⟩, ⟨kT, lT⟩, ⟨⟨LB1, LB2, LB3, LB4, LB5, LB6, LB7⟩, ⟨LH1, LH2, LH3, LH4, LH5, LH6, LH7⟩, ⟨LL1, LL2, LL3, LL4, LL5, LL6, LL7⟩⟩, hKB, hHA, hKL, hCJ⟩ := hA0
  obtain ⟨dDy, dEv, dG, dP, dV, dB, dL, dH⟩ := hB0
  have hnb := hW.1
  have hnl := hW.2.1
  obtain ⟨kH, ⟨rH5, rH6, rH7, rH8, rH12⟩, ⟨kH4, lH4⟩, ⟨kH5, lH5⟩, ⟨kH6, lH6⟩, ⟨kH7, lH7⟩⟩ := hHA r hr
  obtain ⟨eH0, eH1, eH2, eH3⟩ := dH r hr
  have qH := LH7 r hr
  obtain ⟨kqH, lqH⟩ := LH6 (by omega)
  obtain ⟨vH0, vH0', vH1, vH1', -, vH2, vH2'⟩ := hW.2.2.2.2.1 r hr
  refine ⟨Nat.le_of_ble_eq_true rfl, ?_⟩
  simp only [ent, entL, catN, List.length_cons, List.length_nil, List.replicate, List.cons_append, List.nil_append, reduceIte, Nat.reduceEqDiff,  Nat.reduceAdd, Nat.reduceSub, mnl_X1_allot]
  refine wpW (cs := [(88, ce_Jx4a65c_size_8abf5), (94, ce_Jx4a65c_get_915e3), (59, ce_X2_asksIn G D S), (137, ce_X1_areaOf G D S), (140, ce_X1_askedBefore G D S), (144, ce_min), (150, ce_max)]) (stop := [12]) (n := 200) (env_cons (ceV (by decide +kernel) ⟨by decide, by decide, by decide +kernel⟩ (by decide) rfl (ok_Jx4a65c_size_8abf5 G)) (env_cons (ceV (by decide +kernel) ⟨by decide, by decide, by decide +kernel⟩ (by decide) rfl (ok_Jx4a65c_get_915e3 G)) (env_cons (ceV (by decide +kernel) ⟨by decide, by decide, by decide +kernel⟩ (by decide) rfl (ok_X2_asksIn G G D S hW)) (env_cons (ceV (by decide +kernel) ⟨by decide, by decide, by decide +kernel⟩ (by decide) rfl (ok_X1_areaOf G G D S hW)) (env_cons (ceV (by decide +kernel) ⟨by decide, by decide, by decide +kernel⟩ (by decide) rfl (ok_X1_askedBefore G G D S hW)) (env_cons (ce_minOK (by decide +kernel)) (env_cons (ce_maxOK (by decide +kernel)) (env_nil0 (env_hh rfl))))))))) ?_
  simp only [↓wpN_S, ↓step_u, ↓stC_s, stC_s, ↓stF_u, stF_u, ↓stepI, lenI, ↓kN_u, isS, ↓gI_0, ↓gI_S, ↓gL_0, ↓gL_S, ↓gD_0, ↓gD_S, ↓gR_0, ↓gR_S, ↓sI_c, ↓sL_c, ↓sD_c, ↓sR_c, ↓s1_r, ↓s1_i, ↓vR_r, ↓vR_n, ↓s0_n, s0_n, ↓oR_u, ↓sP_u, ↓sPa_0, ↓sPa_S, ↓lkC_c, ↓callK_u, ↓cQ_s, ↓cQ_n, putL, putW, clr, kil, catS, catN, refF, booF, finF, nF, nmOf_0, nmOf_1, nmOf_2, nmOf_3, nmOf_4, nmOf_5, nmOf_6, nmOf_50, nmOf_51, nmOf_52, ↓reduceIte, reduceIte, Bool.false_eq_true, eq_self, true_or, or_true, true_and, and_true, false_or, or_false, Nat.reduceAdd, Nat.reduceSub, Nat.reduceEqDiff, Nat.reduceLT, Nat.reduceLeDiff, reduceCtorEq, true_implies, List.length_cons, List.length_nil, List.replicate, List.cons_append, List.nil_append, mrt_X1_allot, mhh_X1_allot, mow_X1_allot, mnl_X1_allot, DX1_allot_0, DX1_allot_1, DX1_allot_2, DX1_allot_5, DX1_allot_6, DX1_allot_7, DX1_allot_10, DX1_allot_11, DX1_allot_12, DX1_allot_13, DX1_allot_14, DX1_allot_17, DX1_allot_20, DX1_allot_21, DX1_allot_22, DX1_allot_25, DX1_allot_26, DX1_allot_29, DX1_allot_30, DX1_allot_31, DX1_allot_34, DX1_allot_37, DX1_allot_38, DX1_allot_39, DX1_allot_42, DX1_allot_43, DX1_allot_44, DX1_allot_45, DX1_allot_46, DX1_allot_47, DX1_allot_50, DX1_allot_53, DX1_allot_56, DX1_allot_57, DX1_allot_58, DX1_allot_61, DX1_allot_64, DX1_allot_65, DX1_allot_66, DX1_allot_67, DX1_allot_70, DX1_allot_71, DX1_allot_73, DX1_allot_74, DX1_allot_77, DX1_allot_78, DX1_allot_79, DX1_allot_80, DX1_allot_83, DX1_allot_85, DX1_allot_88, DX1_allot_91, DX1_allot_92, DX1_allot_93, DX1_allot_94, DX1_allot_97, DX1_allot_98, DX1_allot_101, DX1_allot_102, DX1_allot_103, DX1_allot_104, DX1_allot_107, DX1_allot_110, DX1_allot_111, DX1_allot_114, DX1_allot_115, DX1_allot_116, DX1_allot_119, DX1_allot_120, DX1_allot_121, DX1_allot_124, DX1_allot_125, DX1_allot_128, DX1_allot_129, DX1_allot_130, DX1_allot_131, DX1_allot_134, DX1_allot_137, DX1_allot_140, DX1_allot_141, DX1_allot_142, DX1_allot_145, ce_Jx4a65c_size_8abf5, ↓ct_Jx4a65c_size_8abf5, ycl_Jx4a65c_size_8abf5, ce_Jx4a65c_get_915e3, ↓ct_Jx4a65c_get_915e3, ycl_Jx4a65c_get_915e3, ce_X2_asksIn, ↓ct_X2_asksIn, ycl_X2_asksIn, ce_X1_areaOf, ↓ct_X1_areaOf, ycl_X1_areaOf, ce_X1_askedBefore, ↓ct_X1_askedBefore, ycl_X1_askedBefore, ce_min, ce_max, cX_nil mhh_X1_allot]
  simp (disch := omega) only [i32_lit, i32_neg, i32_add, i32_mul, i32_sub, i32_nI, i32_lt, i32_le, i32_eq, inR_i, i32_clamp, i32_div, i32_max, i32_min, ite_max, ite_min, b2i_0, b2i_1, b2i_01, i32_toInt, tn_i, Int.toNat_natCast, em_t, true_and, and_true, Int.reduceToNat, Int.reduceLE, Int.reduceLT, Int.reduceAdd, Int.reduceMul, Int.reduceSub, Int.reduceNeg, Int.reduceEq, true_implies, not_true_eq_false, false_implies, not_false_eq_true, kC, rC0, rC1, rC2, rC3, rC4, kQ, rQ0, rQ1, kV, lV, kG, lG, kP, lP, kT, lT, LB1, LB2, LB3, LH1, LH2, LH3, LL1, LL2, LL3, dDy, dEv, true_and, and_true, Option.some.injEq, exists_eq_left', nmOf_0, nmOf_1, nmOf_2, nmOf_3, nmOf_4, nmOf_5, nmOf_6, Nat.add_sub_cancel, Nat.reduceSub, Nat.reduceLT, Nat.reduceEqDiff, ne_eq, not_false_eq_true, kH, rH5, rH6, rH7, rH8, rH12, kH4, lH4, kH5, lH5, kH6, lH6, kH7, lH7, eH0, eH1, eH2, eH3, qH, kqH, lqH, kd_setI, fi_setI, fr_setI, ln_setI, ia_setI, ja_setI, ra_setI, kd_setR, fi_setR, fr_setR, ln_setR, ia_setR, ja_setR, ra_setR, kd_setIA, fi_setIA, fr_setIA, ln_setIA, ia_setIA, ja_setIA, ra_setIA, kd_setLA, fi_setLA, fr_setLA, ln_setLA, ia_setLA, ja_setLA, ra_setLA, kd_setRA, fi_setRA, fr_setRA, ln_setRA, ia_setRA, ja_setRA, ra_setRA, kd_cpRA, fi_cpRA, fr_cpRA, ln_cpRA, ia_cpRA, ja_cpRA, ra_cpRA, kd_cpIA, fi_cpIA, fr_cpIA, ln_cpIA, ia_cpIA, ja_cpIA, ra_cpIA, kd_newO, fi_newO, fr_newO, ln_newO, ia_newO, ja_newO, ra_newO, kd_newA, fi_newA, fr_newA, ln_newA, ia_newA, ja_newA, ra_newA]
  exact hz
def ct_X1_cellOfShade (G : GT) (D : WD) (S : SS) : Ct := fun As h Q _ => sR As fun a r => sI r fun b r => sI r fun x r => s0 r (CD G h D S ∧ ∃ r, r < 12 ∧ a = D 2 r ∧ HM h D S r ∧ ∃ c : Nat, c < 256 ∧ bel S r c = b.toInt ∧ sumN (fun j => if bel S r j = b.toInt then 1 else 0) c = x.toInt ∧ Q (some (.int (i32 c))) h)
def ce_X1_cellOfShade (G : GT) (D : WD) (S : SS) : CE := (0, yX1_cellOfShade, MX1_cellOfShade, 2, 0, 0, 0, ct_X1_cellOfShade G D S)
set_option maxRecDepth 100000 in
set_option maxHeartbeats 4000000 in
theorem lp_X1_cellOfShade (G : GT) {D : WD} {S : SS} (hW : WF S) {h : Hp} {r c : Nat} {b x : Int} {Q : Option Value → Hp → Prop} {QX : String → Hp → Prop} (hr : r < 12) (hc : c < 256) (hD : CD G h D S) (hM : HM h D S r) (hb : inB b) (hx : inB x) (h1 : bel S r c = b) (h2 : sumN (fun j => if bel S r j = b then 1 else 0) c = x) (hq : Q (some (.int (i32 c))) h) :
    ∀ k n : Nat, n + k = c → Wp G MX1_cellOfShade false 0 Q QX 5 [some (.ref (D 2 r)), some (.int (i32 b)), some (.int (i32 x)), some (.int (i32 (sumN (fun j => if bel S r j = b then 1 else 0) n))), some (.int (i32 n))] [] h (0, 0) := by
  intro k
  induction k with
  | zero =>
    intro n hn
    have e : n = c := by omega
    subst e
    have hb4 := (hM.1 n hc).1
    rw [h1] at hb4
    rw [h2]
    have hA0 := hD.1
    have hB0 := hD.2
    obtain ⟨⟨kC, rC0, rC1, rC2, rC3, rC4⟩, ⟨kQ, rQ0, rQ1⟩, ⟨kV, lV⟩, ⟨kG, lG⟩, ⟨kP, lP⟩, ⟨kT, lT⟩, ⟨⟨LB1, LB2, LB3, LB4, LB5, LB6, LB7⟩, ⟨LH1, LH2, LH3, LH4, LH5, LH6, LH7⟩, ⟨LL1, LL2, LL3, LL4, LL5, LL6, LL7⟩⟩, hKB, hHA, hKL, hCJ⟩ := hA0
    obtain ⟨dDy, dEv, dG, dP, dV, dB, dL, dH⟩ := hB0
    have hnb := hW.1
    have hnl := hW.2.1
    obtain ⟨kH, ⟨rH5, rH6, rH7, rH8, rH12⟩, ⟨kH4, lH4⟩, ⟨kH5, lH5⟩, ⟨kH6, lH6⟩, ⟨kH7, lH7⟩⟩ := hHA r hr
    obtain ⟨eH0, eH1, eH2, eH3⟩ := dH r hr
    have qH := LH7 r hr
    obtain ⟨kqH, lqH⟩ := LH6 (by omega)
    obtain ⟨vH0, vH0', vH1, vH1', -, vH2, vH2'⟩ := hW.2.2.2.2.1 r hr
    refine wpW (cs := []) (stop := [5]) (n := 200) (env_nil0 (env_hh rfl)) ?_
    simp only [↓wpN_S, ↓step_u, ↓stC_s, stC_s, ↓stF_u, stF_u, ↓stepI, lenI, ↓kN_u, isS, ↓gI_0, ↓gI_S, ↓gL_0, ↓gL_S, ↓gD_0, ↓gD_S, ↓gR_0, ↓gR_S, ↓sI_c, ↓sL_c, ↓sD_c, ↓sR_c, ↓s1_r, ↓s1_i, ↓vR_r, ↓vR_n, ↓s0_n, s0_n, ↓oR_u, ↓sP_u, ↓sPa_0, ↓sPa_S, ↓lkC_c, ↓callK_u, ↓cQ_s, ↓cQ_n, putL, putW, clr, kil, catS, catN, refF, booF, finF, nF, nmOf_0, nmOf_1, nmOf_2, nmOf_3, nmOf_4, nmOf_5, nmOf_6, nmOf_50, nmOf_51, nmOf_52, ↓reduceIte, reduceIte, Bool.false_eq_true, eq_self, true_or, or_true, true_and, and_true, false_or, or_false, Nat.reduceAdd, Nat.reduceSub, Nat.reduceEqDiff, Nat.reduceLT, Nat.reduceLeDiff, reduceCtorEq, true_implies, List.length_cons, List.length_nil, List.replicate, List.cons_append, List.nil_append, mrt_X1_cellOfShade, mhh_X1_cellOfShade, mow_X1_cellOfShade, mnl_X1_cellOfShade, DX1_cellOfShade_0, DX1_cellOfShade_1, DX1_cellOfShade_2, DX1_cellOfShade_3, DX1_cellOfShade_5, DX1_cellOfShade_7, DX1_cellOfShade_8, DX1_cellOfShade_11, DX1_cellOfShade_12, DX1_cellOfShade_15, DX1_cellOfShade_16, DX1_cellOfShade_19, DX1_cellOfShade_21, DX1_cellOfShade_22, DX1_cellOfShade_23, DX1_cellOfShade_26, DX1_cellOfShade_27, DX1_cellOfShade_28, DX1_cellOfShade_31, DX1_cellOfShade_33, DX1_cellOfShade_34, DX1_cellOfShade_37, DX1_cellOfShade_40, DX1_cellOfShade_43, DX1_cellOfShade_44]
    simp (disch := omega) only [i32_lit, i32_neg, i32_add, i32_mul, i32_sub, i32_nI, i32_lt, i32_le, i32_eq, inR_i, i32_clamp, i32_div, i32_max, i32_min, ite_max, ite_min, b2i_0, b2i_1, b2i_01, i32_toInt, tn_i, Int.toNat_natCast, em_t, true_and, and_true, Int.reduceToNat, Int.reduceLE, Int.reduceLT, Int.reduceAdd, Int.reduceMul, Int.reduceSub, Int.reduceNeg, Int.reduceEq, true_implies, not_true_eq_false, false_implies, not_false_eq_true, kC, rC0, rC1, rC2, rC3, rC4, kQ, rQ0, rQ1, kV, lV, kG, lG, kP, lP, kT, lT, LB1, LB2, LB3, LH1, LH2, LH3, LL1, LL2, LL3, dDy, dEv, true_and, and_true, Option.some.injEq, exists_eq_left', nmOf_0, nmOf_1, nmOf_2, nmOf_3, nmOf_4, nmOf_5, nmOf_6, Nat.add_sub_cancel, Nat.reduceSub, Nat.reduceLT, Nat.reduceEqDiff, ne_eq, not_false_eq_true, kH, rH5, rH6, rH7, rH8, rH12, kH4, lH4, kH5, lH5, kH6, lH6, kH7, lH7, eH0, eH1, eH2, eH3, qH, kqH, lqH, hb4]
    exact ⟨by omega, by omega, fun z => by omega, fun _ => ⟨by omega, hq⟩⟩
  | succ k ih =>
    intro n hn
    have hs := ih (n + 1) (by omega)
    simp only [sumN] at hs
    have hb4 := (hM.1 n (by omega)).1
    have hbb := bel_b S r n
    have hcn := cnt_b (fun j => bel S r j = b) inferInstance n
    have hlt : bel S r n = b → sumN (fun j => if bel S r j = b then 1 else 0) n < x := fun q => by
      have hmono : ∀ m : Nat, n < m → sumN (fun j => if bel S r j = b then 1 else 0) n + 1 ≤ sumN (fun j => if bel S r j = b then 1 else 0) m := fun m => by
        induction m with
        | zero => intro z; omega
        | succ m im =>
          intro z
          simp only [sumN]
          by_cases e : n = m
          · subst e; rw [if_pos q]; omega
          · have := im (by omega)
            split <;> omega
      have := hmono c (by omega)
      omega
    have hnb0 := hW.1
    have hA0 := hD.1
    have hB0 := hD.2
    obtain ⟨⟨kC, rC0, rC1, rC2, rC3, rC4⟩, ⟨kQ, rQ0, rQ1⟩, ⟨kV, lV⟩, ⟨kG, lG⟩, ⟨kP, lP⟩, ⟨kT, lT⟩, ⟨⟨LB1, LB2, LB3, LB4, LB5, LB6, LB7⟩, ⟨LH1, LH2, LH3, LH4, LH5, LH6, LH7⟩, ⟨LL1, LL2, LL3, LL4, LL5, LL6, LL7⟩⟩, hKB, hHA, hKL, hCJ⟩ := hA0
    obtain ⟨dDy, dEv, dG, dP, dV, dB, dL, dH⟩ := hB0
    have hnb := hW.1
    have hnl := hW.2.1
    obtain ⟨kH, ⟨rH5, rH6, rH7, rH8, rH12⟩, ⟨kH4, lH4⟩, ⟨kH5, lH5⟩, ⟨kH6, lH6⟩, ⟨kH7, lH7⟩⟩ := hHA r hr
    obtain ⟨eH0, eH1, eH2, eH3⟩ := dH r hr
    have qH := LH7 r hr
    obtain ⟨kqH, lqH⟩ := LH6 (by omega)
    obtain ⟨vH0, vH0', vH1, vH1', -, vH2, vH2'⟩ := hW.2.2.2.2.1 r hr
    refine wpW (cs := []) (stop := [5]) (n := 200) (env_nil0 (env_hh rfl)) ?_
    simp only [↓wpN_S, ↓step_u, ↓stC_s, stC_s, ↓stF_u, stF_u, ↓stepI, lenI, ↓kN_u, isS, ↓gI_0, ↓gI_S, ↓gL_0, ↓gL_S, ↓gD_0, ↓gD_S, ↓gR_0, ↓gR_S, ↓sI_c, ↓sL_c, ↓sD_c, ↓sR_c, ↓s1_r, ↓s1_i, ↓vR_r, ↓vR_n, ↓s0_n, s0_n, ↓oR_u, ↓sP_u, ↓sPa_0, ↓sPa_S, ↓lkC_c, ↓callK_u, ↓cQ_s, ↓cQ_n, putL, putW, clr, kil, catS, catN, refF, booF, finF, nF, nmOf_0, nmOf_1, nmOf_2, nmOf_3, nmOf_4, nmOf_5, nmOf_6, nmOf_50, nmOf_51, nmOf_52, ↓reduceIte, reduceIte, Bool.false_eq_true, eq_self, true_or, or_true, true_and, and_true, false_or, or_false, Nat.reduceAdd, Nat.reduceSub, Nat.reduceEqDiff, Nat.reduceLT, Nat.reduceLeDiff, reduceCtorEq, true_implies, List.length_cons, List.length_nil, List.replicate, List.cons_append, List.nil_append, mrt_X1_cellOfShade, mhh_X1_cellOfShade, mow_X1_cellOfShade, mnl_X1_cellOfShade, DX1_cellOfShade_0, DX1_cellOfShade_1, DX1_cellOfShade_2, DX1_cellOfShade_3, DX1_cellOfShade_5, DX1_cellOfShade_7, DX1_cellOfShade_8, DX1_cellOfShade_11, DX1_cellOfShade_12, DX1_cellOfShade_15, DX1_cellOfShade_16, DX1_cellOfShade_19, DX1_cellOfShade_21, DX1_cellOfShade_22, DX1_cellOfShade_23, DX1_cellOfShade_26, DX1_cellOfShade_27, DX1_cellOfShade_28, DX1_cellOfShade_31, DX1_cellOfShade_33, DX1_cellOfShade_34, DX1_cellOfShade_37, DX1_cellOfShade_40, DX1_cellOfShade_43, DX1_cellOfShade_44]
    simp (disch := omega) only [i32_lit, i32_neg, i32_add, i32_mul, i32_sub, i32_nI, i32_lt, i32_le, i32_eq, inR_i, i32_clamp, i32_div, i32_max, i32_min, ite_max, ite_min, b2i_0, b2i_1, b2i_01, i32_toInt, tn_i, Int.toNat_natCast, em_t, true_and, and_true, Int.reduceToNat, Int.reduceLE, Int.reduceLT, Int.reduceAdd, Int.reduceMul, Int.reduceSub, Int.reduceNeg, Int.reduceEq, true_implies, not_true_eq_false, false_implies, not_false_eq_true, kC, rC0, rC1, rC2, rC3, rC4, kQ, rQ0, rQ1, kV, lV, kG, lG, kP, lP, kT, lT, LB1, LB2, LB3, LH1, LH2, LH3, LL1, LL2, LL3, dDy, dEv, true_and, and_true, Option.some.injEq, exists_eq_left', nmOf_0, nmOf_1, nmOf_2, nmOf_3, nmOf_4, nmOf_5, nmOf_6, Nat.add_sub_cancel, Nat.reduceSub, Nat.reduceLT, Nat.reduceEqDiff, ne_eq, not_false_eq_true, kH, rH5, rH6, rH7, rH8, rH12, kH4, lH4, kH5, lH5, kH6, lH6, kH7, lH7, eH0, eH1, eH2, eH3, qH, kqH, lqH, hb4]
    rw [show (n : Int) + 1 = ((n + 1 : Nat) : Int) by omega]
    refine ⟨by omega, by omega, fun z => by omega, fun _ => ⟨by omega, fun z => ?_, fun z => ⟨fun y => ?_, fun y => by have := hlt z; omega⟩⟩⟩
    · rw [if_neg z, Int.add_zero] at hs; exact hs
    · rw [if_pos z] at hs; exact hs
set_option maxRecDepth 100000 in
set_option maxHeartbeats 4000000 in
theorem ok_X1_cellOfShade (G : GT) (G : GT) (D : WD) (S : SS) (hW : WF S) : OKm G yX1_cellOfShade MX1_cellOfShade 0 0 0 (ct_X1_cellOfShade G D S) := by
  refine mkOK (ini := false) (by decide) rfl (by first | exact fun _ => rfl | (intro hh; cases hh)) (fun As h Q QX hc => ?_)
  replace hc := sR_e hc; obtain ⟨a, r, rfl, hc⟩ := hc
  replace hc := sI_e hc; obtain ⟨b, r, rfl, hc⟩ := hc
  replace hc := sI_e hc; obtain ⟨x, r, rfl, hc⟩ := hc
  replace hc := s0_e hc; obtain ⟨rfl, hc⟩ := hc
  obtain ⟨hD, r, hr, rfl, hM, c, hcc, h1, h2, hq⟩ := hc
  obtain ⟨bV, hbV, rfl⟩ := i32_all b
  obtain ⟨xV, hxV, rfl⟩ := i32_all x
  rw [i32_toInt hbV] at h1 h2
  rw [i32_toInt hxV] at h2
  have hz := lp_X1_cellOfShade (Q := Q) (QX := QX) G hW hr hcc hD hM hbV hxV h1 h2 hq c 0 (by omega)
  refine ⟨Nat.le_of_ble_eq_true rfl, ?_⟩
  simp only [ent, entL, catN, List.length_cons, List.length_nil, List.replicate, List.cons_append, List.nil_append, reduceIte, Nat.reduceEqDiff,  Nat.reduceAdd, Nat.reduceSub, mnl_X1_cellOfShade]
  refine wpW (cs := []) (stop := [5]) (n := 200) (env_nil0 (env_hh rfl)) ?_
  simp only [↓wpN_S, ↓step_u, ↓stC_s, stC_s, ↓stF_u, stF_u, ↓stepI, lenI, ↓kN_u, isS, ↓gI_0, ↓gI_S, ↓gL_0, ↓gL_S, ↓gD_0, ↓gD_S, ↓gR_0, ↓gR_S, ↓sI_c, ↓sL_c, ↓sD_c, ↓sR_c, ↓s1_r, ↓s1_i, ↓vR_r, ↓vR_n, ↓s0_n, s0_n, ↓oR_u, ↓sP_u, ↓sPa_0, ↓sPa_S, ↓lkC_c, ↓callK_u, ↓cQ_s, ↓cQ_n, putL, putW, clr, kil, catS, catN, refF, booF, finF, nF, nmOf_0, nmOf_1, nmOf_2, nmOf_3, nmOf_4, nmOf_5, nmOf_6, nmOf_50, nmOf_51, nmOf_52, ↓reduceIte, reduceIte, Bool.false_eq_true, eq_self, true_or, or_true, true_and, and_true, false_or, or_false, Nat.reduceAdd, Nat.reduceSub, Nat.reduceEqDiff, Nat.reduceLT, Nat.reduceLeDiff, reduceCtorEq, true_implies, List.length_cons, List.length_nil, List.replicate, List.cons_append, List.nil_append, mrt_X1_cellOfShade, mhh_X1_cellOfShade, mow_X1_cellOfShade, mnl_X1_cellOfShade, DX1_cellOfShade_0, DX1_cellOfShade_1, DX1_cellOfShade_2, DX1_cellOfShade_3, DX1_cellOfShade_5, DX1_cellOfShade_7, DX1_cellOfShade_8, DX1_cellOfShade_11, DX1_cellOfShade_12, DX1_cellOfShade_15, DX1_cellOfShade_16, DX1_cellOfShade_19, DX1_cellOfShade_21, DX1_cellOfShade_22, DX1_cellOfShade_23, DX1_cellOfShade_26, DX1_cellOfShade_27, DX1_cellOfShade_28, DX1_cellOfShade_31, DX1_cellOfShade_33, DX1_cellOfShade_34, DX1_cellOfShade_37, DX1_cellOfShade_40, DX1_cellOfShade_43, DX1_cellOfShade_44]
  exact hz
