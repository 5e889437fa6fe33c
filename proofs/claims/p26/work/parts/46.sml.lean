/-! ===== the class: small methods ===== -/
def CD (G : GT) (h : Hp) (D : WD) (S : SS) : Prop := CA G h D S ∧ CB h D S
theorem CD.fh {G : GT} {h h' : Hp} {D : WD} {S : SS} {r : Nat} (hD : CD G h D S) (hr : r < 12) (f : FH h h' D r) : CD G h' D S := ⟨hD.1.fh f, hD.2.fh hD.1 hr f⟩
abbrev cvx (S : SS) (b : Nat) (x y : Int) : Prop := S.bf b 0 ≤ x ∧ x < S.bf b 0 + S.bf b 2 ∧ S.bf b 1 ≤ y ∧ y < S.bf b 1 + S.bf b 3
def ct_X0_holds (G : GT) (D : WD) (S : SS) : Ct := fun As h Q _ => sR As fun a r => sI r fun x r => sI r fun y r => s0 r (CD G h D S ∧ ∃ b, b < S.nb ∧ a = D 1 b ∧ Q (some (.int (b2i (cvx S b x.toInt y.toInt)))) h)
def ce_X0_holds (G : GT) (D : WD) (S : SS) : CE := (0, yX0_holds, MX0_holds, 2, 0, 0, 0, ct_X0_holds G D S)
set_option maxRecDepth 100000 in
set_option maxHeartbeats 4000000 in
theorem ok_X0_holds (G : GT) (G : GT) (D : WD) (S : SS) (hW : WF S) : OKm G yX0_holds MX0_holds 0 0 0 (ct_X0_holds G D S) := by
  refine mkOK (ini := false) (by decide) rfl (by first | exact fun _ => rfl | (intro hh; cases hh)) (fun As h Q QX hc => ?_)
  replace hc := sR_e hc; obtain ⟨a, r, rfl, hc⟩ := hc
  replace hc := sI_e hc; obtain ⟨x, r, rfl, hc⟩ := hc
  replace hc := sI_e hc; obtain ⟨y, r, rfl, hc⟩ := hc
  replace hc := s0_e hc; obtain ⟨rfl, hc⟩ := hc
  obtain ⟨hD, b, hb, rfl, hq⟩ := hc
  obtain ⟨xV, hxV, rfl⟩ := i32_all x
  obtain ⟨yV, hyV, rfl⟩ := i32_all y
  rw [i32_toInt hxV, i32_toInt hyV] at hq
  unfold cvx at hq
  have hA0 := hD.1
  have hB0 := hD.2
  obtain ⟨⟨kC, rC0, rC1, rC2, rC3, rC4⟩, ⟨kQ, rQ0, rQ1⟩, ⟨kV, lV⟩, ⟨kG, lG⟩, ⟨kP, lP⟩, ⟨kT, lT⟩, ⟨⟨LB1, LB2, LB3, LB4, LB5, LB6, LB7⟩, ⟨LH1, LH2, LH3, LH4, LH5, LH6, LH7⟩, ⟨LL1, LL2, LL3, LL4, LL5, LL6, LL7⟩⟩, hKB, hHA, hKL, hCJ⟩ := hA0
  obtain ⟨dDy, dEv, dG, dP, dV, dB, dL, dH⟩ := hB0
  have hnb := hW.1
  have hnl := hW.2.1
  have kB := hKB b hb
  obtain ⟨eB0, eB1, eB2, eB3, eB4, eB5, eB6, eB7⟩ := dB b hb
  have qB := LB7 b hb
  obtain ⟨kqB, lqB⟩ := LB6 (by omega)
  obtain ⟨vB0, vB2, vB2', vB02, vB1, vB3, vB3', vB13, vB4, vB4', vB5, vB5', vB6⟩ := hW.2.2.1 b hb
  refine ⟨Nat.le_of_ble_eq_true rfl, ?_⟩
  simp only [ent, entL, catN, List.length_cons, List.length_nil, List.replicate, List.cons_append, List.nil_append, reduceIte, Nat.reduceEqDiff,  Nat.reduceAdd, Nat.reduceSub, mnl_X0_holds]
  refine wpW (cs := []) (stop := []) (n := 200) (env_nil0 (env_hh rfl)) ?_
  simp only [↓wpN_S, ↓step_u, ↓stC_s, stC_s, ↓stF_u, stF_u, ↓stepI, lenI, ↓kN_u, isS, ↓gI_0, ↓gI_S, ↓gL_0, ↓gL_S, ↓gD_0, ↓gD_S, ↓gR_0, ↓gR_S, ↓sI_c, ↓sL_c, ↓sD_c, ↓sR_c, ↓s1_r, ↓s1_i, ↓vR_r, ↓vR_n, ↓s0_n, s0_n, ↓oR_u, ↓sP_u, ↓sPa_0, ↓sPa_S, ↓lkC_c, ↓callK_u, ↓cQ_s, ↓cQ_n, putL, putW, clr, kil, catS, catN, refF, booF, finF, nF, nmOf_0, nmOf_1, nmOf_2, nmOf_3, nmOf_4, nmOf_5, nmOf_6, nmOf_50, nmOf_51, nmOf_52, ↓reduceIte, reduceIte, Bool.false_eq_true, eq_self, true_or, or_true, true_and, and_true, false_or, or_false, Nat.reduceAdd, Nat.reduceSub, Nat.reduceEqDiff, Nat.reduceLT, Nat.reduceLeDiff, reduceCtorEq, true_implies, List.length_cons, List.length_nil, List.replicate, List.cons_append, List.nil_append, mrt_X0_holds, mhh_X0_holds, mow_X0_holds, mnl_X0_holds, DX0_holds_0, DX0_holds_1, DX0_holds_2, DX0_holds_5, DX0_holds_8, DX0_holds_9, DX0_holds_10, DX0_holds_13, DX0_holds_14, DX0_holds_17, DX0_holds_18, DX0_holds_21, DX0_holds_22, DX0_holds_23, DX0_holds_26, DX0_holds_29, DX0_holds_30, DX0_holds_31, DX0_holds_34, DX0_holds_35, DX0_holds_38, DX0_holds_39, DX0_holds_42, DX0_holds_43, DX0_holds_46, DX0_holds_47]
  simp (disch := omega) only [i32_lit, i32_neg, i32_add, i32_mul, i32_sub, i32_nI, i32_lt, i32_le, i32_eq, inR_i, i32_clamp, i32_div, i32_max, i32_min, ite_max, ite_min, b2i_0, b2i_1, b2i_01, i32_toInt, tn_i, Int.toNat_natCast, em_t, true_and, and_true, Int.reduceToNat, Int.reduceLE, Int.reduceLT, Int.reduceAdd, Int.reduceMul, Int.reduceSub, Int.reduceNeg, Int.reduceEq, true_implies, not_true_eq_false, false_implies, not_false_eq_true, kC, rC0, rC1, rC2, rC3, rC4, kQ, rQ0, rQ1, kV, lV, kG, lG, kP, lP, kT, lT, LB1, LB2, LB3, LH1, LH2, LH3, LL1, LL2, LL3, dDy, dEv, true_and, and_true, Option.some.injEq, exists_eq_left', nmOf_0, nmOf_1, nmOf_2, nmOf_3, nmOf_4, nmOf_5, nmOf_6, Nat.add_sub_cancel, Nat.reduceSub, Nat.reduceLT, Nat.reduceEqDiff, ne_eq, not_false_eq_true, kB, eB0, eB1, eB2, eB3, eB4, eB5, eB6, eB7, qB, kqB, lqB]
  refine ⟨fun h1 => Qb0 hq (by omega), fun h1 => ⟨fun h2 => Qb0 hq (by omega), fun h2 => ⟨fun h3 => Qb0 hq (by omega), fun h3 => ⟨fun h4 => Qb0 hq (by omega), fun h4 => Qb1 hq (by omega)⟩⟩⟩⟩
def ct_X2_asksIn (G : GT) (D : WD) (S : SS) : Ct := fun As h Q _ => sR As fun a r => sI r fun x r => s0 r (CD G h D S ∧ (0 ≤ x.toInt ∧ x.toInt < 12) ∧ ∃ l, l < S.nl ∧ a = D 3 l ∧ Q (some (.int (b2i (hasH S l (tn x) = true)))) h)
def ce_X2_asksIn (G : GT) (D : WD) (S : SS) : CE := (0, yX2_asksIn, MX2_asksIn, 1, 0, 0, 0, ct_X2_asksIn G D S)
set_option maxRecDepth 100000 in
set_option maxHeartbeats 4000000 in
theorem ok_X2_asksIn (G : GT) (G : GT) (D : WD) (S : SS) (hW : WF S) : OKm G yX2_asksIn MX2_asksIn 0 0 0 (ct_X2_asksIn G D S) := by
  refine mkOK (ini := false) (by decide) rfl (by first | exact fun _ => rfl | (intro hh; cases hh)) (fun As h Q QX hc => ?_)
  replace hc := sR_e hc; obtain ⟨a, r, rfl, hc⟩ := hc
  replace hc := sI_e hc; obtain ⟨x, r, rfl, hc⟩ := hc
  replace hc := s0_e hc; obtain ⟨rfl, hc⟩ := hc
  obtain ⟨hD, hx, l, hl, rfl, hq⟩ := hc
  obtain ⟨xV, hxV, rfl⟩ := i32_all x
  rw [i32_toInt hxV] at hx
  obtain ⟨r, rfl⟩ := Int.eq_ofNat_of_zero_le hx.1
  rw [tn_i hxV, Int.toNat_natCast] at hq
  unfold hasH at hq
  simp only [decide_eq_true_eq] at hq
  have hA0 := hD.1
  have hB0 := hD.2
  obtain ⟨⟨kC, rC0, rC1, rC2, rC3, rC4⟩, ⟨kQ, rQ0, rQ1⟩, ⟨kV, lV⟩, ⟨kG, lG⟩, ⟨kP, lP⟩, ⟨kT, lT⟩, ⟨⟨LB1, LB2, LB3, LB4, LB5, LB6, LB7⟩, ⟨LH1, LH2, LH3, LH4, LH5, LH6, LH7⟩, ⟨LL1, LL2, LL3, LL4, LL5, LL6, LL7⟩⟩, hKB, hHA, hKL, hCJ⟩ := hA0
  obtain ⟨dDy, dEv, dG, dP, dV, dB, dL, dH⟩ := hB0
  have hnb := hW.1
  have hnl := hW.2.1
  have kL := hKL l hl
  obtain ⟨eL0, eL1, eL2, eL3, eL4, eL5, eL6, eL7, eL8, eL9⟩ := dL l hl
  have qL := LL7 l hl
  obtain ⟨kqL, lqL⟩ := LL6 (by omega)
  obtain ⟨vL0, vL0', vL1, vL1', vL2, vL2', vL3, vL4, vL4', vL5, vL5', vL6, vL7, vL7'⟩ := hW.2.2.2.1 l hl
  refine ⟨Nat.le_of_ble_eq_true rfl, ?_⟩
  simp only [ent, entL, catN, List.length_cons, List.length_nil, List.replicate, List.cons_append, List.nil_append, reduceIte, Nat.reduceEqDiff,  Nat.reduceAdd, Nat.reduceSub, mnl_X2_asksIn]
  refine wpW (cs := []) (stop := []) (n := 200) (env_nil0 (env_hh rfl)) ?_
  simp only [↓wpN_S, ↓step_u, ↓stC_s, stC_s, ↓stF_u, stF_u, ↓stepI, lenI, ↓kN_u, isS, ↓gI_0, ↓gI_S, ↓gL_0, ↓gL_S, ↓gD_0, ↓gD_S, ↓gR_0, ↓gR_S, ↓sI_c, ↓sL_c, ↓sD_c, ↓sR_c, ↓s1_r, ↓s1_i, ↓vR_r, ↓vR_n, ↓s0_n, s0_n, ↓oR_u, ↓sP_u, ↓sPa_0, ↓sPa_S, ↓lkC_c, ↓callK_u, ↓cQ_s, ↓cQ_n, putL, putW, clr, kil, catS, catN, refF, booF, finF, nF, nmOf_0, nmOf_1, nmOf_2, nmOf_3, nmOf_4, nmOf_5, nmOf_6, nmOf_50, nmOf_51, nmOf_52, ↓reduceIte, reduceIte, Bool.false_eq_true, eq_self, true_or, or_true, true_and, and_true, false_or, or_false, Nat.reduceAdd, Nat.reduceSub, Nat.reduceEqDiff, Nat.reduceLT, Nat.reduceLeDiff, reduceCtorEq, true_implies, List.length_cons, List.length_nil, List.replicate, List.cons_append, List.nil_append, mrt_X2_asksIn, mhh_X2_asksIn, mow_X2_asksIn, mnl_X2_asksIn, DX2_asksIn_0, DX2_asksIn_1, DX2_asksIn_4, DX2_asksIn_7, DX2_asksIn_8, DX2_asksIn_9, DX2_asksIn_12, DX2_asksIn_15, DX2_asksIn_16, DX2_asksIn_17, DX2_asksIn_20, DX2_asksIn_23, DX2_asksIn_24, DX2_asksIn_27, DX2_asksIn_28]
  simp (disch := omega) only [i32_lit, i32_neg, i32_add, i32_mul, i32_sub, i32_nI, i32_lt, i32_le, i32_eq, inR_i, i32_clamp, i32_div, i32_max, i32_min, ite_max, ite_min, b2i_0, b2i_1, b2i_01, i32_toInt, tn_i, Int.toNat_natCast, em_t, true_and, and_true, Int.reduceToNat, Int.reduceLE, Int.reduceLT, Int.reduceAdd, Int.reduceMul, Int.reduceSub, Int.reduceNeg, Int.reduceEq, true_implies, not_true_eq_false, false_implies, not_false_eq_true, kC, rC0, rC1, rC2, rC3, rC4, kQ, rQ0, rQ1, kV, lV, kG, lG, kP, lP, kT, lT, LB1, LB2, LB3, LH1, LH2, LH3, LL1, LL2, LL3, dDy, dEv, true_and, and_true, Option.some.injEq, exists_eq_left', nmOf_0, nmOf_1, nmOf_2, nmOf_3, nmOf_4, nmOf_5, nmOf_6, Nat.add_sub_cancel, Nat.reduceSub, Nat.reduceLT, Nat.reduceEqDiff, ne_eq, not_false_eq_true, kL, eL0, eL1, eL2, eL3, eL4, eL5, eL6, eL7, eL8, eL9, qL, kqL, lqL]
  refine ⟨fun h1 => Qb0 hq (by omega), fun h1 => ⟨fun h2 => Qb0 hq (by omega), fun h2 => ⟨fun h3 => Qb0 hq (by omega), fun h3 => Qb1 hq (by omega)⟩⟩⟩
abbrev cbf (S : SS) (l l' : Nat) : Prop := S.lf l 5 > S.lf l' 5 ∨ S.lf l 5 = S.lf l' 5 ∧ l < l'
def ct_X2_comesBefore (G : GT) (D : WD) (S : SS) : Ct := fun As h Q _ => sR As fun a r => sR r fun a' r => s0 r (CD G h D S ∧ ∃ l l', l < S.nl ∧ l' < S.nl ∧ a = D 3 l ∧ a' = D 3 l' ∧ Q (some (.int (b2i (cbf S l l')))) h)
def ce_X2_comesBefore (G : GT) (D : WD) (S : SS) : CE := (0, yX2_comesBefore, MX2_comesBefore, 1, 0, 0, 0, ct_X2_comesBefore G D S)
set_option maxRecDepth 100000 in
set_option maxHeartbeats 4000000 in
theorem ok_X2_comesBefore (G : GT) (G : GT) (D : WD) (S : SS) (hW : WF S) : OKm G yX2_comesBefore MX2_comesBefore 0 0 0 (ct_X2_comesBefore G D S) := by
  refine mkOK (ini := false) (by decide) rfl (by first | exact fun _ => rfl | (intro hh; cases hh)) (fun As h Q QX hc => ?_)
  replace hc := sR_e hc; obtain ⟨a, r, rfl, hc⟩ := hc
  replace hc := sR_e hc; obtain ⟨a', r, rfl, hc⟩ := hc
  replace hc := s0_e hc; obtain ⟨rfl, hc⟩ := hc
  obtain ⟨hD, l, l', hl, hl', rfl, rfl, hq⟩ := hc
  unfold cbf at hq
  have hA0 := hD.1
  have hB0 := hD.2
  obtain ⟨⟨kC, rC0, rC1, rC2, rC3, rC4⟩, ⟨kQ, rQ0, rQ1⟩, ⟨kV, lV⟩, ⟨kG, lG⟩, ⟨kP, lP⟩, ⟨kT, lT⟩, ⟨⟨LB1, LB2, LB3, LB4, LB5, LB6, LB7⟩, ⟨LH1, LH2, LH3, LH4, LH5, LH6, LH7⟩, ⟨LL1, LL2, LL3, LL4, LL5, LL6, LL7⟩⟩, hKB, hHA, hKL, hCJ⟩ := hA0
  obtain ⟨dDy, dEv, dG, dP, dV, dB, dL, dH⟩ := hB0
  have hnb := hW.1
  have hnl := hW.2.1
  obtain ⟨f0, f1, f2, f3, f4, f5, f6, f7, f8, f9⟩ := dL l' hl'
  have kL' := hKL l' hl'
  have w := hW.2.2.2.1 l' hl'
  have kL := hKL l hl
  obtain ⟨eL0, eL1, eL2, eL3, eL4, eL5, eL6, eL7, eL8, eL9⟩ := dL l hl
  have qL := LL7 l hl
  obtain ⟨kqL, lqL⟩ := LL6 (by omega)
  obtain ⟨vL0, vL0', vL1, vL1', vL2, vL2', vL3, vL4, vL4', vL5, vL5', vL6, vL7, vL7'⟩ := hW.2.2.2.1 l hl
  refine ⟨Nat.le_of_ble_eq_true rfl, ?_⟩
  simp only [ent, entL, catN, List.length_cons, List.length_nil, List.replicate, List.cons_append, List.nil_append, reduceIte, Nat.reduceEqDiff,  Nat.reduceAdd, Nat.reduceSub, mnl_X2_comesBefore]
  refine wpW (cs := []) (stop := []) (n := 200) (env_nil0 (env_hh rfl)) ?_
  simp only [↓wpN_S, ↓step_u, ↓stC_s, stC_s, ↓stF_u, stF_u, ↓stepI, lenI, ↓kN_u, isS, ↓gI_0, ↓gI_S, ↓gL_0, ↓gL_S, ↓gD_0, ↓gD_S, ↓gR_0, ↓gR_S, ↓sI_c, ↓sL_c, ↓sD_c, ↓sR_c, ↓s1_r, ↓s1_i, ↓vR_r, ↓vR_n, ↓s0_n, s0_n, ↓oR_u, ↓sP_u, ↓sPa_0, ↓sPa_S, ↓lkC_c, ↓callK_u, ↓cQ_s, ↓cQ_n, putL, putW, clr, kil, catS, catN, refF, booF, finF, nF, nmOf_0, nmOf_1, nmOf_2, nmOf_3, nmOf_4, nmOf_5, nmOf_6, nmOf_50, nmOf_51, nmOf_52, ↓reduceIte, reduceIte, Bool.false_eq_true, eq_self, true_or, or_true, true_and, and_true, false_or, or_false, Nat.reduceAdd, Nat.reduceSub, Nat.reduceEqDiff, Nat.reduceLT, Nat.reduceLeDiff, reduceCtorEq, true_implies, List.length_cons, List.length_nil, List.replicate, List.cons_append, List.nil_append, mrt_X2_comesBefore, mhh_X2_comesBefore, mow_X2_comesBefore, mnl_X2_comesBefore, DX2_comesBefore_0, DX2_comesBefore_1, DX2_comesBefore_4, DX2_comesBefore_5, DX2_comesBefore_8, DX2_comesBefore_11, DX2_comesBefore_12, DX2_comesBefore_15, DX2_comesBefore_16, DX2_comesBefore_19, DX2_comesBefore_22, DX2_comesBefore_23, DX2_comesBefore_26, DX2_comesBefore_27, DX2_comesBefore_30, DX2_comesBefore_33, DX2_comesBefore_34, DX2_comesBefore_37, DX2_comesBefore_38]
  simp (disch := omega) only [i32_lit, i32_neg, i32_add, i32_mul, i32_sub, i32_nI, i32_lt, i32_le, i32_eq, inR_i, i32_clamp, i32_div, i32_max, i32_min, ite_max, ite_min, b2i_0, b2i_1, b2i_01, i32_toInt, tn_i, Int.toNat_natCast, em_t, true_and, and_true, Int.reduceToNat, Int.reduceLE, Int.reduceLT, Int.reduceAdd, Int.reduceMul, Int.reduceSub, Int.reduceNeg, Int.reduceEq, true_implies, not_true_eq_false, false_implies, not_false_eq_true, kC, rC0, rC1, rC2, rC3, rC4, kQ, rQ0, rQ1, kV, lV, kG, lG, kP, lP, kT, lT, LB1, LB2, LB3, LH1, LH2, LH3, LL1, LL2, LL3, dDy, dEv, true_and, and_true, Option.some.injEq, exists_eq_left', nmOf_0, nmOf_1, nmOf_2, nmOf_3, nmOf_4, nmOf_5, nmOf_6, Nat.add_sub_cancel, Nat.reduceSub, Nat.reduceLT, Nat.reduceEqDiff, ne_eq, not_false_eq_true, kL, eL0, eL1, eL2, eL3, eL4, eL5, eL6, eL7, eL8, eL9, qL, kqL, lqL, f0, f6, kL']
  refine ⟨fun h1 => Qb1 hq (by omega), fun h1 => ⟨fun h2 => Qb0 hq (by omega), fun h2 => ⟨fun h3 => Qb0 hq (by omega), fun h3 => Qb1 hq (by omega)⟩⟩⟩
def ct_X2_hourCount (G : GT) (D : WD) (S : SS) : Ct := fun As h Q _ => sR As fun a r => s0 r (CD G h D S ∧ ∃ l, l < S.nl ∧ a = D 3 l ∧ Q (some (.int (i32 (S.lf l 3 - S.lf l 2 + 1)))) h)
def ce_X2_hourCount (G : GT) (D : WD) (S : SS) : CE := (0, yX2_hourCount, MX2_hourCount, 0, 0, 0, 0, ct_X2_hourCount G D S)
set_option maxRecDepth 100000 in
set_option maxHeartbeats 4000000 in
theorem ok_X2_hourCount (G : GT) (G : GT) (D : WD) (S : SS) (hW : WF S) : OKm G yX2_hourCount MX2_hourCount 0 0 0 (ct_X2_hourCount G D S) := by
  refine mkOK (ini := false) (by decide) rfl (by first | exact fun _ => rfl | (intro hh; cases hh)) (fun As h Q QX hc => ?_)
  replace hc := sR_e hc; obtain ⟨a, r, rfl, hc⟩ := hc
  replace hc := s0_e hc; obtain ⟨rfl, hc⟩ := hc
  obtain ⟨hD, l, hl, rfl, hq⟩ := hc
  have hA0 := hD.1
  have hB0 := hD.2
  obtain ⟨⟨kC, rC0, rC1, rC2, rC3, rC4⟩, ⟨kQ, rQ0, rQ1⟩, ⟨kV, lV⟩, ⟨kG, lG⟩, ⟨kP, lP⟩, ⟨kT, lT⟩, ⟨⟨LB1, LB2, LB3, LB4, LB5, LB6, LB7⟩, ⟨LH1, LH2, LH3, LH4, LH5, LH6, LH7⟩, ⟨LL1, LL2, LL3, LL4, LL5, LL6, LL7⟩⟩, hKB, hHA, hKL, hCJ⟩ := hA0
  obtain ⟨dDy, dEv, dG, dP, dV, dB, dL, dH⟩ := hB0
  have hnb := hW.1
  have hnl := hW.2.1
  have kL := hKL l hl
  obtain ⟨eL0, eL1, eL2, eL3, eL4, eL5, eL6, eL7, eL8, eL9⟩ := dL l hl
  have qL := LL7 l hl
  obtain ⟨kqL, lqL⟩ := LL6 (by omega)
  obtain ⟨vL0, vL0', vL1, vL1', vL2, vL2', vL3, vL4, vL4', vL5, vL5', vL6, vL7, vL7'⟩ := hW.2.2.2.1 l hl
  refine ⟨Nat.le_of_ble_eq_true rfl, ?_⟩
  simp only [ent, entL, catN, List.length_cons, List.length_nil, List.replicate, List.cons_append, List.nil_append, reduceIte, Nat.reduceEqDiff,  Nat.reduceAdd, Nat.reduceSub, mnl_X2_hourCount]
  refine wpW (cs := []) (stop := []) (n := 200) (env_nil0 (env_hh rfl)) ?_
  simp only [↓wpN_S, ↓step_u, ↓stC_s, stC_s, ↓stF_u, stF_u, ↓stepI, lenI, ↓kN_u, isS, ↓gI_0, ↓gI_S, ↓gL_0, ↓gL_S, ↓gD_0, ↓gD_S, ↓gR_0, ↓gR_S, ↓sI_c, ↓sL_c, ↓sD_c, ↓sR_c, ↓s1_r, ↓s1_i, ↓vR_r, ↓vR_n, ↓s0_n, s0_n, ↓oR_u, ↓sP_u, ↓sPa_0, ↓sPa_S, ↓lkC_c, ↓callK_u, ↓cQ_s, ↓cQ_n, putL, putW, clr, kil, catS, catN, refF, booF, finF, nF, nmOf_0, nmOf_1, nmOf_2, nmOf_3, nmOf_4, nmOf_5, nmOf_6, nmOf_50, nmOf_51, nmOf_52, ↓reduceIte, reduceIte, Bool.false_eq_true, eq_self, true_or, or_true, true_and, and_true, false_or, or_false, Nat.reduceAdd, Nat.reduceSub, Nat.reduceEqDiff, Nat.reduceLT, Nat.reduceLeDiff, reduceCtorEq, true_implies, List.length_cons, List.length_nil, List.replicate, List.cons_append, List.nil_append, mrt_X2_hourCount, mhh_X2_hourCount, mow_X2_hourCount, mnl_X2_hourCount, DX2_hourCount_0, DX2_hourCount_1, DX2_hourCount_4, DX2_hourCount_5, DX2_hourCount_8, DX2_hourCount_9, DX2_hourCount_10, DX2_hourCount_11]
  simp (disch := omega) only [i32_lit, i32_neg, i32_add, i32_mul, i32_sub, i32_nI, i32_lt, i32_le, i32_eq, inR_i, i32_clamp, i32_div, i32_max, i32_min, ite_max, ite_min, b2i_0, b2i_1, b2i_01, i32_toInt, tn_i, Int.toNat_natCast, em_t, true_and, and_true, Int.reduceToNat, Int.reduceLE, Int.reduceLT, Int.reduceAdd, Int.reduceMul, Int.reduceSub, Int.reduceNeg, Int.reduceEq, true_implies, not_true_eq_false, false_implies, not_false_eq_true, kC, rC0, rC1, rC2, rC3, rC4, kQ, rQ0, rQ1, kV, lV, kG, lG, kP, lP, kT, lT, LB1, LB2, LB3, LH1, LH2, LH3, LL1, LL2, LL3, dDy, dEv, true_and, and_true, Option.some.injEq, exists_eq_left', nmOf_0, nmOf_1, nmOf_2, nmOf_3, nmOf_4, nmOf_5, nmOf_6, Nat.add_sub_cancel, Nat.reduceSub, Nat.reduceLT, Nat.reduceEqDiff, ne_eq, not_false_eq_true, kL, eL0, eL1, eL2, eL3, eL4, eL5, eL6, eL7, eL8, eL9, qL, kqL, lqL]
  exact hq
def ct_X1_areaOf (G : GT) (D : WD) (S : SS) : Ct := fun As h Q _ => sR As fun a r => sI r fun x r => s0 r (CD G h D S ∧ (0 ≤ x.toInt ∧ x.toInt < 12) ∧ ∃ r, r < 12 ∧ a = D 2 r ∧ HM h D S r ∧ Q (some (.int (i32 (area S x.toInt r)))) h)
def ce_X1_areaOf (G : GT) (D : WD) (S : SS) : CE := (0, yX1_areaOf, MX1_areaOf, 1, 0, 0, 0, ct_X1_areaOf G D S)
set_option maxRecDepth 100000 in
set_option maxHeartbeats 4000000 in
theorem ok_X1_areaOf (G : GT) (G : GT) (D : WD) (S : SS) (hW : WF S) : OKm G yX1_areaOf MX1_areaOf 0 0 0 (ct_X1_areaOf G D S) := by
  refine mkOK (ini := false) (by decide) rfl (by first | exact fun _ => rfl | (intro hh; cases hh)) (fun As h Q QX hc => ?_)
  replace hc := sR_e hc; obtain ⟨a, r, rfl, hc⟩ := hc
  replace hc := sI_e hc; obtain ⟨x, r, rfl, hc⟩ := hc
  replace hc := s0_e hc; obtain ⟨rfl, hc⟩ := hc
  obtain ⟨hD, hx, r, hr, rfl, hM, hq⟩ := hc
  obtain ⟨xV, hxV, rfl⟩ := i32_all x
  rw [i32_toInt hxV] at hx hq
  obtain ⟨b, rfl⟩ := Int.eq_ofNat_of_zero_le hx.1
  have hAb := hM.2.1 b (by omega)
  have hA0 := hD.1
  have hB0 := hD.2
  obtain ⟨⟨kC, rC0, rC1, rC2, rC3, rC4⟩, ⟨kQ, rQ0, rQ1⟩, ⟨kV, lV⟩, ⟨kG, lG⟩, ⟨kP, lP⟩, ⟨kT, lT⟩, ⟨⟨LB1, LB2, LB3, LB4, LB5, LB6, LB7⟩, ⟨LH1, LH2, LH3, LH4, LH5, LH6, LH7⟩, ⟨LL1, LL2, LL3, LL4, LL5, LL6, LL7⟩⟩, hKB, hHA, hKL, hCJ⟩ := hA0
  obtain ⟨dDy, dEv, dG, dP, dV, dB, dL, dH⟩ := hB0
  have hnb := hW.1
  have hnl := hW.2.1
  obtain ⟨kH, ⟨rH5, rH6, rH7, rH8, rH12⟩, ⟨kH4, lH4⟩, ⟨kH5, lH5⟩, ⟨kH6, lH6⟩, ⟨kH7, lH7⟩⟩ := hHA r hr
  obtain ⟨eH0, eH1, eH2, eH3⟩ := dH r hr
  have qH := LH7 r hr
  obtain ⟨kqH, lqH⟩ := LH6 (by omega)
  obtain ⟨vH0, vH0', vH1, vH1', -, vH2, vH2'⟩ := hW.2.2.2.2.1 r hr
  refine ⟨Nat.le_of_ble_eq_true rfl, ?_⟩
  simp only [ent, entL, catN, List.length_cons, List.length_nil, List.replicate, List.cons_append, List.nil_append, reduceIte, Nat.reduceEqDiff,  Nat.reduceAdd, Nat.reduceSub, mnl_X1_areaOf]
  refine wpW (cs := []) (stop := []) (n := 200) (env_nil0 (env_hh rfl)) ?_
  simp only [↓wpN_S, ↓step_u, ↓stC_s, stC_s, ↓stF_u, stF_u, ↓stepI, lenI, ↓kN_u, isS, ↓gI_0, ↓gI_S, ↓gL_0, ↓gL_S, ↓gD_0, ↓gD_S, ↓gR_0, ↓gR_S, ↓sI_c, ↓sL_c, ↓sD_c, ↓sR_c, ↓s1_r, ↓s1_i, ↓vR_r, ↓vR_n, ↓s0_n, s0_n, ↓oR_u, ↓sP_u, ↓sPa_0, ↓sPa_S, ↓lkC_c, ↓callK_u, ↓cQ_s, ↓cQ_n, putL, putW, clr, kil, catS, catN, refF, booF, finF, nF, nmOf_0, nmOf_1, nmOf_2, nmOf_3, nmOf_4, nmOf_5, nmOf_6, nmOf_50, nmOf_51, nmOf_52, ↓reduceIte, reduceIte, Bool.false_eq_true, eq_self, true_or, or_true, true_and, and_true, false_or, or_false, Nat.reduceAdd, Nat.reduceSub, Nat.reduceEqDiff, Nat.reduceLT, Nat.reduceLeDiff, reduceCtorEq, true_implies, List.length_cons, List.length_nil, List.replicate, List.cons_append, List.nil_append, mrt_X1_areaOf, mhh_X1_areaOf, mow_X1_areaOf, mnl_X1_areaOf, DX1_areaOf_0, DX1_areaOf_1, DX1_areaOf_4, DX1_areaOf_5, DX1_areaOf_6, DX1_areaOf_9, DX1_areaOf_10, DX1_areaOf_13, DX1_areaOf_14, DX1_areaOf_17, DX1_areaOf_18, DX1_areaOf_19, DX1_areaOf_22, DX1_areaOf_23]
  simp (disch := omega) only [i32_lit, i32_neg, i32_add, i32_mul, i32_sub, i32_nI, i32_lt, i32_le, i32_eq, inR_i, i32_clamp, i32_div, i32_max, i32_min, ite_max, ite_min, b2i_0, b2i_1, b2i_01, i32_toInt, tn_i, Int.toNat_natCast, em_t, true_and, and_true, Int.reduceToNat, Int.reduceLE, Int.reduceLT, Int.reduceAdd, Int.reduceMul, Int.reduceSub, Int.reduceNeg, Int.reduceEq, true_implies, not_true_eq_false, false_implies, not_false_eq_true, kC, rC0, rC1, rC2, rC3, rC4, kQ, rQ0, rQ1, kV, lV, kG, lG, kP, lP, kT, lT, LB1, LB2, LB3, LH1, LH2, LH3, LL1, LL2, LL3, dDy, dEv, true_and, and_true, Option.some.injEq, exists_eq_left', nmOf_0, nmOf_1, nmOf_2, nmOf_3, nmOf_4, nmOf_5, nmOf_6, Nat.add_sub_cancel, Nat.reduceSub, Nat.reduceLT, Nat.reduceEqDiff, ne_eq, not_false_eq_true, kH, rH5, rH6, rH7, rH8, rH12, kH4, lH4, kH5, lH5, kH6, lH6, kH7, lH7, eH0, eH1, eH2, eH3, qH, kqH, lqH, hAb]
  exact ⟨fun h1 => by omega, fun h1 => ⟨by omega, by omega, fun h2 => by omega, fun h2 => ⟨by omega, hq⟩⟩⟩
def ct_X1_givenTo (G : GT) (D : WD) (S : SS) : Ct := fun As h Q _ => sR As fun a r => sI r fun x r => s0 r (CD G h D S ∧ (0 ≤ x.toInt ∧ x.toInt < S.nl) ∧ ∃ r, r < 12 ∧ a = D 2 r ∧ HL h D S r ∧ Q (some (.int (i32 (gts S (tn x) r)))) h)
def ce_X1_givenTo (G : GT) (D : WD) (S : SS) : CE := (0, yX1_givenTo, MX1_givenTo, 1, 0, 0, 0, ct_X1_givenTo G D S)
set_option maxRecDepth 100000 in
set_option maxHeartbeats 4000000 in
theorem ok_X1_givenTo (G : GT) (G : GT) (D : WD) (S : SS) (hW : WF S) : OKm G yX1_givenTo MX1_givenTo 0 0 0 (ct_X1_givenTo G D S) := by
  refine mkOK (ini := false) (by decide) rfl (by first | exact fun _ => rfl | (intro hh; cases hh)) (fun As h Q QX hc => ?_)
  replace hc := sR_e hc; obtain ⟨a, r, rfl, hc⟩ := hc
  replace hc := sI_e hc; obtain ⟨x, r, rfl, hc⟩ := hc
  replace hc := s0_e hc; obtain ⟨rfl, hc⟩ := hc
  obtain ⟨hD, hx, r, hr, rfl, hM, hq⟩ := hc
  obtain ⟨xV, hxV, rfl⟩ := i32_all x
  rw [i32_toInt hxV] at hx
  rw [tn_i hxV] at hq
  obtain ⟨l, rfl⟩ := Int.eq_ofNat_of_zero_le hx.1
  rw [Int.toNat_natCast] at hq
  have hAb := hM.1 l (by omega)
  have hA0 := hD.1
  have hB0 := hD.2
  obtain ⟨⟨kC, rC0, rC1, rC2, rC3, rC4⟩, ⟨kQ, rQ0, rQ1⟩, ⟨kV, lV⟩, ⟨kG, lG⟩, ⟨kP, lP⟩, ⟨kT, lT⟩, ⟨⟨LB1, LB2, LB3, LB4, LB5, LB6, LB7⟩, ⟨LH1, LH2, LH3, LH4, LH5, LH6, LH7⟩, ⟨LL1, LL2, LL3, LL4, LL5, LL6, LL7⟩⟩, hKB, hHA, hKL, hCJ⟩ := hA0
  obtain ⟨dDy, dEv, dG, dP, dV, dB, dL, dH⟩ := hB0
  have hnb := hW.1
  have hnl := hW.2.1
  obtain ⟨kH, ⟨rH5, rH6, rH7, rH8, rH12⟩, ⟨kH4, lH4⟩, ⟨kH5, lH5⟩, ⟨kH6, lH6⟩, ⟨kH7, lH7⟩⟩ := hHA r hr
  obtain ⟨eH0, eH1, eH2, eH3⟩ := dH r hr
  have qH := LH7 r hr
  obtain ⟨kqH, lqH⟩ := LH6 (by omega)
  obtain ⟨vH0, vH0', vH1, vH1', -, vH2, vH2'⟩ := hW.2.2.2.2.1 r hr
  refine ⟨Nat.le_of_ble_eq_true rfl, ?_⟩
  simp only [ent, entL, catN, List.length_cons, List.length_nil, List.replicate, List.cons_append, List.nil_append, reduceIte, Nat.reduceEqDiff,  Nat.reduceAdd, Nat.reduceSub, mnl_X1_givenTo]
  refine wpW (cs := []) (stop := []) (n := 200) (env_nil0 (env_hh rfl)) ?_
  simp only [↓wpN_S, ↓step_u, ↓stC_s, stC_s, ↓stF_u, stF_u, ↓stepI, lenI, ↓kN_u, isS, ↓gI_0, ↓gI_S, ↓gL_0, ↓gL_S, ↓gD_0, ↓gD_S, ↓gR_0, ↓gR_S, ↓sI_c, ↓sL_c, ↓sD_c, ↓sR_c, ↓s1_r, ↓s1_i, ↓vR_r, ↓vR_n, ↓s0_n, s0_n, ↓oR_u, ↓sP_u, ↓sPa_0, ↓sPa_S, ↓lkC_c, ↓callK_u, ↓cQ_s, ↓cQ_n, putL, putW, clr, kil, catS, catN, refF, booF, finF, nF, nmOf_0, nmOf_1, nmOf_2, nmOf_3, nmOf_4, nmOf_5, nmOf_6, nmOf_50, nmOf_51, nmOf_52, ↓reduceIte, reduceIte, Bool.false_eq_true, eq_self, true_or, or_true, true_and, and_true, false_or, or_false, Nat.reduceAdd, Nat.reduceSub, Nat.reduceEqDiff, Nat.reduceLT, Nat.reduceLeDiff, reduceCtorEq, true_implies, List.length_cons, List.length_nil, List.replicate, List.cons_append, List.nil_append, mrt_X1_givenTo, mhh_X1_givenTo, mow_X1_givenTo, mnl_X1_givenTo, DX1_givenTo_0, DX1_givenTo_1, DX1_givenTo_4, DX1_givenTo_5, DX1_givenTo_6, DX1_givenTo_9, DX1_givenTo_10, DX1_givenTo_13, DX1_givenTo_14, DX1_givenTo_17, DX1_givenTo_18, DX1_givenTo_19, DX1_givenTo_22, DX1_givenTo_23]
  simp (disch := omega) only [i32_lit, i32_neg, i32_add, i32_mul, i32_sub, i32_nI, i32_lt, i32_le, i32_eq, inR_i, i32_clamp, i32_div, i32_max, i32_min, ite_max, ite_min, b2i_0, b2i_1, b2i_01, i32_toInt, tn_i, Int.toNat_natCast, em_t, true_and, and_true, Int.reduceToNat, Int.reduceLE, Int.reduceLT, Int.reduceAdd, Int.reduceMul, Int.reduceSub, Int.reduceNeg, Int.reduceEq, true_implies, not_true_eq_false, false_implies, not_false_eq_true, kC, rC0, rC1, rC2, rC3, rC4, kQ, rQ0, rQ1, kV, lV, kG, lG, kP, lP, kT, lT, LB1, LB2, LB3, LH1, LH2, LH3, LL1, LL2, LL3, dDy, dEv, true_and, and_true, Option.some.injEq, exists_eq_left', nmOf_0, nmOf_1, nmOf_2, nmOf_3, nmOf_4, nmOf_5, nmOf_6, Nat.add_sub_cancel, Nat.reduceSub, Nat.reduceLT, Nat.reduceEqDiff, ne_eq, not_false_eq_true, kH, rH5, rH6, rH7, rH8, rH12, kH4, lH4, kH5, lH5, kH6, lH6, kH7, lH7, eH0, eH1, eH2, eH3, qH, kqH, lqH, hAb]
  exact ⟨fun h1 => by omega, fun h1 => ⟨by omega, by omega, fun h2 => by omega, fun h2 => ⟨by omega, hq⟩⟩⟩
def ct_X1_isShort (G : GT) (D : WD) (S : SS) : Ct := fun As h Q _ => sR As fun a r => sR r fun a' r => s0 r (CD G h D S ∧ ∃ r l, r < 12 ∧ l < S.nl ∧ a = D 2 r ∧ a' = D 3 l ∧ HL h D S r ∧ Q (some (.int (b2i (isSh S l r = true)))) h)
def ce_X1_isShort (G : GT) (D : WD) (S : SS) : CE := (0, yX1_isShort, MX1_isShort, 1, 1, 0, 0, ct_X1_isShort G D S)
set_option maxRecDepth 100000 in
set_option maxHeartbeats 4000000 in
theorem ok_X1_isShort (G : GT) (G : GT) (D : WD) (S : SS) (hW : WF S) : OKm G yX1_isShort MX1_isShort 1 0 0 (ct_X1_isShort G D S) := by
  refine mkOK (ini := false) (by decide) rfl (by first | exact fun _ => rfl | (intro hh; cases hh)) (fun As h Q QX hc => ?_)
  replace hc := sR_e hc; obtain ⟨a, r, rfl, hc⟩ := hc
  replace hc := sR_e hc; obtain ⟨a', r, rfl, hc⟩ := hc
  replace hc := s0_e hc; obtain ⟨rfl, hc⟩ := hc
  obtain ⟨hD, r, l, hr, hl, rfl, rfl, hM, hq⟩ := hc
  unfold isSh at hq
  simp only [decide_eq_true_eq] at hq
  have gb := gts_b (r := r) hW hl
  have hA0 := hD.1
  have hB0 := hD.2
  obtain ⟨⟨kC, rC0, rC1, rC2, rC3, rC4⟩, ⟨kQ, rQ0, rQ1⟩, ⟨kV, lV⟩, ⟨kG, lG⟩, ⟨kP, lP⟩, ⟨kT, lT⟩, ⟨⟨LB1, LB2, LB3, LB4, LB5, LB6, LB7⟩, ⟨LH1, LH2, LH3, LH4, LH5, LH6, LH7⟩, ⟨LL1, LL2, LL3, LL4, LL5, LL6, LL7⟩⟩, hKB, hHA, hKL, hCJ⟩ := hA0
  obtain ⟨dDy, dEv, dG, dP, dV, dB, dL, dH⟩ := hB0
  have hnb := hW.1
  have hnl := hW.2.1
  obtain ⟨kH, ⟨rH5, rH6, rH7, rH8, rH12⟩, ⟨kH4, lH4⟩, ⟨kH5, lH5⟩, ⟨kH6, lH6⟩, ⟨kH7, lH7⟩⟩ := hHA r hr
  obtain ⟨eH0, eH1, eH2, eH3⟩ := dH r hr
  have qH := LH7 r hr
  obtain ⟨kqH, lqH⟩ := LH6 (by omega)
  obtain ⟨vH0, vH0', vH1, vH1', -, vH2, vH2'⟩ := hW.2.2.2.2.1 r hr
  have kL := hKL l hl
  obtain ⟨eL0, eL1, eL2, eL3, eL4, eL5, eL6, eL7, eL8, eL9⟩ := dL l hl
  have qL := LL7 l hl
  obtain ⟨kqL, lqL⟩ := LL6 (by omega)
  obtain ⟨vL0, vL0', vL1, vL1', vL2, vL2', vL3, vL4, vL4', vL5, vL5', vL6, vL7, vL7'⟩ := hW.2.2.2.1 l hl
  refine ⟨Nat.le_of_ble_eq_true rfl, ?_⟩
  simp only [ent, entL, catN, List.length_cons, List.length_nil, List.replicate, List.cons_append, List.nil_append, reduceIte, Nat.reduceEqDiff,  Nat.reduceAdd, Nat.reduceSub, mnl_X1_isShort]
  refine wpW (cs := [(59, ce_X2_asksIn G D S), (66, ce_X1_givenTo G D S)]) (stop := []) (n := 200) (env_cons (ceV (by decide +kernel) ⟨by decide, by decide, by decide +kernel⟩ (by decide) rfl (ok_X2_asksIn G G D S hW)) (env_cons (ceV (by decide +kernel) ⟨by decide, by decide, by decide +kernel⟩ (by decide) rfl (ok_X1_givenTo G G D S hW)) (env_nil0 (env_hh rfl)))) ?_
  simp only [↓wpN_S, ↓step_u, ↓stC_s, stC_s, ↓stF_u, stF_u, ↓stepI, lenI, ↓kN_u, isS, ↓gI_0, ↓gI_S, ↓gL_0, ↓gL_S, ↓gD_0, ↓gD_S, ↓gR_0, ↓gR_S, ↓sI_c, ↓sL_c, ↓sD_c, ↓sR_c, ↓s1_r, ↓s1_i, ↓vR_r, ↓vR_n, ↓s0_n, s0_n, ↓oR_u, ↓sP_u, ↓sPa_0, ↓sPa_S, ↓lkC_c, ↓callK_u, ↓cQ_s, ↓cQ_n, putL, putW, clr, kil, catS, catN, refF, booF, finF, nF, nmOf_0, nmOf_1, nmOf_2, nmOf_3, nmOf_4, nmOf_5, nmOf_6, nmOf_50, nmOf_51, nmOf_52, ↓reduceIte, reduceIte, Bool.false_eq_true, eq_self, true_or, or_true, true_and, and_true, false_or, or_false, Nat.reduceAdd, Nat.reduceSub, Nat.reduceEqDiff, Nat.reduceLT, Nat.reduceLeDiff, reduceCtorEq, true_implies, List.length_cons, List.length_nil, List.replicate, List.cons_append, List.nil_append, mrt_X1_isShort, mhh_X1_isShort, mow_X1_isShort, mnl_X1_isShort, DX1_isShort_0, DX1_isShort_1, DX1_isShort_2, DX1_isShort_5, DX1_isShort_8, DX1_isShort_11, DX1_isShort_12, DX1_isShort_13, DX1_isShort_16, DX1_isShort_19, DX1_isShort_20, DX1_isShort_23, DX1_isShort_26, DX1_isShort_27, DX1_isShort_30, DX1_isShort_31, ce_X2_asksIn, ↓ct_X2_asksIn, ycl_X2_asksIn, ce_X1_givenTo, ↓ct_X1_givenTo, ycl_X1_givenTo, cX_nil mhh_X1_isShort]
  simp (disch := omega) only [i32_lit, i32_neg, i32_add, i32_mul, i32_sub, i32_nI, i32_lt, i32_le, i32_eq, inR_i, i32_clamp, i32_div, i32_max, i32_min, ite_max, ite_min, b2i_0, b2i_1, b2i_01, i32_toInt, tn_i, Int.toNat_natCast, em_t, true_and, and_true, Int.reduceToNat, Int.reduceLE, Int.reduceLT, Int.reduceAdd, Int.reduceMul, Int.reduceSub, Int.reduceNeg, Int.reduceEq, true_implies, not_true_eq_false, false_implies, not_false_eq_true, kC, rC0, rC1, rC2, rC3, rC4, kQ, rQ0, rQ1, kV, lV, kG, lG, kP, lP, kT, lT, LB1, LB2, LB3, LH1, LH2, LH3, LL1, LL2, LL3, dDy, dEv, true_and, and_true, Option.some.injEq, exists_eq_left', nmOf_0, nmOf_1, nmOf_2, nmOf_3, nmOf_4, nmOf_5, nmOf_6, Nat.add_sub_cancel, Nat.reduceSub, Nat.reduceLT, Nat.reduceEqDiff, ne_eq, not_false_eq_true, kH, rH5, rH6, rH7, rH8, rH12, kH4, lH4, kH5, lH5, kH6, lH6, kH7, lH7, eH0, eH1, eH2, eH3, qH, kqH, lqH, kL, eL0, eL1, eL2, eL3, eL4, eL5, eL6, eL7, eL8, eL9, qL, kqL, lqL, hD]
  refine ⟨by omega, l, hl, rfl, fun h1 => Qb0 hq (fun q => h1 q.1), fun h1 => ⟨by omega, r, hr, rfl, hM, ?_⟩⟩
  simp (disch := omega) only [i32_lit, i32_neg, i32_add, i32_mul, i32_sub, i32_nI, i32_lt, i32_le, i32_eq, inR_i, i32_clamp, i32_div, i32_max, i32_min, ite_max, ite_min, b2i_0, b2i_1, b2i_01, i32_toInt, tn_i, Int.toNat_natCast, em_t, true_and, and_true, Int.reduceToNat, Int.reduceLE, Int.reduceLT, Int.reduceAdd, Int.reduceMul, Int.reduceSub, Int.reduceNeg, Int.reduceEq, true_implies, not_true_eq_false, false_implies, not_false_eq_true]
  exact ⟨fun h2 => Qb0 hq (by omega), fun h2 => Qb1 hq ⟨Classical.not_not.mp h1, by omega⟩⟩
def ct_X1_figure (G : GT) (D : WD) (S : SS) : Ct := fun As h Q _ => sR As fun a r => sI r fun x r => s0 r (CD G h D S ∧ (0 ≤ x.toInt ∧ x.toInt < 4) ∧ ∃ r, r < 12 ∧ a = D 2 r ∧ HM h D S r ∧ HL h D S r ∧ Q (some (.int (i32 (hrT S r (tn x))))) h)
def ce_X1_figure (G : GT) (D : WD) (S : SS) : CE := (0, yX1_figure, MX1_figure, 1, 0, 0, 0, ct_X1_figure G D S)
set_option maxRecDepth 100000 in
set_option maxHeartbeats 4000000 in
theorem ok_X1_figure (G : GT) (G : GT) (D : WD) (S : SS) (hW : WF S) : OKm G yX1_figure MX1_figure 0 0 0 (ct_X1_figure G D S) := by
  refine mkOK (ini := false) (by decide) rfl (by first | exact fun _ => rfl | (intro hh; cases hh)) (fun As h Q QX hc => ?_)
  replace hc := sR_e hc; obtain ⟨a, r, rfl, hc⟩ := hc
  replace hc := sI_e hc; obtain ⟨x, r, rfl, hc⟩ := hc
  replace hc := s0_e hc; obtain ⟨rfl, hc⟩ := hc
  obtain ⟨hD, hx, r, hr, rfl, hM, hM2, hq⟩ := hc
  obtain ⟨xV, hxV, rfl⟩ := i32_all x
  rw [i32_toInt hxV] at hx
  rw [tn_i hxV] at hq
  obtain ⟨m1, m2, m3, m4⟩ := hM
  obtain ⟨n1, n2, n3⟩ := hM2
  have hA0 := hD.1
  have hB0 := hD.2
  obtain ⟨⟨kC, rC0, rC1, rC2, rC3, rC4⟩, ⟨kQ, rQ0, rQ1⟩, ⟨kV, lV⟩, ⟨kG, lG⟩, ⟨kP, lP⟩, ⟨kT, lT⟩, ⟨⟨LB1, LB2, LB3, LB4, LB5, LB6, LB7⟩, ⟨LH1, LH2, LH3, LH4, LH5, LH6, LH7⟩, ⟨LL1, LL2, LL3, LL4, LL5, LL6, LL7⟩⟩, hKB, hHA, hKL, hCJ⟩ := hA0
  obtain ⟨dDy, dEv, dG, dP, dV, dB, dL, dH⟩ := hB0
  have hnb := hW.1
  have hnl := hW.2.1
  obtain ⟨kH, ⟨rH5, rH6, rH7, rH8, rH12⟩, ⟨kH4, lH4⟩, ⟨kH5, lH5⟩, ⟨kH6, lH6⟩, ⟨kH7, lH7⟩⟩ := hHA r hr
  obtain ⟨eH0, eH1, eH2, eH3⟩ := dH r hr
  have qH := LH7 r hr
  obtain ⟨kqH, lqH⟩ := LH6 (by omega)
  obtain ⟨vH0, vH0', vH1, vH1', -, vH2, vH2'⟩ := hW.2.2.2.2.1 r hr
  refine ⟨Nat.le_of_ble_eq_true rfl, ?_⟩
  simp only [ent, entL, catN, List.length_cons, List.length_nil, List.replicate, List.cons_append, List.nil_append, reduceIte, Nat.reduceEqDiff,  Nat.reduceAdd, Nat.reduceSub, mnl_X1_figure]
  refine wpW (cs := []) (stop := []) (n := 200) (env_nil0 (env_hh rfl)) ?_
  simp only [↓wpN_S, ↓step_u, ↓stC_s, stC_s, ↓stF_u, stF_u, ↓stepI, lenI, ↓kN_u, isS, ↓gI_0, ↓gI_S, ↓gL_0, ↓gL_S, ↓gD_0, ↓gD_S, ↓gR_0, ↓gR_S, ↓sI_c, ↓sL_c, ↓sD_c, ↓sR_c, ↓s1_r, ↓s1_i, ↓vR_r, ↓vR_n, ↓s0_n, s0_n, ↓oR_u, ↓sP_u, ↓sPa_0, ↓sPa_S, ↓lkC_c, ↓callK_u, ↓cQ_s, ↓cQ_n, putL, putW, clr, kil, catS, catN, refF, booF, finF, nF, nmOf_0, nmOf_1, nmOf_2, nmOf_3, nmOf_4, nmOf_5, nmOf_6, nmOf_50, nmOf_51, nmOf_52, ↓reduceIte, reduceIte, Bool.false_eq_true, eq_self, true_or, or_true, true_and, and_true, false_or, or_false, Nat.reduceAdd, Nat.reduceSub, Nat.reduceEqDiff, Nat.reduceLT, Nat.reduceLeDiff, reduceCtorEq, true_implies, List.length_cons, List.length_nil, List.replicate, List.cons_append, List.nil_append, mrt_X1_figure, mhh_X1_figure, mow_X1_figure, mnl_X1_figure, DX1_figure_0, DX1_figure_1, DX1_figure_28, DX1_figure_29, DX1_figure_32, DX1_figure_33, DX1_figure_34, DX1_figure_37, DX1_figure_38, DX1_figure_39, DX1_figure_42, DX1_figure_43, DX1_figure_44, DX1_figure_47]
  simp only [↓swP_S, ↓swP_0, ↓wpN_S, ↓step_u, ↓stC_s, stC_s, ↓stF_u, stF_u, ↓stepI, lenI, ↓kN_u, isS, ↓gI_0, ↓gI_S, ↓gL_0, ↓gL_S, ↓gD_0, ↓gD_S, ↓gR_0, ↓gR_S, ↓sI_c, ↓sL_c, ↓sD_c, ↓sR_c, ↓s1_r, ↓s1_i, ↓vR_r, ↓vR_n, ↓s0_n, s0_n, ↓oR_u, ↓sP_u, ↓sPa_0, ↓sPa_S, ↓lkC_c, ↓callK_u, ↓cQ_s, ↓cQ_n, putL, putW, clr, kil, catS, catN, refF, booF, finF, nF, nmOf_0, nmOf_1, nmOf_2, nmOf_3, nmOf_4, nmOf_5, nmOf_6, nmOf_50, nmOf_51, nmOf_52, ↓reduceIte, reduceIte, Bool.false_eq_true, eq_self, true_or, or_true, true_and, and_true, false_or, or_false, Nat.reduceAdd, Nat.reduceSub, Nat.reduceEqDiff, Nat.reduceLT, Nat.reduceLeDiff, reduceCtorEq, true_implies, List.length_cons, List.length_nil, List.replicate, List.cons_append, List.nil_append, mrt_X1_figure, mhh_X1_figure, mow_X1_figure, mnl_X1_figure, DX1_figure_0, DX1_figure_1, DX1_figure_28, DX1_figure_29, DX1_figure_32, DX1_figure_33, DX1_figure_34, DX1_figure_37, DX1_figure_38, DX1_figure_39, DX1_figure_42, DX1_figure_43, DX1_figure_44, DX1_figure_47]
  simp (disch := omega) only [i32_lit, i32_neg, i32_add, i32_mul, i32_sub, i32_nI, i32_lt, i32_le, i32_eq, inR_i, i32_clamp, i32_div, i32_max, i32_min, ite_max, ite_min, b2i_0, b2i_1, b2i_01, i32_toInt, tn_i, Int.toNat_natCast, em_t, true_and, and_true, Int.reduceToNat, Int.reduceLE, Int.reduceLT, Int.reduceAdd, Int.reduceMul, Int.reduceSub, Int.reduceNeg, Int.reduceEq, true_implies, not_true_eq_false, false_implies, not_false_eq_true, kC, rC0, rC1, rC2, rC3, rC4, kQ, rQ0, rQ1, kV, lV, kG, lG, kP, lP, kT, lT, LB1, LB2, LB3, LH1, LH2, LH3, LL1, LL2, LL3, dDy, dEv, true_and, and_true, Option.some.injEq, exists_eq_left', nmOf_0, nmOf_1, nmOf_2, nmOf_3, nmOf_4, nmOf_5, nmOf_6, Nat.add_sub_cancel, Nat.reduceSub, Nat.reduceLT, Nat.reduceEqDiff, ne_eq, not_false_eq_true, kH, rH5, rH6, rH7, rH8, rH12, kH4, lH4, kH5, lH5, kH6, lH6, kH7, lH7, eH0, eH1, eH2, eH3, qH, kqH, lqH, m3, m4, n2, n3]
  refine ⟨rfl, by omega, ⟨fun h1 => ?_, fun h1 => ?_, fun h1 => ?_⟩, fun h1 => ?_⟩
  · rw [h1] at hq; exact hq
  · rw [h1] at hq; exact hq
  · rw [h1] at hq; exact hq
  · rw [show xV = 3 by omega] at hq; exact hq
def ct_X1_forgetShade (G : GT) (D : WD) (S : SS) : Ct := fun As h Q _ => sR As fun a r => s0 r (kd h a = 3 ∧ Q none (setI (setI h 2 4 a 0) 2 11 a 0))
def ce_X1_forgetShade (G : GT) (D : WD) (S : SS) : CE := (0, yX1_forgetShade, MX1_forgetShade, 0, 0, 0, 0, ct_X1_forgetShade G D S)
set_option maxRecDepth 100000 in
set_option maxHeartbeats 4000000 in
theorem ok_X1_forgetShade (G : GT) (G : GT) (D : WD) (S : SS) (hW : WF S) : OKm G yX1_forgetShade MX1_forgetShade 0 0 0 (ct_X1_forgetShade G D S) := by
  refine mkOK (ini := false) (by decide) rfl (by first | exact fun _ => rfl | (intro hh; cases hh)) (fun As h Q QX hc => ?_)
  replace hc := sR_e hc; obtain ⟨a, r, rfl, hc⟩ := hc
  replace hc := s0_e hc; obtain ⟨rfl, hc⟩ := hc
  obtain ⟨hk, hq⟩ := hc
  refine ⟨Nat.le_of_ble_eq_true rfl, ?_⟩
  simp only [ent, entL, catN, List.length_cons, List.length_nil, List.replicate, List.cons_append, List.nil_append, reduceIte, Nat.reduceEqDiff,  Nat.reduceAdd, Nat.reduceSub, mnl_X1_forgetShade]
  refine wpW (cs := []) (stop := []) (n := 200) (env_nil0 (env_hh rfl)) ?_
  simp only [↓wpN_S, ↓step_u, ↓stC_s, stC_s, ↓stF_u, stF_u, ↓stepI, lenI, ↓kN_u, isS, ↓gI_0, ↓gI_S, ↓gL_0, ↓gL_S, ↓gD_0, ↓gD_S, ↓gR_0, ↓gR_S, ↓sI_c, ↓sL_c, ↓sD_c, ↓sR_c, ↓s1_r, ↓s1_i, ↓vR_r, ↓vR_n, ↓s0_n, s0_n, ↓oR_u, ↓sP_u, ↓sPa_0, ↓sPa_S, ↓lkC_c, ↓callK_u, ↓cQ_s, ↓cQ_n, putL, putW, clr, kil, catS, catN, refF, booF, finF, nF, nmOf_0, nmOf_1, nmOf_2, nmOf_3, nmOf_4, nmOf_5, nmOf_6, nmOf_50, nmOf_51, nmOf_52, ↓reduceIte, reduceIte, Bool.false_eq_true, eq_self, true_or, or_true, true_and, and_true, false_or, or_false, Nat.reduceAdd, Nat.reduceSub, Nat.reduceEqDiff, Nat.reduceLT, Nat.reduceLeDiff, reduceCtorEq, true_implies, List.length_cons, List.length_nil, List.replicate, List.cons_append, List.nil_append, mrt_X1_forgetShade, mhh_X1_forgetShade, mow_X1_forgetShade, mnl_X1_forgetShade, DX1_forgetShade_0, DX1_forgetShade_1, DX1_forgetShade_2, DX1_forgetShade_5, DX1_forgetShade_6, DX1_forgetShade_7, DX1_forgetShade_10]
  simp [hk, hq, kd_setI, fi_setI, fr_setI, ln_setI, ia_setI, ja_setI, ra_setI, kd_setR, fi_setR, fr_setR, ln_setR, ia_setR, ja_setR, ra_setR, kd_setIA, fi_setIA, fr_setIA, ln_setIA, ia_setIA, ja_setIA, ra_setIA, kd_setLA, fi_setLA, fr_setLA, ln_setLA, ia_setLA, ja_setLA, ra_setLA, kd_setRA, fi_setRA, fr_setRA, ln_setRA, ia_setRA, ja_setRA, ra_setRA, kd_cpRA, fi_cpRA, fr_cpRA, ln_cpRA, ia_cpRA, ja_cpRA, ra_cpRA, kd_cpIA, fi_cpIA, fr_cpIA, ln_cpIA, ia_cpIA, ja_cpIA, ra_cpIA, kd_newO, fi_newO, fr_newO, ln_newO, ia_newO, ja_newO, ra_newO, kd_newA, fi_newA, fr_newA, ln_newA, ia_newA, ja_newA, ra_newA]
def ct_X3_isCovered (G : GT) (D : WD) (S : SS) : Ct := fun As h Q _ => sR As fun a r => sI r fun x r => s0 r (CD G h D S ∧ (0 ≤ x.toInt ∧ x.toInt < 256) ∧ a = D 0 1 ∧ Q (some (.int (b2i (isCov S (tn x % 16 : Nat) (tn x / 16 : Nat) = true)))) h)
def ce_X3_isCovered (G : GT) (D : WD) (S : SS) : CE := (0, yX3_isCovered, MX3_isCovered, 1, 0, 0, 0, ct_X3_isCovered G D S)
set_option maxRecDepth 100000 in
set_option maxHeartbeats 4000000 in
theorem ok_X3_isCovered (G : GT) (G : GT) (D : WD) (S : SS) (hW : WF S) : OKm G yX3_isCovered MX3_isCovered 0 0 0 (ct_X3_isCovered G D S) := by
  refine mkOK (ini := false) (by decide) rfl (by first | exact fun _ => rfl | (intro hh; cases hh)) (fun As h Q QX hc => ?_)
  replace hc := sR_e hc; obtain ⟨a, r, rfl, hc⟩ := hc
  replace hc := sI_e hc; obtain ⟨x, r, rfl, hc⟩ := hc
  replace hc := s0_e hc; obtain ⟨rfl, hc⟩ := hc
  obtain ⟨hD, hx, rfl, hq⟩ := hc
  obtain ⟨xV, hxV, rfl⟩ := i32_all x
  rw [i32_toInt hxV] at hx
  rw [tn_i hxV] at hq
  obtain ⟨k, rfl⟩ := Int.eq_ofNat_of_zero_le hx.1
  rw [Int.toNat_natCast] at hq
  have hA0 := hD.1
  have hB0 := hD.2
  obtain ⟨⟨kC, rC0, rC1, rC2, rC3, rC4⟩, ⟨kQ, rQ0, rQ1⟩, ⟨kV, lV⟩, ⟨kG, lG⟩, ⟨kP, lP⟩, ⟨kT, lT⟩, ⟨⟨LB1, LB2, LB3, LB4, LB5, LB6, LB7⟩, ⟨LH1, LH2, LH3, LH4, LH5, LH6, LH7⟩, ⟨LL1, LL2, LL3, LL4, LL5, LL6, LL7⟩⟩, hKB, hHA, hKL, hCJ⟩ := hA0
  obtain ⟨dDy, dEv, dG, dP, dV, dB, dL, dH⟩ := hB0
  have hnb := hW.1
  have hnl := hW.2.1
  have dk := dV k (by omega)
  refine ⟨Nat.le_of_ble_eq_true rfl, ?_⟩
  simp only [ent, entL, catN, List.length_cons, List.length_nil, List.replicate, List.cons_append, List.nil_append, reduceIte, Nat.reduceEqDiff,  Nat.reduceAdd, Nat.reduceSub, mnl_X3_isCovered]
  refine wpW (cs := []) (stop := []) (n := 200) (env_nil0 (env_hh rfl)) ?_
  simp only [↓wpN_S, ↓step_u, ↓stC_s, stC_s, ↓stF_u, stF_u, ↓stepI, lenI, ↓kN_u, isS, ↓gI_0, ↓gI_S, ↓gL_0, ↓gL_S, ↓gD_0, ↓gD_S, ↓gR_0, ↓gR_S, ↓sI_c, ↓sL_c, ↓sD_c, ↓sR_c, ↓s1_r, ↓s1_i, ↓vR_r, ↓vR_n, ↓s0_n, s0_n, ↓oR_u, ↓sP_u, ↓sPa_0, ↓sPa_S, ↓lkC_c, ↓callK_u, ↓cQ_s, ↓cQ_n, putL, putW, clr, kil, catS, catN, refF, booF, finF, nF, nmOf_0, nmOf_1, nmOf_2, nmOf_3, nmOf_4, nmOf_5, nmOf_6, nmOf_50, nmOf_51, nmOf_52, ↓reduceIte, reduceIte, Bool.false_eq_true, eq_self, true_or, or_true, true_and, and_true, false_or, or_false, Nat.reduceAdd, Nat.reduceSub, Nat.reduceEqDiff, Nat.reduceLT, Nat.reduceLeDiff, reduceCtorEq, true_implies, List.length_cons, List.length_nil, List.replicate, List.cons_append, List.nil_append, mrt_X3_isCovered, mhh_X3_isCovered, mow_X3_isCovered, mnl_X3_isCovered, DX3_isCovered_0, DX3_isCovered_1, DX3_isCovered_4, DX3_isCovered_5, DX3_isCovered_6, DX3_isCovered_9, DX3_isCovered_10, DX3_isCovered_13, DX3_isCovered_14, DX3_isCovered_17, DX3_isCovered_18, DX3_isCovered_19, DX3_isCovered_22, DX3_isCovered_23, DX3_isCovered_26, DX3_isCovered_27]
  simp (disch := omega) only [i32_lit, i32_neg, i32_add, i32_mul, i32_sub, i32_nI, i32_lt, i32_le, i32_eq, inR_i, i32_clamp, i32_div, i32_max, i32_min, ite_max, ite_min, b2i_0, b2i_1, b2i_01, i32_toInt, tn_i, Int.toNat_natCast, em_t, true_and, and_true, Int.reduceToNat, Int.reduceLE, Int.reduceLT, Int.reduceAdd, Int.reduceMul, Int.reduceSub, Int.reduceNeg, Int.reduceEq, true_implies, not_true_eq_false, false_implies, not_false_eq_true, kC, rC0, rC1, rC2, rC3, rC4, kQ, rQ0, rQ1, kV, lV, kG, lG, kP, lP, kT, lT, LB1, LB2, LB3, LH1, LH2, LH3, LL1, LL2, LL3, dDy, dEv, true_and, and_true, Option.some.injEq, exists_eq_left', nmOf_0, nmOf_1, nmOf_2, nmOf_3, nmOf_4, nmOf_5, nmOf_6, Nat.add_sub_cancel, Nat.reduceSub, Nat.reduceLT, Nat.reduceEqDiff, ne_eq, not_false_eq_true, dk]
  exact ⟨fun _ => by omega, fun _ => ⟨by omega, by omega, fun _ => by omega, fun _ => ⟨by omega, fun h3 => Qb0 hq h3, fun h3 => Qb1 hq (Classical.not_not.mp h3)⟩⟩⟩
def ct_X3_ownerOf (G : GT) (D : WD) (S : SS) : Ct := fun As h Q _ => sR As fun a r => sI r fun x r => s0 r (CD G h D S ∧ (0 ≤ x.toInt ∧ x.toInt < S.nb) ∧ a = D 0 1 ∧ Q (some (.int (i32 (S.bf (tn x) 5)))) h)
def ce_X3_ownerOf (G : GT) (D : WD) (S : SS) : CE := (0, yX3_ownerOf, MX3_ownerOf, 1, 3, 0, 0, ct_X3_ownerOf G D S)
set_option maxRecDepth 100000 in
set_option maxHeartbeats 4000000 in
theorem ok_X3_ownerOf (G : GT) (G : GT) (D : WD) (S : SS) (hW : WF S) : OKm G yX3_ownerOf MX3_ownerOf 3 0 0 (ct_X3_ownerOf G D S) := by
  refine mkOK (ini := false) (by decide) rfl (by first | exact fun _ => rfl | (intro hh; cases hh)) (fun As h Q QX hc => ?_)
  replace hc := sR_e hc; obtain ⟨a, r, rfl, hc⟩ := hc
  replace hc := sI_e hc; obtain ⟨x, r, rfl, hc⟩ := hc
  replace hc := s0_e hc; obtain ⟨rfl, hc⟩ := hc
  obtain ⟨hD, hx, rfl, hq⟩ := hc
  obtain ⟨xV, hxV, rfl⟩ := i32_all x
  rw [i32_toInt hxV] at hx
  rw [tn_i hxV] at hq
  obtain ⟨b, rfl⟩ := Int.eq_ofNat_of_zero_le hx.1
  rw [Int.toNat_natCast] at hq
  have hA0 := hD.1
  have hB0 := hD.2
  obtain ⟨⟨kC, rC0, rC1, rC2, rC3, rC4⟩, ⟨kQ, rQ0, rQ1⟩, ⟨kV, lV⟩, ⟨kG, lG⟩, ⟨kP, lP⟩, ⟨kT, lT⟩, ⟨⟨LB1, LB2, LB3, LB4, LB5, LB6, LB7⟩, ⟨LH1, LH2, LH3, LH4, LH5, LH6, LH7⟩, ⟨LL1, LL2, LL3, LL4, LL5, LL6, LL7⟩⟩, hKB, hHA, hKL, hCJ⟩ := hA0
  obtain ⟨dDy, dEv, dG, dP, dV, dB, dL, dH⟩ := hB0
  have hnb := hW.1
  have hnl := hW.2.1
  have kB := hKB b (by omega)
  obtain ⟨eB0, eB1, eB2, eB3, eB4, eB5, eB6, eB7⟩ := dB b (by omega)
  have qB := LB7 b (by omega)
  obtain ⟨kqB, lqB⟩ := LB6 (by omega)
  obtain ⟨vB0, vB2, vB2', vB02, vB1, vB3, vB3', vB13, vB4, vB4', vB5, vB5', vB6⟩ := hW.2.2.1 b (by omega)
  refine ⟨Nat.le_of_ble_eq_true rfl, ?_⟩
  simp only [ent, entL, catN, List.length_cons, List.length_nil, List.replicate, List.cons_append, List.nil_append, reduceIte, Nat.reduceEqDiff,  Nat.reduceAdd, Nat.reduceSub, mnl_X3_ownerOf]
  refine wpW (cs := [(41, ce_Jx4a65c_size_8abf5), (45, ce_Jx4a65c_get_915e3)]) (stop := []) (n := 200) (env_cons (ceV (by decide +kernel) ⟨by decide, by decide, by decide +kernel⟩ (by decide) rfl (ok_Jx4a65c_size_8abf5 G)) (env_cons (ceV (by decide +kernel) ⟨by decide, by decide, by decide +kernel⟩ (by decide) rfl (ok_Jx4a65c_get_915e3 G)) (env_nil0 (env_hh rfl)))) ?_
  simp only [↓wpN_S, ↓step_u, ↓stC_s, stC_s, ↓stF_u, stF_u, ↓stepI, lenI, ↓kN_u, isS, ↓gI_0, ↓gI_S, ↓gL_0, ↓gL_S, ↓gD_0, ↓gD_S, ↓gR_0, ↓gR_S, ↓sI_c, ↓sL_c, ↓sD_c, ↓sR_c, ↓s1_r, ↓s1_i, ↓vR_r, ↓vR_n, ↓s0_n, s0_n, ↓oR_u, ↓sP_u, ↓sPa_0, ↓sPa_S, ↓lkC_c, ↓callK_u, ↓cQ_s, ↓cQ_n, putL, putW, clr, kil, catS, catN, refF, booF, finF, nF, nmOf_0, nmOf_1, nmOf_2, nmOf_3, nmOf_4, nmOf_5, nmOf_6, nmOf_50, nmOf_51, nmOf_52, ↓reduceIte, reduceIte, Bool.false_eq_true, eq_self, true_or, or_true, true_and, and_true, false_or, or_false, Nat.reduceAdd, Nat.reduceSub, Nat.reduceEqDiff, Nat.reduceLT, Nat.reduceLeDiff, reduceCtorEq, true_implies, List.length_cons, List.length_nil, List.replicate, List.cons_append, List.nil_append, mrt_X3_ownerOf, mhh_X3_ownerOf, mow_X3_ownerOf, mnl_X3_ownerOf, DX3_ownerOf_0, DX3_ownerOf_1, DX3_ownerOf_4, DX3_ownerOf_5, DX3_ownerOf_6, DX3_ownerOf_9, DX3_ownerOf_12, DX3_ownerOf_15, DX3_ownerOf_16, DX3_ownerOf_17, DX3_ownerOf_18, DX3_ownerOf_21, DX3_ownerOf_22, DX3_ownerOf_25, DX3_ownerOf_28, DX3_ownerOf_31, ce_Jx4a65c_size_8abf5, ↓ct_Jx4a65c_size_8abf5, ycl_Jx4a65c_size_8abf5, ce_Jx4a65c_get_915e3, ↓ct_Jx4a65c_get_915e3, ycl_Jx4a65c_get_915e3, cX_nil mhh_X3_ownerOf]
  simp (disch := omega) only [i32_lit, i32_neg, i32_add, i32_mul, i32_sub, i32_nI, i32_lt, i32_le, i32_eq, inR_i, i32_clamp, i32_div, i32_max, i32_min, ite_max, ite_min, b2i_0, b2i_1, b2i_01, i32_toInt, tn_i, Int.toNat_natCast, em_t, true_and, and_true, Int.reduceToNat, Int.reduceLE, Int.reduceLT, Int.reduceAdd, Int.reduceMul, Int.reduceSub, Int.reduceNeg, Int.reduceEq, true_implies, not_true_eq_false, false_implies, not_false_eq_true, kC, rC0, rC1, rC2, rC3, rC4, kQ, rQ0, rQ1, kV, lV, kG, lG, kP, lP, kT, lT, LB1, LB2, LB3, LH1, LH2, LH3, LL1, LL2, LL3, dDy, dEv, true_and, and_true, Option.some.injEq, exists_eq_left', nmOf_0, nmOf_1, nmOf_2, nmOf_3, nmOf_4, nmOf_5, nmOf_6, Nat.add_sub_cancel, Nat.reduceSub, Nat.reduceLT, Nat.reduceEqDiff, ne_eq, not_false_eq_true, kB, eB0, eB1, eB2, eB3, eB4, eB5, eB6, eB7, qB, kqB, lqB]
  exact ⟨fun _ => by omega, fun _ => ⟨fun _ => ⟨by omega, by omega, by omega, hq⟩, fun _ => by omega⟩⟩

