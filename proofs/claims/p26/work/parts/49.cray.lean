/-! ===== the class: castRay ===== -/
def ct_X1_castRay (G : GT) (D : WD) (S : SS) : Ct := fun As h Q _ => sR As fun a r => sR r fun b r => sI r fun x r => sI r fun y r => s0 r (CD G h D S ∧ ∃ r n, r < 12 ∧ n < S.nb ∧ a = D 2 r ∧ b = D 1 n ∧ S.bf n 6 = 1 ∧ cvx S n x.toInt y.toInt ∧ ¬ cvx S n (x.toInt + S.sn r 0) (y.toInt + S.sn r 1) ∧ RS h D S r n y.toInt x.toInt 1 ∧ ∀ h', FQ h h' D r → RS h' D S r n y.toInt (x.toInt + 1) 1 → Q none h')
def ce_X1_castRay (G : GT) (D : WD) (S : SS) : CE := (0, yX1_castRay, MX1_castRay, 3, 0, 0, 0, ct_X1_castRay G D S)
theorem cell_xy {u v : Int} {c : Nat} (hu : 0 ≤ u ∧ u < 16) (hv : 0 ≤ v ∧ v < 16) (hc : u + 16 * v = c) : c < 256 ∧ xC c = u ∧ yC c = v := by
  unfold xC yC
  omega
set_option maxRecDepth 100000 in
set_option maxHeartbeats 4000000 in
theorem lp_X1_castRay (G : GT) {D : WD} {S : SS} (hW : WF S) {h0 : Hp} {r n : Nat} {x y : Int} {Q : Option Value → Hp → Prop} {QX : String → Hp → Prop} (hr : r < 12) (hn : n < S.nb) (h6 : S.bf n 6 = 1) (hb : cvx S n x y) (he : ¬ cvx S n (x + S.sn r 0) (y + S.sn r 1)) (hq : ∀ h', FQ h0 h' D r → RS h' D S r n y (x + 1) 1 → Q none h') :
    ∀ m k : Nat, k + m = reach S n r + 1 → 1 ≤ k → ∀ h, FQ h0 h D r → CD G h D S → RS h D S r n y x k → ∀ o6 o7 o8, Wp G MX1_castRay false 0 Q QX 16 [some (.ref (D 2 r)), some (.ref (D 1 n)), some (.int (i32 x)), some (.int (i32 y)), some (.int (i32 (reach S n r))), some (.int (i32 k)), o6, o7, o8] [] h (0, 0) := by
  have hre := reach_le hW hn hr
  have hbb := hW.2.2.1 n hn
  intro m
  induction m with
  | zero =>
    intro k hk h1 h f hD hS o6 o7 o8
    refine wpW (cs := []) (stop := [16]) (n := 200) (env_nil0 (env_hh rfl)) ?_
    simp only [↓wpN_S, ↓step_u, ↓stC_s, stC_s, ↓stF_u, stF_u, ↓stepI, lenI, ↓kN_u, isS, ↓gI_0, ↓gI_S, ↓gL_0, ↓gL_S, ↓gD_0, ↓gD_S, ↓gR_0, ↓gR_S, ↓sI_c, ↓sL_c, ↓sD_c, ↓sR_c, ↓s1_r, ↓s1_i, ↓vR_r, ↓vR_n, ↓s0_n, s0_n, ↓oR_u, ↓sP_u, ↓sPa_0, ↓sPa_S, ↓lkC_c, ↓callK_u, ↓cQ_s, ↓cQ_n, putL, putW, clr, kil, catS, catN, refF, booF, finF, nF, nmOf_0, nmOf_1, nmOf_2, nmOf_3, nmOf_4, nmOf_5, nmOf_6, nmOf_50, nmOf_51, nmOf_52, ↓reduceIte, reduceIte, Bool.false_eq_true, eq_self, true_or, or_true, true_and, and_true, false_or, or_false, Nat.reduceAdd, Nat.reduceSub, Nat.reduceEqDiff, Nat.reduceLT, Nat.reduceLeDiff, reduceCtorEq, true_implies, List.length_cons, List.length_nil, List.replicate, List.cons_append, List.nil_append, mrt_X1_castRay, mhh_X1_castRay, mow_X1_castRay, mnl_X1_castRay, DX1_castRay_0, DX1_castRay_1, DX1_castRay_4, DX1_castRay_5, DX1_castRay_8, DX1_castRay_9, DX1_castRay_10, DX1_castRay_11, DX1_castRay_13, DX1_castRay_14, DX1_castRay_16, DX1_castRay_18, DX1_castRay_20, DX1_castRay_23, DX1_castRay_24, DX1_castRay_26, DX1_castRay_27, DX1_castRay_30, DX1_castRay_31, DX1_castRay_32, DX1_castRay_34, DX1_castRay_35, DX1_castRay_37, DX1_castRay_38, DX1_castRay_41, DX1_castRay_42, DX1_castRay_43, DX1_castRay_45, DX1_castRay_47, DX1_castRay_50, DX1_castRay_52, DX1_castRay_54, DX1_castRay_57, DX1_castRay_59, DX1_castRay_62, DX1_castRay_64, DX1_castRay_66, DX1_castRay_69, DX1_castRay_70, DX1_castRay_72, DX1_castRay_74, DX1_castRay_76, DX1_castRay_77, DX1_castRay_78, DX1_castRay_80, DX1_castRay_81, DX1_castRay_84, DX1_castRay_86, DX1_castRay_87, DX1_castRay_89, DX1_castRay_92, DX1_castRay_95, DX1_castRay_96, DX1_castRay_99, DX1_castRay_101, DX1_castRay_102, DX1_castRay_103, DX1_castRay_104, DX1_castRay_105, DX1_castRay_106, DX1_castRay_107, DX1_castRay_110, DX1_castRay_112, DX1_castRay_113, DX1_castRay_114, DX1_castRay_117, DX1_castRay_119, DX1_castRay_120, DX1_castRay_123, DX1_castRay_125, DX1_castRay_126, DX1_castRay_129, DX1_castRay_130, DX1_castRay_133, DX1_castRay_135, DX1_castRay_136, DX1_castRay_139, DX1_castRay_140, DX1_castRay_141, DX1_castRay_144, DX1_castRay_146, DX1_castRay_148, DX1_castRay_149, DX1_castRay_152, DX1_castRay_155]
    simp (disch := omega) only [i32_lit, i32_neg, i32_add, i32_mul, i32_sub, i32_nI, i32_lt, i32_le, i32_eq, inR_i, i32_clamp, i32_div, i32_max, i32_min, ite_max, ite_min, b2i_0, b2i_1, b2i_01, i32_toInt, tn_i, Int.toNat_natCast, em_t, true_and, and_true, Int.reduceToNat, Int.reduceLE, Int.reduceLT, Int.reduceAdd, Int.reduceMul, Int.reduceSub, Int.reduceNeg, Int.reduceEq, true_implies, not_true_eq_false, false_implies, not_false_eq_true]
    exact ⟨fun _ => hq h f (RS_r hn hS (by omega)), fun h2 => by omega⟩
  | succ m ih =>
    intro k hk h1 h f hD hS o6 o7 o8
    have hjp : ∀ h', FQ h h' D r → RS h' D S r n y x (k + 1) → ∀ o6 o7 o8, Wp G MX1_castRay false 0 Q QX 149 [some (.ref (D 2 r)), some (.ref (D 1 n)), some (.int (i32 x)), some (.int (i32 y)), some (.int (i32 (reach S n r))), some (.int (i32 k)), o6, o7, o8] [] h' (0, 0) := fun h' f' hS' o6 o7 o8 => by
      refine wpW (cs := []) (stop := [16]) (n := 200) (env_nil0 (env_hh rfl)) ?_
      simp only [↓wpN_S, ↓step_u, ↓stC_s, stC_s, ↓stF_u, stF_u, ↓stepI, lenI, ↓kN_u, isS, ↓gI_0, ↓gI_S, ↓gL_0, ↓gL_S, ↓gD_0, ↓gD_S, ↓gR_0, ↓gR_S, ↓sI_c, ↓sL_c, ↓sD_c, ↓sR_c, ↓s1_r, ↓s1_i, ↓vR_r, ↓vR_n, ↓s0_n, s0_n, ↓oR_u, ↓sP_u, ↓sPa_0, ↓sPa_S, ↓lkC_c, ↓callK_u, ↓cQ_s, ↓cQ_n, putL, putW, clr, kil, catS, catN, refF, booF, finF, nF, nmOf_0, nmOf_1, nmOf_2, nmOf_3, nmOf_4, nmOf_5, nmOf_6, nmOf_50, nmOf_51, nmOf_52, ↓reduceIte, reduceIte, Bool.false_eq_true, eq_self, true_or, or_true, true_and, and_true, false_or, or_false, Nat.reduceAdd, Nat.reduceSub, Nat.reduceEqDiff, Nat.reduceLT, Nat.reduceLeDiff, reduceCtorEq, true_implies, List.length_cons, List.length_nil, List.replicate, List.cons_append, List.nil_append, mrt_X1_castRay, mhh_X1_castRay, mow_X1_castRay, mnl_X1_castRay, DX1_castRay_0, DX1_castRay_1, DX1_castRay_4, DX1_castRay_5, DX1_castRay_8, DX1_castRay_9, DX1_castRay_10, DX1_castRay_11, DX1_castRay_13, DX1_castRay_14, DX1_castRay_16, DX1_castRay_18, DX1_castRay_20, DX1_castRay_23, DX1_castRay_24, DX1_castRay_26, DX1_castRay_27, DX1_castRay_30, DX1_castRay_31, DX1_castRay_32, DX1_castRay_34, DX1_castRay_35, DX1_castRay_37, DX1_castRay_38, DX1_castRay_41, DX1_castRay_42, DX1_castRay_43, DX1_castRay_45, DX1_castRay_47, DX1_castRay_50, DX1_castRay_52, DX1_castRay_54, DX1_castRay_57, DX1_castRay_59, DX1_castRay_62, DX1_castRay_64, DX1_castRay_66, DX1_castRay_69, DX1_castRay_70, DX1_castRay_72, DX1_castRay_74, DX1_castRay_76, DX1_castRay_77, DX1_castRay_78, DX1_castRay_80, DX1_castRay_81, DX1_castRay_84, DX1_castRay_86, DX1_castRay_87, DX1_castRay_89, DX1_castRay_92, DX1_castRay_95, DX1_castRay_96, DX1_castRay_99, DX1_castRay_101, DX1_castRay_102, DX1_castRay_103, DX1_castRay_104, DX1_castRay_105, DX1_castRay_106, DX1_castRay_107, DX1_castRay_110, DX1_castRay_112, DX1_castRay_113, DX1_castRay_114, DX1_castRay_117, DX1_castRay_119, DX1_castRay_120, DX1_castRay_123, DX1_castRay_125, DX1_castRay_126, DX1_castRay_129, DX1_castRay_130, DX1_castRay_133, DX1_castRay_135, DX1_castRay_136, DX1_castRay_139, DX1_castRay_140, DX1_castRay_141, DX1_castRay_144, DX1_castRay_146, DX1_castRay_148, DX1_castRay_149, DX1_castRay_152, DX1_castRay_155]
      simp (disch := omega) only [i32_lit, i32_neg, i32_add, i32_mul, i32_sub, i32_nI, i32_lt, i32_le, i32_eq, inR_i, i32_clamp, i32_div, i32_max, i32_min, ite_max, ite_min, b2i_0, b2i_1, b2i_01, i32_toInt, tn_i, Int.toNat_natCast, em_t, true_and, and_true, Int.reduceToNat, Int.reduceLE, Int.reduceLT, Int.reduceAdd, Int.reduceMul, Int.reduceSub, Int.reduceNeg, Int.reduceEq, true_implies, not_true_eq_false, false_implies, not_false_eq_true]
      rw [show (k : Int) + 1 = ((k + 1 : Nat) : Int) by omega]
      exact ih (k + 1) (by omega) (by omega) h' (f.tr f') (hD.fh hr f'.1) hS' o6 o7 o8
    have hA0 := hD.1
    have hB0 := hD.2
    obtain ⟨⟨kC, rC0, rC1, rC2, rC3, rC4⟩, ⟨kQ, rQ0, rQ1⟩, ⟨kV, lV⟩, ⟨kG, lG⟩, ⟨kP, lP⟩, ⟨kT, lT⟩, ⟨⟨LB1, LB2, LB3, LB4, LB5, LB6, LB7⟩, ⟨LH1, LH2, LH3, LH4, LH5, LH6, LH7⟩, ⟨LL1, LL2, LL3, LL4, LL5, LL6, LL7⟩⟩, hKB, hHA, hKL, hCJ⟩ := hA0
    obtain ⟨dDy, dEv, dG, dP, dV, dB, dL, dH⟩ := hB0
    have hnb := hW.1
    have hnl := hW.2.1
    have kB := hKB n hn
    obtain ⟨eB0, eB1, eB2, eB3, eB4, eB5, eB6, eB7⟩ := dB n hn
    have qB := LB7 n hn
    obtain ⟨kqB, lqB⟩ := LB6 (by omega)
    obtain ⟨vB0, vB2, vB2', vB02, vB1, vB3, vB3', vB13, vB4, vB4', vB5, vB5', vB6⟩ := hW.2.2.1 n hn
    obtain ⟨kH, ⟨rH5, rH6, rH7, rH8, rH12⟩, ⟨kH4, lH4⟩, ⟨kH5, lH5⟩, ⟨kH6, lH6⟩, ⟨kH7, lH7⟩⟩ := hHA r hr
    obtain ⟨eH0, eH1, eH2, eH3⟩ := dH r hr
    have qH := LH7 r hr
    obtain ⟨kqH, lqH⟩ := LH6 (by omega)
    obtain ⟨vH0, vH0', vH1, vH1', -, vH2, vH2'⟩ := hW.2.2.2.2.1 r hr
    have hd : -1 ≤ S.sn r 0 ∧ S.sn r 0 ≤ 1 ∧ -1 ≤ S.sn r 1 ∧ S.sn r 1 ≤ 1 := ⟨vH0, vH0', vH1, vH1'⟩
    have hxy : 0 ≤ x ∧ x < 16 ∧ 0 ≤ y ∧ y < 16 := by unfold cvx at hb; omega
    have b0 : -28 ≤ (k : Int) * S.sn r 0 ∧ (k : Int) * S.sn r 0 ≤ 28 := by
      rcases tri hd.1 hd.2.1 with q | q | q <;> rw [q] <;> omega
    have b1 : -28 ≤ (k : Int) * S.sn r 1 ∧ (k : Int) * S.sn r 1 ≤ 28 := by
      rcases tri hd.2.2.1 hd.2.2.2 with q | q | q <;> rw [q] <;> omega
    by_cases hin : 0 ≤ x + k * S.sn r 0 ∧ x + k * S.sn r 0 < 16 ∧ 0 ≤ y + k * S.sn r 1 ∧ y + k * S.sn r 1 < 16
    · obtain ⟨c0, hc0⟩ := Int.eq_ofNat_of_zero_le (show 0 ≤ x + k * S.sn r 0 + 16 * (y + k * S.sn r 1) by omega)
      obtain ⟨g1, g2, g3⟩ := cell_xy ⟨hin.1, hin.2.1⟩ ⟨hin.2.2.1, hin.2.2.2⟩ hc0
      have hcell := hS c0 g1
      have hcb := cst_b (S := S) (r := r) (x := xC c0) (y := yC c0) n
      have hcl := cst_l (x := xC c0) (y := yC c0) hW hr n (by omega)
      have hcz := cst_z (S := S) (r := r) (x := xC c0) (y := yC c0) n
      have hst := stp_e hd h6 hb he h1 (show k ≤ reach S n r by omega) g2 g3
      have hnv : RSc S r n y x k c0 = cst S r (xC c0) (yC c0) n := by
        unfold RSc
        rw [if_neg]
        unfold vis
        rw [hst, g2, g3]
        intro z
        rw [show x + k * S.sn r 0 - k * S.sn r 0 = x by omega, show y + k * S.sn r 1 - k * S.sn r 1 = y by omega] at z
        omega
      rw [hnv] at hcell
      by_cases hcov : isCov S (xC c0) (yC c0) = true
      · have v4 := (hcell.1 hcov).1
        refine wpW (cs := []) (stop := [16, 149]) (n := 200) (env_nil0 (env_hh rfl)) ?_
        simp only [↓wpN_S, ↓step_u, ↓stC_s, stC_s, ↓stF_u, stF_u, ↓stepI, lenI, ↓kN_u, isS, ↓gI_0, ↓gI_S, ↓gL_0, ↓gL_S, ↓gD_0, ↓gD_S, ↓gR_0, ↓gR_S, ↓sI_c, ↓sL_c, ↓sD_c, ↓sR_c, ↓s1_r, ↓s1_i, ↓vR_r, ↓vR_n, ↓s0_n, s0_n, ↓oR_u, ↓sP_u, ↓sPa_0, ↓sPa_S, ↓lkC_c, ↓callK_u, ↓cQ_s, ↓cQ_n, putL, putW, clr, kil, catS, catN, refF, booF, finF, nF, nmOf_0, nmOf_1, nmOf_2, nmOf_3, nmOf_4, nmOf_5, nmOf_6, nmOf_50, nmOf_51, nmOf_52, ↓reduceIte, reduceIte, Bool.false_eq_true, eq_self, true_or, or_true, true_and, and_true, false_or, or_false, Nat.reduceAdd, Nat.reduceSub, Nat.reduceEqDiff, Nat.reduceLT, Nat.reduceLeDiff, reduceCtorEq, true_implies, List.length_cons, List.length_nil, List.replicate, List.cons_append, List.nil_append, mrt_X1_castRay, mhh_X1_castRay, mow_X1_castRay, mnl_X1_castRay, DX1_castRay_0, DX1_castRay_1, DX1_castRay_4, DX1_castRay_5, DX1_castRay_8, DX1_castRay_9, DX1_castRay_10, DX1_castRay_11, DX1_castRay_13, DX1_castRay_14, DX1_castRay_16, DX1_castRay_18, DX1_castRay_20, DX1_castRay_23, DX1_castRay_24, DX1_castRay_26, DX1_castRay_27, DX1_castRay_30, DX1_castRay_31, DX1_castRay_32, DX1_castRay_34, DX1_castRay_35, DX1_castRay_37, DX1_castRay_38, DX1_castRay_41, DX1_castRay_42, DX1_castRay_43, DX1_castRay_45, DX1_castRay_47, DX1_castRay_50, DX1_castRay_52, DX1_castRay_54, DX1_castRay_57, DX1_castRay_59, DX1_castRay_62, DX1_castRay_64, DX1_castRay_66, DX1_castRay_69, DX1_castRay_70, DX1_castRay_72, DX1_castRay_74, DX1_castRay_76, DX1_castRay_77, DX1_castRay_78, DX1_castRay_80, DX1_castRay_81, DX1_castRay_84, DX1_castRay_86, DX1_castRay_87, DX1_castRay_89, DX1_castRay_92, DX1_castRay_95, DX1_castRay_96, DX1_castRay_99, DX1_castRay_101, DX1_castRay_102, DX1_castRay_103, DX1_castRay_104, DX1_castRay_105, DX1_castRay_106, DX1_castRay_107, DX1_castRay_110, DX1_castRay_112, DX1_castRay_113, DX1_castRay_114, DX1_castRay_117, DX1_castRay_119, DX1_castRay_120, DX1_castRay_123, DX1_castRay_125, DX1_castRay_126, DX1_castRay_129, DX1_castRay_130, DX1_castRay_133, DX1_castRay_135, DX1_castRay_136, DX1_castRay_139, DX1_castRay_140, DX1_castRay_141, DX1_castRay_144, DX1_castRay_146, DX1_castRay_148, DX1_castRay_149, DX1_castRay_152, DX1_castRay_155]
        simp (disch := omega) only [i32_lit, i32_neg, i32_add, i32_mul, i32_sub, i32_nI, i32_lt, i32_le, i32_eq, inR_i, i32_clamp, i32_div, i32_max, i32_min, ite_max, ite_min, b2i_0, b2i_1, b2i_01, i32_toInt, tn_i, Int.toNat_natCast, em_t, true_and, and_true, Int.reduceToNat, Int.reduceLE, Int.reduceLT, Int.reduceAdd, Int.reduceMul, Int.reduceSub, Int.reduceNeg, Int.reduceEq, true_implies, not_true_eq_false, false_implies, not_false_eq_true, kC, rC0, rC1, rC2, rC3, rC4, kQ, rQ0, rQ1, kV, lV, kG, lG, kP, lP, kT, lT, LB1, LB2, LB3, LH1, LH2, LH3, LL1, LL2, LL3, dDy, dEv, true_and, and_true, Option.some.injEq, exists_eq_left', nmOf_0, nmOf_1, nmOf_2, nmOf_3, nmOf_4, nmOf_5, nmOf_6, Nat.add_sub_cancel, Nat.reduceSub, Nat.reduceLT, Nat.reduceEqDiff, ne_eq, not_false_eq_true, kB, eB0, eB1, eB2, eB3, eB4, eB5, eB6, eB7, qB, kqB, lqB, kH, rH5, rH6, rH7, rH8, rH12, kH4, lH4, kH5, lH5, kH6, lH6, kH7, lH7, eH0, eH1, eH2, eH3, qH, kqH, lqH, hc0, v4]
        refine ⟨fun _ => by omega, fun _ => ⟨fun _ => by omega, fun _ => ⟨fun _ => by omega, fun _ => ⟨fun _ => by omega, fun _ => ⟨fun _ => ⟨by omega, ?_⟩, fun _ => by omega⟩⟩⟩⟩⟩
        exact hjp h FQ.rf (RS_s hd hn h6 hb he h1 (by omega) g1 g2 g3 hS (fun c _ t f => f) (fun f => ⟨f.1, fun q => by rw [hcov] at q; cases q⟩)) _ _ _
      · have hcov : isCov S (xC c0) (yC c0) = false := by simpa using hcov
        obtain ⟨v4, v5, v8⟩ := hcell.2 hcov
        have hJ := hCJ.2.2.2.2.2
        have n45 : ¬ D 4 r = D 5 r := fun q => by have := hJ 4 r 5 r (Or.inr ⟨by omega, by omega, hr⟩) (Or.inr ⟨by omega, by omega, hr⟩) q; omega
        have n54 : ¬ D 5 r = D 4 r := fun q => n45 q.symm
        have n48 : ¬ D 4 r = D 0 8 := fun q => by have := hJ 4 r 0 8 (Or.inr ⟨by omega, by omega, hr⟩) (Or.inl (by omega)) q; omega
        have n84 : ¬ D 0 8 = D 4 r := fun q => n48 q.symm
        have n58 : ¬ D 5 r = D 0 8 := fun q => by have := hJ 5 r 0 8 (Or.inr ⟨by omega, by omega, hr⟩) (Or.inl (by omega)) q; omega
        have n85 : ¬ D 0 8 = D 5 r := fun q => n58 q.symm
        refine wpW (cs := []) (stop := [16, 149]) (n := 200) (env_nil0 (env_hh rfl)) ?_
        simp only [↓wpN_S, ↓step_u, ↓stC_s, stC_s, ↓stF_u, stF_u, ↓stepI, lenI, ↓kN_u, isS, ↓gI_0, ↓gI_S, ↓gL_0, ↓gL_S, ↓gD_0, ↓gD_S, ↓gR_0, ↓gR_S, ↓sI_c, ↓sL_c, ↓sD_c, ↓sR_c, ↓s1_r, ↓s1_i, ↓vR_r, ↓vR_n, ↓s0_n, s0_n, ↓oR_u, ↓sP_u, ↓sPa_0, ↓sPa_S, ↓lkC_c, ↓callK_u, ↓cQ_s, ↓cQ_n, putL, putW, clr, kil, catS, catN, refF, booF, finF, nF, nmOf_0, nmOf_1, nmOf_2, nmOf_3, nmOf_4, nmOf_5, nmOf_6, nmOf_50, nmOf_51, nmOf_52, ↓reduceIte, reduceIte, Bool.false_eq_true, eq_self, true_or, or_true, true_and, and_true, false_or, or_false, Nat.reduceAdd, Nat.reduceSub, Nat.reduceEqDiff, Nat.reduceLT, Nat.reduceLeDiff, reduceCtorEq, true_implies, List.length_cons, List.length_nil, List.replicate, List.cons_append, List.nil_append, mrt_X1_castRay, mhh_X1_castRay, mow_X1_castRay, mnl_X1_castRay, DX1_castRay_0, DX1_castRay_1, DX1_castRay_4, DX1_castRay_5, DX1_castRay_8, DX1_castRay_9, DX1_castRay_10, DX1_castRay_11, DX1_castRay_13, DX1_castRay_14, DX1_castRay_16, DX1_castRay_18, DX1_castRay_20, DX1_castRay_23, DX1_castRay_24, DX1_castRay_26, DX1_castRay_27, DX1_castRay_30, DX1_castRay_31, DX1_castRay_32, DX1_castRay_34, DX1_castRay_35, DX1_castRay_37, DX1_castRay_38, DX1_castRay_41, DX1_castRay_42, DX1_castRay_43, DX1_castRay_45, DX1_castRay_47, DX1_castRay_50, DX1_castRay_52, DX1_castRay_54, DX1_castRay_57, DX1_castRay_59, DX1_castRay_62, DX1_castRay_64, DX1_castRay_66, DX1_castRay_69, DX1_castRay_70, DX1_castRay_72, DX1_castRay_74, DX1_castRay_76, DX1_castRay_77, DX1_castRay_78, DX1_castRay_80, DX1_castRay_81, DX1_castRay_84, DX1_castRay_86, DX1_castRay_87, DX1_castRay_89, DX1_castRay_92, DX1_castRay_95, DX1_castRay_96, DX1_castRay_99, DX1_castRay_101, DX1_castRay_102, DX1_castRay_103, DX1_castRay_104, DX1_castRay_105, DX1_castRay_106, DX1_castRay_107, DX1_castRay_110, DX1_castRay_112, DX1_castRay_113, DX1_castRay_114, DX1_castRay_117, DX1_castRay_119, DX1_castRay_120, DX1_castRay_123, DX1_castRay_125, DX1_castRay_126, DX1_castRay_129, DX1_castRay_130, DX1_castRay_133, DX1_castRay_135, DX1_castRay_136, DX1_castRay_139, DX1_castRay_140, DX1_castRay_141, DX1_castRay_144, DX1_castRay_146, DX1_castRay_148, DX1_castRay_149, DX1_castRay_152, DX1_castRay_155]
        simp (disch := omega) only [i32_lit, i32_neg, i32_add, i32_mul, i32_sub, i32_nI, i32_lt, i32_le, i32_eq, inR_i, i32_clamp, i32_div, i32_max, i32_min, ite_max, ite_min, b2i_0, b2i_1, b2i_01, i32_toInt, tn_i, Int.toNat_natCast, em_t, true_and, and_true, Int.reduceToNat, Int.reduceLE, Int.reduceLT, Int.reduceAdd, Int.reduceMul, Int.reduceSub, Int.reduceNeg, Int.reduceEq, true_implies, not_true_eq_false, false_implies, not_false_eq_true, kC, rC0, rC1, rC2, rC3, rC4, kQ, rQ0, rQ1, kV, lV, kG, lG, kP, lP, kT, lT, LB1, LB2, LB3, LH1, LH2, LH3, LL1, LL2, LL3, dDy, dEv, true_and, and_true, Option.some.injEq, exists_eq_left', nmOf_0, nmOf_1, nmOf_2, nmOf_3, nmOf_4, nmOf_5, nmOf_6, Nat.add_sub_cancel, Nat.reduceSub, Nat.reduceLT, Nat.reduceEqDiff, ne_eq, not_false_eq_true, kB, eB0, eB1, eB2, eB3, eB4, eB5, eB6, eB7, qB, kqB, lqB, kH, rH5, rH6, rH7, rH8, rH12, kH4, lH4, kH5, lH5, kH6, lH6, kH7, lH7, eH0, eH1, eH2, eH3, qH, kqH, lqH, hc0, v4, v5, kd_setI, fi_setI, fr_setI, ln_setI, ia_setI, ja_setI, ra_setI, kd_setR, fi_setR, fr_setR, ln_setR, ia_setR, ja_setR, ra_setR, kd_setIA, fi_setIA, fr_setIA, ln_setIA, ia_setIA, ja_setIA, ra_setIA, kd_setLA, fi_setLA, fr_setLA, ln_setLA, ia_setLA, ja_setLA, ra_setLA, kd_setRA, fi_setRA, fr_setRA, ln_setRA, ia_setRA, ja_setRA, ra_setRA, kd_cpRA, fi_cpRA, fr_cpRA, ln_cpRA, ia_cpRA, ja_cpRA, ra_cpRA, kd_cpIA, fi_cpIA, fr_cpIA, ln_cpIA, ia_cpIA, ja_cpIA, ra_cpIA, kd_newO, fi_newO, fr_newO, ln_newO, ia_newO, ja_newO, ra_newO, kd_newA, fi_newA, fr_newA, ln_newA, ia_newA, ja_newA, ra_newA, n45, n54, n48, n84, n58, n85, false_and, if_false, and_self, if_true]
        have hRS : ∀ h', (∀ i, i ≠ c0 → ia h' (D 4 r) i = ia h (D 4 r) i ∧ ia h' (D 5 r) i = ia h (D 5 r) i ∧ ia h' (D 0 8) i = ia h (D 0 8) i) → ia h' (D 5 r) c0 = i32 ((cst S r (xC c0) (yC c0) n).2.1 + 1) → (¬ ((cst S r (xC c0) (yC c0) n).1 ≠ -1 ∧ (cst S r (xC c0) (yC c0) n).2.2 ≤ k) → ia h' (D 4 r) c0 = i32 n ∧ ia h' (D 0 8) c0 = i32 k) → (((cst S r (xC c0) (yC c0) n).1 ≠ -1 ∧ (cst S r (xC c0) (yC c0) n).2.2 ≤ k) → ia h' (D 4 r) c0 = i32 (cst S r (xC c0) (yC c0) n).1 ∧ ia h' (D 0 8) c0 = i32 (cst S r (xC c0) (yC c0) n).2.2) → RS h' D S r n y x (k + 1) := fun h' p1 p2 p3 p4 => by
          refine RS_s hd hn h6 hb he h1 (by omega) g1 g2 g3 hS (fun c hc t ff => ?_) (fun _ => ⟨fun q => (by rw [hcov] at q; cases q), fun _ => ?_⟩)
          · obtain ⟨q1, q2, q3⟩ := p1 c hc
            unfold CellIs
            rw [q1, q2, q3]
            exact ff
          · have hs0 : ¬ stp S n r (xC c0) (yC c0) = 0 := by rw [hst]; omega
            by_cases z : (cst S r (xC c0) (yC c0) n).1 ≠ -1 ∧ (cst S r (xC c0) (yC c0) n).2.2 ≤ k
            · obtain ⟨q1, q2⟩ := p4 z
              rw [cst_o hs0 (by rw [hst]; exact z)]
              exact ⟨q1, p2, fun _ => q2⟩
            · obtain ⟨q1, q2⟩ := p3 z
              rw [cst_n hs0 (by rw [hst]; exact z), hst]
              exact ⟨q1, p2, fun _ => q2⟩
        have hS3 : ¬ ((cst S r (xC c0) (yC c0) n).1 ≠ -1 ∧ (cst S r (xC c0) (yC c0) n).2.2 ≤ k) → Wp G MX1_castRay false 0 Q QX 149 [some (.ref (D 2 r)), some (.ref (D 1 n)), some (.int (i32 x)), some (.int (i32 y)), some (.int (i32 (reach S n r))), some (.int (i32 k)), some (.int (i32 (x + k * S.sn r 0))), some (.int (i32 (y + k * S.sn r 1))), some (.int (i32 c0))] [] (setIA (setIA (setIA h (D 5 r) c0 (i32 ((cst S r (xC c0) (yC c0) n).2.1 + 1))) (D 4 r) c0 (i32 n)) (D 0 8) c0 (i32 k)) (0, 0) := fun z => by
          refine hjp _ (((FQ.sA (by omega)).tr (FQ.sA (by omega))).tr (FQ.sA (by omega))) (hRS _ (fun i hi => ?_) ?_ (fun _ => ?_) (fun z' => absurd z' z)) _ _ _
          · simp only [ia_setIA, n45, n54, n48, n84, n58, n85, hi, false_and, and_false, if_false, and_self]
          · simp only [ia_setIA, n45, n54, n48, n84, n58, n85, false_and, and_false, if_false, and_self, if_true]
          · simp only [ia_setIA, n45, n54, n48, n84, n58, n85, false_and, and_false, if_false, and_self, if_true]
        refine ⟨fun _ => by omega, fun _ => ⟨fun _ => by omega, fun _ => ⟨fun _ => by omega, fun _ => ⟨fun _ => by omega, fun _ => ⟨fun _ => ⟨by omega, ?_⟩, fun _ => by omega⟩⟩⟩⟩⟩
        refine ⟨fun h7 => ⟨by omega, by omega, by omega, fun h8 => ⟨by omega, by omega, hS3 (by omega)⟩, fun h8 => ⟨by omega, ?_⟩⟩, fun h7 => by omega⟩
        have hm : (cst S r (xC c0) (yC c0) n).2.1 ≠ 0 := by omega
        rw [v8 hm]
        simp (disch := omega) only [i32_lit, i32_neg, i32_add, i32_mul, i32_sub, i32_nI, i32_lt, i32_le, i32_eq, inR_i, i32_clamp, i32_div, i32_max, i32_min, ite_max, ite_min, b2i_0, b2i_1, b2i_01, i32_toInt, tn_i, Int.toNat_natCast, em_t, true_and, and_true, Int.reduceToNat, Int.reduceLE, Int.reduceLT, Int.reduceAdd, Int.reduceMul, Int.reduceSub, Int.reduceNeg, Int.reduceEq, true_implies, not_true_eq_false, false_implies, not_false_eq_true]
        refine ⟨fun h9 => ?_, fun h9 => ⟨by omega, by omega, hS3 (by omega)⟩⟩
        refine hjp _ (FQ.sA (by omega)) (hRS _ (fun i hi => ?_) ?_ (fun z => by omega) (fun _ => ?_)) _ _ _
        · simp only [ia_setIA, n45, n54, n48, n84, n58, n85, hi, false_and, and_false, if_false, and_self]
        · simp only [ia_setIA, and_self, if_true]
        · simp only [ia_setIA, n45, n54, n48, n84, n58, n85, false_and, if_false]
          exact ⟨v4, v8 hm⟩
    · refine wpW (cs := []) (stop := [16, 70]) (n := 200) (env_nil0 (env_hh rfl)) ?_
      simp only [↓wpN_S, ↓step_u, ↓stC_s, stC_s, ↓stF_u, stF_u, ↓stepI, lenI, ↓kN_u, isS, ↓gI_0, ↓gI_S, ↓gL_0, ↓gL_S, ↓gD_0, ↓gD_S, ↓gR_0, ↓gR_S, ↓sI_c, ↓sL_c, ↓sD_c, ↓sR_c, ↓s1_r, ↓s1_i, ↓vR_r, ↓vR_n, ↓s0_n, s0_n, ↓oR_u, ↓sP_u, ↓sPa_0, ↓sPa_S, ↓lkC_c, ↓callK_u, ↓cQ_s, ↓cQ_n, putL, putW, clr, kil, catS, catN, refF, booF, finF, nF, nmOf_0, nmOf_1, nmOf_2, nmOf_3, nmOf_4, nmOf_5, nmOf_6, nmOf_50, nmOf_51, nmOf_52, ↓reduceIte, reduceIte, Bool.false_eq_true, eq_self, true_or, or_true, true_and, and_true, false_or, or_false, Nat.reduceAdd, Nat.reduceSub, Nat.reduceEqDiff, Nat.reduceLT, Nat.reduceLeDiff, reduceCtorEq, true_implies, List.length_cons, List.length_nil, List.replicate, List.cons_append, List.nil_append, mrt_X1_castRay, mhh_X1_castRay, mow_X1_castRay, mnl_X1_castRay, DX1_castRay_0, DX1_castRay_1, DX1_castRay_4, DX1_castRay_5, DX1_castRay_8, DX1_castRay_9, DX1_castRay_10, DX1_castRay_11, DX1_castRay_13, DX1_castRay_14, DX1_castRay_16, DX1_castRay_18, DX1_castRay_20, DX1_castRay_23, DX1_castRay_24, DX1_castRay_26, DX1_castRay_27, DX1_castRay_30, DX1_castRay_31, DX1_castRay_32, DX1_castRay_34, DX1_castRay_35, DX1_castRay_37, DX1_castRay_38, DX1_castRay_41, DX1_castRay_42, DX1_castRay_43, DX1_castRay_45, DX1_castRay_47, DX1_castRay_50, DX1_castRay_52, DX1_castRay_54, DX1_castRay_57, DX1_castRay_59, DX1_castRay_62, DX1_castRay_64, DX1_castRay_66, DX1_castRay_69, DX1_castRay_70, DX1_castRay_72, DX1_castRay_74, DX1_castRay_76, DX1_castRay_77, DX1_castRay_78, DX1_castRay_80, DX1_castRay_81, DX1_castRay_84, DX1_castRay_86, DX1_castRay_87, DX1_castRay_89, DX1_castRay_92, DX1_castRay_95, DX1_castRay_96, DX1_castRay_99, DX1_castRay_101, DX1_castRay_102, DX1_castRay_103, DX1_castRay_104, DX1_castRay_105, DX1_castRay_106, DX1_castRay_107, DX1_castRay_110, DX1_castRay_112, DX1_castRay_113, DX1_castRay_114, DX1_castRay_117, DX1_castRay_119, DX1_castRay_120, DX1_castRay_123, DX1_castRay_125, DX1_castRay_126, DX1_castRay_129, DX1_castRay_130, DX1_castRay_133, DX1_castRay_135, DX1_castRay_136, DX1_castRay_139, DX1_castRay_140, DX1_castRay_141, DX1_castRay_144, DX1_castRay_146, DX1_castRay_148, DX1_castRay_149, DX1_castRay_152, DX1_castRay_155]
      simp (disch := omega) only [i32_lit, i32_neg, i32_add, i32_mul, i32_sub, i32_nI, i32_lt, i32_le, i32_eq, inR_i, i32_clamp, i32_div, i32_max, i32_min, ite_max, ite_min, b2i_0, b2i_1, b2i_01, i32_toInt, tn_i, Int.toNat_natCast, em_t, true_and, and_true, Int.reduceToNat, Int.reduceLE, Int.reduceLT, Int.reduceAdd, Int.reduceMul, Int.reduceSub, Int.reduceNeg, Int.reduceEq, true_implies, not_true_eq_false, false_implies, not_false_eq_true, kC, rC0, rC1, rC2, rC3, rC4, kQ, rQ0, rQ1, kV, lV, kG, lG, kP, lP, kT, lT, LB1, LB2, LB3, LH1, LH2, LH3, LL1, LL2, LL3, dDy, dEv, true_and, and_true, Option.some.injEq, exists_eq_left', nmOf_0, nmOf_1, nmOf_2, nmOf_3, nmOf_4, nmOf_5, nmOf_6, Nat.add_sub_cancel, Nat.reduceSub, Nat.reduceLT, Nat.reduceEqDiff, ne_eq, not_false_eq_true, kB, eB0, eB1, eB2, eB3, eB4, eB5, eB6, eB7, qB, kqB, lqB, kH, rH5, rH6, rH7, rH8, rH12, kH4, lH4, kH5, lH5, kH6, lH6, kH7, lH7, eH0, eH1, eH2, eH3, qH, kqH, lqH]
      have hQ := hq h f (RS_o hd hn hxy hS hin)
      exact ⟨fun _ => hQ, fun _ => ⟨fun _ => hQ, fun _ => ⟨fun _ => hQ, fun _ => ⟨fun _ => hQ, fun _ => ⟨fun _ => by omega, fun _ => hQ⟩⟩⟩⟩⟩
set_option maxRecDepth 100000 in
set_option maxHeartbeats 4000000 in
theorem ok_X1_castRay (G : GT) (G : GT) (D : WD) (S : SS) (hW : WF S) : OKm G yX1_castRay MX1_castRay 0 0 0 (ct_X1_castRay G D S) := by
  refine mkOK (ini := false) (by decide) rfl (by first | exact fun _ => rfl | (intro hh; cases hh)) (fun As h Q QX hc => ?_)
  replace hc := sR_e hc; obtain ⟨a, r, rfl, hc⟩ := hc
  replace hc := sR_e hc; obtain ⟨b, r, rfl, hc⟩ := hc
  replace hc := sI_e hc; obtain ⟨x, r, rfl, hc⟩ := hc
  replace hc := sI_e hc; obtain ⟨y, r, rfl, hc⟩ := hc
  replace hc := s0_e hc; obtain ⟨rfl, hc⟩ := hc
  obtain ⟨hD, r, n, hr, hn, rfl, rfl, h6, hb, he, hS, hq⟩ := hc
  obtain ⟨xV, hxV, rfl⟩ := i32_all x
  obtain ⟨yV, hyV, rfl⟩ := i32_all y
  rw [i32_toInt hxV, i32_toInt hyV] at hb he hS
  rw [i32_toInt hxV, i32_toInt hyV] at hq
  have hre := reach_le hW hn hr
  have hD0 := hD
  have hA0 := hD.1
  have hB0 := hD.2
  obtain ⟨⟨kC, rC0, rC1, rC2, rC3, rC4⟩, ⟨kQ, rQ0, rQ1⟩, ⟨kV, lV⟩, ⟨kG, lG⟩, ⟨kP, lP⟩, ⟨kT, lT⟩, ⟨⟨LB1, LB2, LB3, LB4, LB5, LB6, LB7⟩, ⟨LH1, LH2, LH3, LH4, LH5, LH6, LH7⟩, ⟨LL1, LL2, LL3, LL4, LL5, LL6, LL7⟩⟩, hKB, hHA, hKL, hCJ⟩ := hA0
  obtain ⟨dDy, dEv, dG, dP, dV, dB, dL, dH⟩ := hB0
  have hnb := hW.1
  have hnl := hW.2.1
  have kB := hKB n hn
  obtain ⟨eB0, eB1, eB2, eB3, eB4, eB5, eB6, eB7⟩ := dB n hn
  have qB := LB7 n hn
  obtain ⟨kqB, lqB⟩ := LB6 (by omega)
  obtain ⟨vB0, vB2, vB2', vB02, vB1, vB3, vB3', vB13, vB4, vB4', vB5, vB5', vB6⟩ := hW.2.2.1 n hn
  obtain ⟨kH, ⟨rH5, rH6, rH7, rH8, rH12⟩, ⟨kH4, lH4⟩, ⟨kH5, lH5⟩, ⟨kH6, lH6⟩, ⟨kH7, lH7⟩⟩ := hHA r hr
  obtain ⟨eH0, eH1, eH2, eH3⟩ := dH r hr
  have qH := LH7 r hr
  obtain ⟨kqH, lqH⟩ := LH6 (by omega)
  obtain ⟨vH0, vH0', vH1, vH1', -, vH2, vH2'⟩ := hW.2.2.2.2.1 r hr
  have b2 : 0 ≤ S.sn r 2 * S.bf n 4 ∧ S.sn r 2 * S.bf n 4 ≤ 54 := ⟨Int.mul_nonneg (by omega) (by omega), Int.le_trans (Int.mul_le_mul vH2' vB4' (by omega) (by omega)) (by omega)⟩
  have er : S.sn r 2 * S.bf n 4 / 2 = ((reach S n r : Nat) : Int) := by unfold reach; omega
  refine ⟨Nat.le_of_ble_eq_true rfl, ?_⟩
  simp only [ent, entL, catN, List.length_cons, List.length_nil, List.replicate, List.cons_append, List.nil_append, reduceIte, Nat.reduceEqDiff,  Nat.reduceAdd, Nat.reduceSub, mnl_X1_castRay]
  refine wpW (cs := []) (stop := [16]) (n := 200) (env_nil0 (env_hh rfl)) ?_
  simp only [↓wpN_S, ↓step_u, ↓stC_s, stC_s, ↓stF_u, stF_u, ↓stepI, lenI, ↓kN_u, isS, ↓gI_0, ↓gI_S, ↓gL_0, ↓gL_S, ↓gD_0, ↓gD_S, ↓gR_0, ↓gR_S, ↓sI_c, ↓sL_c, ↓sD_c, ↓sR_c, ↓s1_r, ↓s1_i, ↓vR_r, ↓vR_n, ↓s0_n, s0_n, ↓oR_u, ↓sP_u, ↓sPa_0, ↓sPa_S, ↓lkC_c, ↓callK_u, ↓cQ_s, ↓cQ_n, putL, putW, clr, kil, catS, catN, refF, booF, finF, nF, nmOf_0, nmOf_1, nmOf_2, nmOf_3, nmOf_4, nmOf_5, nmOf_6, nmOf_50, nmOf_51, nmOf_52, ↓reduceIte, reduceIte, Bool.false_eq_true, eq_self, true_or, or_true, true_and, and_true, false_or, or_false, Nat.reduceAdd, Nat.reduceSub, Nat.reduceEqDiff, Nat.reduceLT, Nat.reduceLeDiff, reduceCtorEq, true_implies, List.length_cons, List.length_nil, List.replicate, List.cons_append, List.nil_append, mrt_X1_castRay, mhh_X1_castRay, mow_X1_castRay, mnl_X1_castRay, DX1_castRay_0, DX1_castRay_1, DX1_castRay_4, DX1_castRay_5, DX1_castRay_8, DX1_castRay_9, DX1_castRay_10, DX1_castRay_11, DX1_castRay_13, DX1_castRay_14, DX1_castRay_16, DX1_castRay_18, DX1_castRay_20, DX1_castRay_23, DX1_castRay_24, DX1_castRay_26, DX1_castRay_27, DX1_castRay_30, DX1_castRay_31, DX1_castRay_32, DX1_castRay_34, DX1_castRay_35, DX1_castRay_37, DX1_castRay_38, DX1_castRay_41, DX1_castRay_42, DX1_castRay_43, DX1_castRay_45, DX1_castRay_47, DX1_castRay_50, DX1_castRay_52, DX1_castRay_54, DX1_castRay_57, DX1_castRay_59, DX1_castRay_62, DX1_castRay_64, DX1_castRay_66, DX1_castRay_69, DX1_castRay_70, DX1_castRay_72, DX1_castRay_74, DX1_castRay_76, DX1_castRay_77, DX1_castRay_78, DX1_castRay_80, DX1_castRay_81, DX1_castRay_84, DX1_castRay_86, DX1_castRay_87, DX1_castRay_89, DX1_castRay_92, DX1_castRay_95, DX1_castRay_96, DX1_castRay_99, DX1_castRay_101, DX1_castRay_102, DX1_castRay_103, DX1_castRay_104, DX1_castRay_105, DX1_castRay_106, DX1_castRay_107, DX1_castRay_110, DX1_castRay_112, DX1_castRay_113, DX1_castRay_114, DX1_castRay_117, DX1_castRay_119, DX1_castRay_120, DX1_castRay_123, DX1_castRay_125, DX1_castRay_126, DX1_castRay_129, DX1_castRay_130, DX1_castRay_133, DX1_castRay_135, DX1_castRay_136, DX1_castRay_139, DX1_castRay_140, DX1_castRay_141, DX1_castRay_144, DX1_castRay_146, DX1_castRay_148, DX1_castRay_149, DX1_castRay_152, DX1_castRay_155]
  simp (disch := omega) only [i32_lit, i32_neg, i32_add, i32_mul, i32_sub, i32_nI, i32_lt, i32_le, i32_eq, inR_i, i32_clamp, i32_div, i32_max, i32_min, ite_max, ite_min, b2i_0, b2i_1, b2i_01, i32_toInt, tn_i, Int.toNat_natCast, em_t, true_and, and_true, Int.reduceToNat, Int.reduceLE, Int.reduceLT, Int.reduceAdd, Int.reduceMul, Int.reduceSub, Int.reduceNeg, Int.reduceEq, true_implies, not_true_eq_false, false_implies, not_false_eq_true, kC, rC0, rC1, rC2, rC3, rC4, kQ, rQ0, rQ1, kV, lV, kG, lG, kP, lP, kT, lT, LB1, LB2, LB3, LH1, LH2, LH3, LL1, LL2, LL3, dDy, dEv, true_and, and_true, Option.some.injEq, exists_eq_left', nmOf_0, nmOf_1, nmOf_2, nmOf_3, nmOf_4, nmOf_5, nmOf_6, Nat.add_sub_cancel, Nat.reduceSub, Nat.reduceLT, Nat.reduceEqDiff, ne_eq, not_false_eq_true, kB, eB0, eB1, eB2, eB3, eB4, eB5, eB6, eB7, qB, kqB, lqB, kH, rH5, rH6, rH7, rH8, rH12, kH4, lH4, kH5, lH5, kH6, lH6, kH7, lH7, eH0, eH1, eH2, eH3, qH, kqH, lqH, er]
  exact lp_X1_castRay G hW hr hn h6 hb he hq (reach S n r) 1 (by omega) (by omega) h FQ.rf hD0 hS none none none

