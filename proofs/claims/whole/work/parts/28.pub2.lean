/-! ===== the reference: count, cellOf ===== -/
def ct_X5_counted (A : Nat → Nat) (S : SS) : Ct := fun As h Q _ => sR As fun m r => sI r fun w r => s0 r (MD h m A S ∧ MC h A S ∧ (0 ≤ w.toInt ∧ w.toInt ≤ 5) ∧ Q (some (.int (i32 (coT S (tn w))))) h)
def ce_X5_counted (A : Nat → Nat) (S : SS) : CE := (0, yX5_counted, MX5_counted, 1, 1, 0, 0, ct_X5_counted A S)
set_option maxRecDepth 100000 in
set_option maxHeartbeats 4000000 in
theorem lp_X5_counted43 (G : GT) {A : Nat → Nat} {S : SS} (hW : WF S) {h : Hp} {m : Nat} {w : Int} {Q : Option Value → Hp → Prop} {QX : String → Hp → Prop} (hM : MD h m A S) (hC : MC h A S) (hq : Q (some (.int (i32 (sumN (fun b => S.bf b 6) (S.nb))))) h) :
    ∀ k i : Nat, i + k = S.nb → Wp G MX5_counted false 1 Q QX 43 [some (.ref m), some (.int (i32 w)), some (.int (i32 (sumN (fun b => S.bf b 6) i))), some (.int (i32 i))] [] h (0, 0) := by
  have hnb := hW.1
  have hnl := hW.2.1
  have hM0 := hM
  obtain ⟨⟨hk, hA, hJ⟩, fd, fe, fb, fl, hB, hL, hN, hG, hP⟩ := hM0
  obtain ⟨a5, k5, l5⟩ := hA 5 (by omega) (by omega)
  obtain ⟨a6, k6, l6⟩ := hA 6 (by omega) (by omega)
  obtain ⟨a7, k7, l7⟩ := hA 7 (by omega) (by omega)
  obtain ⟨a8, k8, l8⟩ := hA 8 (by omega) (by omega)
  obtain ⟨a9, k9, l9⟩ := hA 9 (by omega) (by omega)
  obtain ⟨a10, k10, l10⟩ := hA 10 (by omega) (by omega)
  obtain ⟨a11, k11, l11⟩ := hA 11 (by omega) (by omega)
  simp only [mLen] at l5 l6 l7 l8 l9 l10 l11
  intro k
  induction k with
  | zero =>
    intro i hi
    refine wpW (cs := [(50, ce_X5_bu A S), (86, ce_X5_get A S)]) (stop := [43, 71, 104, 129]) (n := 200) (env_cons (ceV (by decide +kernel) ⟨by decide, by decide, by decide +kernel⟩ (by decide) rfl (ok_X5_bu G A S hW)) (env_cons (ceV (by decide +kernel) ⟨by decide, by decide, by decide +kernel⟩ (by decide) rfl (ok_X5_get G A S hW)) (env_nil0 (env_hh rfl)))) ?_
    simp only [↓wpN_S, ↓step_u, ↓stC_s, stC_s, ↓stF_u, stF_u, ↓stepI, lenI, ↓kN_u, isS, ↓gI_0, ↓gI_S, ↓gL_0, ↓gL_S, ↓gD_0, ↓gD_S, ↓gR_0, ↓gR_S, ↓sI_c, ↓sL_c, ↓sD_c, ↓sR_c, ↓s1_r, ↓s1_i, ↓vR_r, ↓vR_n, ↓s0_n, s0_n, ↓oR_u, ↓sP_u, ↓sPa_0, ↓sPa_S, ↓lkC_c, ↓callK_u, ↓cQ_s, ↓cQ_n, putL, putW, clr, kil, catS, catN, refF, booF, finF, nF, nmOf_0, nmOf_1, nmOf_2, nmOf_3, nmOf_4, nmOf_5, nmOf_6, nmOf_50, nmOf_51, nmOf_52, ↓reduceIte, reduceIte, Bool.false_eq_true, eq_self, true_or, or_true, true_and, and_true, false_or, or_false, Nat.reduceAdd, Nat.reduceSub, Nat.reduceEqDiff, Nat.reduceLT, Nat.reduceLeDiff, reduceCtorEq, true_implies, List.length_cons, List.length_nil, List.replicate, List.cons_append, List.nil_append, mrt_X5_counted, mhh_X5_counted, mow_X5_counted, mnl_X5_counted, DX5_counted_0, DX5_counted_1, DX5_counted_2, DX5_counted_3, DX5_counted_36, DX5_counted_37, DX5_counted_40, DX5_counted_41, DX5_counted_42, DX5_counted_43, DX5_counted_44, DX5_counted_45, DX5_counted_48, DX5_counted_51, DX5_counted_52, DX5_counted_53, DX5_counted_54, DX5_counted_56, DX5_counted_59, DX5_counted_60, DX5_counted_61, DX5_counted_64, DX5_counted_67, DX5_counted_68, DX5_counted_69, DX5_counted_70, DX5_counted_71, DX5_counted_72, DX5_counted_73, DX5_counted_76, DX5_counted_79, DX5_counted_80, DX5_counted_81, DX5_counted_82, DX5_counted_84, DX5_counted_87, DX5_counted_88, DX5_counted_89, DX5_counted_92, DX5_counted_95, DX5_counted_96, DX5_counted_97, DX5_counted_98, DX5_counted_101, DX5_counted_102, DX5_counted_103, DX5_counted_104, DX5_counted_105, DX5_counted_107, DX5_counted_110, DX5_counted_111, DX5_counted_112, DX5_counted_115, DX5_counted_116, DX5_counted_117, DX5_counted_118, DX5_counted_119, DX5_counted_122, DX5_counted_125, DX5_counted_126, DX5_counted_127, DX5_counted_128, DX5_counted_129, DX5_counted_130, DX5_counted_133, DX5_counted_136, DX5_counted_137, DX5_counted_138, DX5_counted_141, DX5_counted_142, DX5_counted_143, DX5_counted_145, DX5_counted_148, DX5_counted_149, DX5_counted_152, DX5_counted_153, DX5_counted_154, DX5_counted_155, DX5_counted_158, DX5_counted_161, DX5_counted_162, ce_X5_bu, ↓ct_X5_bu, ycl_X5_bu, ce_X5_get, ↓ct_X5_get, ycl_X5_get, cX_nil mhh_X5_counted]
    simp (disch := omega) only [i32_lit, i32_neg, i32_add, i32_mul, i32_sub, i32_nI, i32_lt, i32_le, i32_eq, inR_i, i32_clamp, i32_div, i32_max, i32_min, ite_max, ite_min, b2i_0, b2i_1, b2i_01, i32_toInt, tn_i, Int.toNat_natCast, em_t, true_and, and_true, Int.reduceToNat, Int.reduceLE, Int.reduceLT, Int.reduceAdd, Int.reduceMul, Int.reduceSub, Int.reduceNeg, Int.reduceEq, true_implies, not_true_eq_false, false_implies, not_false_eq_true, hM, hk, fd, fe, fb, fl, a5, k5, l5, a6, k6, l6, a7, k7, l7, a8, k8, l8, a9, k9, l9, a10, k10, l10, a11, k11, l11, true_and, and_true, Option.some.injEq, exists_eq_left', nmOf_0, nmOf_1, nmOf_2, nmOf_3, nmOf_4, nmOf_5, nmOf_6, Nat.add_sub_cancel, Nat.reduceSub, Nat.reduceLT, Nat.reduceEqDiff, ne_eq, not_false_eq_true, hC]
    refine ⟨fun _ => ?_, fun h2 => by omega⟩
    rw [show i = S.nb by omega]
    exact hq
  | succ k ih =>
    intro i hi
    have hs := ih (i + 1) (by omega)
    simp only [sumN] at hs
    refine wpW (cs := [(50, ce_X5_bu A S), (86, ce_X5_get A S)]) (stop := [43, 71, 104, 129]) (n := 200) (env_cons (ceV (by decide +kernel) ⟨by decide, by decide, by decide +kernel⟩ (by decide) rfl (ok_X5_bu G A S hW)) (env_cons (ceV (by decide +kernel) ⟨by decide, by decide, by decide +kernel⟩ (by decide) rfl (ok_X5_get G A S hW)) (env_nil0 (env_hh rfl)))) ?_
    simp only [↓wpN_S, ↓step_u, ↓stC_s, stC_s, ↓stF_u, stF_u, ↓stepI, lenI, ↓kN_u, isS, ↓gI_0, ↓gI_S, ↓gL_0, ↓gL_S, ↓gD_0, ↓gD_S, ↓gR_0, ↓gR_S, ↓sI_c, ↓sL_c, ↓sD_c, ↓sR_c, ↓s1_r, ↓s1_i, ↓vR_r, ↓vR_n, ↓s0_n, s0_n, ↓oR_u, ↓sP_u, ↓sPa_0, ↓sPa_S, ↓lkC_c, ↓callK_u, ↓cQ_s, ↓cQ_n, putL, putW, clr, kil, catS, catN, refF, booF, finF, nF, nmOf_0, nmOf_1, nmOf_2, nmOf_3, nmOf_4, nmOf_5, nmOf_6, nmOf_50, nmOf_51, nmOf_52, ↓reduceIte, reduceIte, Bool.false_eq_true, eq_self, true_or, or_true, true_and, and_true, false_or, or_false, Nat.reduceAdd, Nat.reduceSub, Nat.reduceEqDiff, Nat.reduceLT, Nat.reduceLeDiff, reduceCtorEq, true_implies, List.length_cons, List.length_nil, List.replicate, List.cons_append, List.nil_append, mrt_X5_counted, mhh_X5_counted, mow_X5_counted, mnl_X5_counted, DX5_counted_0, DX5_counted_1, DX5_counted_2, DX5_counted_3, DX5_counted_36, DX5_counted_37, DX5_counted_40, DX5_counted_41, DX5_counted_42, DX5_counted_43, DX5_counted_44, DX5_counted_45, DX5_counted_48, DX5_counted_51, DX5_counted_52, DX5_counted_53, DX5_counted_54, DX5_counted_56, DX5_counted_59, DX5_counted_60, DX5_counted_61, DX5_counted_64, DX5_counted_67, DX5_counted_68, DX5_counted_69, DX5_counted_70, DX5_counted_71, DX5_counted_72, DX5_counted_73, DX5_counted_76, DX5_counted_79, DX5_counted_80, DX5_counted_81, DX5_counted_82, DX5_counted_84, DX5_counted_87, DX5_counted_88, DX5_counted_89, DX5_counted_92, DX5_counted_95, DX5_counted_96, DX5_counted_97, DX5_counted_98, DX5_counted_101, DX5_counted_102, DX5_counted_103, DX5_counted_104, DX5_counted_105, DX5_counted_107, DX5_counted_110, DX5_counted_111, DX5_counted_112, DX5_counted_115, DX5_counted_116, DX5_counted_117, DX5_counted_118, DX5_counted_119, DX5_counted_122, DX5_counted_125, DX5_counted_126, DX5_counted_127, DX5_counted_128, DX5_counted_129, DX5_counted_130, DX5_counted_133, DX5_counted_136, DX5_counted_137, DX5_counted_138, DX5_counted_141, DX5_counted_142, DX5_counted_143, DX5_counted_145, DX5_counted_148, DX5_counted_149, DX5_counted_152, DX5_counted_153, DX5_counted_154, DX5_counted_155, DX5_counted_158, DX5_counted_161, DX5_counted_162, ce_X5_bu, ↓ct_X5_bu, ycl_X5_bu, ce_X5_get, ↓ct_X5_get, ycl_X5_get, cX_nil mhh_X5_counted]
    simp (disch := omega) only [i32_lit, i32_neg, i32_add, i32_mul, i32_sub, i32_nI, i32_lt, i32_le, i32_eq, inR_i, i32_clamp, i32_div, i32_max, i32_min, ite_max, ite_min, b2i_0, b2i_1, b2i_01, i32_toInt, tn_i, Int.toNat_natCast, em_t, true_and, and_true, Int.reduceToNat, Int.reduceLE, Int.reduceLT, Int.reduceAdd, Int.reduceMul, Int.reduceSub, Int.reduceNeg, Int.reduceEq, true_implies, not_true_eq_false, false_implies, not_false_eq_true, hM, hk, fd, fe, fb, fl, a5, k5, l5, a6, k6, l6, a7, k7, l7, a8, k8, l8, a9, k9, l9, a10, k10, l10, a11, k11, l11, true_and, and_true, Option.some.injEq, exists_eq_left', nmOf_0, nmOf_1, nmOf_2, nmOf_3, nmOf_4, nmOf_5, nmOf_6, Nat.add_sub_cancel, Nat.reduceSub, Nat.reduceLT, Nat.reduceEqDiff, ne_eq, not_false_eq_true, hC]
    refine ⟨fun h2 => by omega, fun h2 => ?_⟩
    skip
    try simp (disch := omega) only [i32_lit, i32_neg, i32_add, i32_mul, i32_sub, i32_nI, i32_lt, i32_le, i32_eq, inR_i, i32_clamp, i32_div, i32_max, i32_min, ite_max, ite_min, b2i_0, b2i_1, b2i_01, i32_toInt, tn_i, Int.toNat_natCast, em_t, true_and, and_true, Int.reduceToNat, Int.reduceLE, Int.reduceLT, Int.reduceAdd, Int.reduceMul, Int.reduceSub, Int.reduceNeg, Int.reduceEq, true_implies, not_true_eq_false, false_implies, not_false_eq_true]
    repeat (refine ⟨by omega, ?_⟩)
    exact hs
set_option maxRecDepth 100000 in
set_option maxHeartbeats 4000000 in
theorem lp_X5_counted71 (G : GT) {A : Nat → Nat} {S : SS} (hW : WF S) {h : Hp} {m : Nat} {w : Int} {Q : Option Value → Hp → Prop} {QX : String → Hp → Prop} (hM : MD h m A S) (hC : MC h A S) (hq : Q (some (.int (i32 (sumN (fun l => S.lf l 6) (S.nl))))) h) :
    ∀ k i : Nat, i + k = S.nl → Wp G MX5_counted false 1 Q QX 71 [some (.ref m), some (.int (i32 w)), some (.int (i32 (sumN (fun l => S.lf l 6) i))), some (.int (i32 i))] [] h (0, 0) := by
  have hnb := hW.1
  have hnl := hW.2.1
  have hM0 := hM
  obtain ⟨⟨hk, hA, hJ⟩, fd, fe, fb, fl, hB, hL, hN, hG, hP⟩ := hM0
  obtain ⟨a5, k5, l5⟩ := hA 5 (by omega) (by omega)
  obtain ⟨a6, k6, l6⟩ := hA 6 (by omega) (by omega)
  obtain ⟨a7, k7, l7⟩ := hA 7 (by omega) (by omega)
  obtain ⟨a8, k8, l8⟩ := hA 8 (by omega) (by omega)
  obtain ⟨a9, k9, l9⟩ := hA 9 (by omega) (by omega)
  obtain ⟨a10, k10, l10⟩ := hA 10 (by omega) (by omega)
  obtain ⟨a11, k11, l11⟩ := hA 11 (by omega) (by omega)
  simp only [mLen] at l5 l6 l7 l8 l9 l10 l11
  intro k
  induction k with
  | zero =>
    intro i hi
    refine wpW (cs := [(50, ce_X5_bu A S), (86, ce_X5_get A S)]) (stop := [43, 71, 104, 129]) (n := 200) (env_cons (ceV (by decide +kernel) ⟨by decide, by decide, by decide +kernel⟩ (by decide) rfl (ok_X5_bu G A S hW)) (env_cons (ceV (by decide +kernel) ⟨by decide, by decide, by decide +kernel⟩ (by decide) rfl (ok_X5_get G A S hW)) (env_nil0 (env_hh rfl)))) ?_
    simp only [↓wpN_S, ↓step_u, ↓stC_s, stC_s, ↓stF_u, stF_u, ↓stepI, lenI, ↓kN_u, isS, ↓gI_0, ↓gI_S, ↓gL_0, ↓gL_S, ↓gD_0, ↓gD_S, ↓gR_0, ↓gR_S, ↓sI_c, ↓sL_c, ↓sD_c, ↓sR_c, ↓s1_r, ↓s1_i, ↓vR_r, ↓vR_n, ↓s0_n, s0_n, ↓oR_u, ↓sP_u, ↓sPa_0, ↓sPa_S, ↓lkC_c, ↓callK_u, ↓cQ_s, ↓cQ_n, putL, putW, clr, kil, catS, catN, refF, booF, finF, nF, nmOf_0, nmOf_1, nmOf_2, nmOf_3, nmOf_4, nmOf_5, nmOf_6, nmOf_50, nmOf_51, nmOf_52, ↓reduceIte, reduceIte, Bool.false_eq_true, eq_self, true_or, or_true, true_and, and_true, false_or, or_false, Nat.reduceAdd, Nat.reduceSub, Nat.reduceEqDiff, Nat.reduceLT, Nat.reduceLeDiff, reduceCtorEq, true_implies, List.length_cons, List.length_nil, List.replicate, List.cons_append, List.nil_append, mrt_X5_counted, mhh_X5_counted, mow_X5_counted, mnl_X5_counted, DX5_counted_0, DX5_counted_1, DX5_counted_2, DX5_counted_3, DX5_counted_36, DX5_counted_37, DX5_counted_40, DX5_counted_41, DX5_counted_42, DX5_counted_43, DX5_counted_44, DX5_counted_45, DX5_counted_48, DX5_counted_51, DX5_counted_52, DX5_counted_53, DX5_counted_54, DX5_counted_56, DX5_counted_59, DX5_counted_60, DX5_counted_61, DX5_counted_64, DX5_counted_67, DX5_counted_68, DX5_counted_69, DX5_counted_70, DX5_counted_71, DX5_counted_72, DX5_counted_73, DX5_counted_76, DX5_counted_79, DX5_counted_80, DX5_counted_81, DX5_counted_82, DX5_counted_84, DX5_counted_87, DX5_counted_88, DX5_counted_89, DX5_counted_92, DX5_counted_95, DX5_counted_96, DX5_counted_97, DX5_counted_98, DX5_counted_101, DX5_counted_102, DX5_counted_103, DX5_counted_104, DX5_counted_105, DX5_counted_107, DX5_counted_110, DX5_counted_111, DX5_counted_112, DX5_counted_115, DX5_counted_116, DX5_counted_117, DX5_counted_118, DX5_counted_119, DX5_counted_122, DX5_counted_125, DX5_counted_126, DX5_counted_127, DX5_counted_128, DX5_counted_129, DX5_counted_130, DX5_counted_133, DX5_counted_136, DX5_counted_137, DX5_counted_138, DX5_counted_141, DX5_counted_142, DX5_counted_143, DX5_counted_145, DX5_counted_148, DX5_counted_149, DX5_counted_152, DX5_counted_153, DX5_counted_154, DX5_counted_155, DX5_counted_158, DX5_counted_161, DX5_counted_162, ce_X5_bu, ↓ct_X5_bu, ycl_X5_bu, ce_X5_get, ↓ct_X5_get, ycl_X5_get, cX_nil mhh_X5_counted]
    simp (disch := omega) only [i32_lit, i32_neg, i32_add, i32_mul, i32_sub, i32_nI, i32_lt, i32_le, i32_eq, inR_i, i32_clamp, i32_div, i32_max, i32_min, ite_max, ite_min, b2i_0, b2i_1, b2i_01, i32_toInt, tn_i, Int.toNat_natCast, em_t, true_and, and_true, Int.reduceToNat, Int.reduceLE, Int.reduceLT, Int.reduceAdd, Int.reduceMul, Int.reduceSub, Int.reduceNeg, Int.reduceEq, true_implies, not_true_eq_false, false_implies, not_false_eq_true, hM, hk, fd, fe, fb, fl, a5, k5, l5, a6, k6, l6, a7, k7, l7, a8, k8, l8, a9, k9, l9, a10, k10, l10, a11, k11, l11, true_and, and_true, Option.some.injEq, exists_eq_left', nmOf_0, nmOf_1, nmOf_2, nmOf_3, nmOf_4, nmOf_5, nmOf_6, Nat.add_sub_cancel, Nat.reduceSub, Nat.reduceLT, Nat.reduceEqDiff, ne_eq, not_false_eq_true, hC]
    refine ⟨fun _ => ?_, fun h2 => by omega⟩
    rw [show i = S.nl by omega]
    exact hq
  | succ k ih =>
    intro i hi
    have hs := ih (i + 1) (by omega)
    simp only [sumN] at hs
    refine wpW (cs := [(50, ce_X5_bu A S), (86, ce_X5_get A S)]) (stop := [43, 71, 104, 129]) (n := 200) (env_cons (ceV (by decide +kernel) ⟨by decide, by decide, by decide +kernel⟩ (by decide) rfl (ok_X5_bu G A S hW)) (env_cons (ceV (by decide +kernel) ⟨by decide, by decide, by decide +kernel⟩ (by decide) rfl (ok_X5_get G A S hW)) (env_nil0 (env_hh rfl)))) ?_
    simp only [↓wpN_S, ↓step_u, ↓stC_s, stC_s, ↓stF_u, stF_u, ↓stepI, lenI, ↓kN_u, isS, ↓gI_0, ↓gI_S, ↓gL_0, ↓gL_S, ↓gD_0, ↓gD_S, ↓gR_0, ↓gR_S, ↓sI_c, ↓sL_c, ↓sD_c, ↓sR_c, ↓s1_r, ↓s1_i, ↓vR_r, ↓vR_n, ↓s0_n, s0_n, ↓oR_u, ↓sP_u, ↓sPa_0, ↓sPa_S, ↓lkC_c, ↓callK_u, ↓cQ_s, ↓cQ_n, putL, putW, clr, kil, catS, catN, refF, booF, finF, nF, nmOf_0, nmOf_1, nmOf_2, nmOf_3, nmOf_4, nmOf_5, nmOf_6, nmOf_50, nmOf_51, nmOf_52, ↓reduceIte, reduceIte, Bool.false_eq_true, eq_self, true_or, or_true, true_and, and_true, false_or, or_false, Nat.reduceAdd, Nat.reduceSub, Nat.reduceEqDiff, Nat.reduceLT, Nat.reduceLeDiff, reduceCtorEq, true_implies, List.length_cons, List.length_nil, List.replicate, List.cons_append, List.nil_append, mrt_X5_counted, mhh_X5_counted, mow_X5_counted, mnl_X5_counted, DX5_counted_0, DX5_counted_1, DX5_counted_2, DX5_counted_3, DX5_counted_36, DX5_counted_37, DX5_counted_40, DX5_counted_41, DX5_counted_42, DX5_counted_43, DX5_counted_44, DX5_counted_45, DX5_counted_48, DX5_counted_51, DX5_counted_52, DX5_counted_53, DX5_counted_54, DX5_counted_56, DX5_counted_59, DX5_counted_60, DX5_counted_61, DX5_counted_64, DX5_counted_67, DX5_counted_68, DX5_counted_69, DX5_counted_70, DX5_counted_71, DX5_counted_72, DX5_counted_73, DX5_counted_76, DX5_counted_79, DX5_counted_80, DX5_counted_81, DX5_counted_82, DX5_counted_84, DX5_counted_87, DX5_counted_88, DX5_counted_89, DX5_counted_92, DX5_counted_95, DX5_counted_96, DX5_counted_97, DX5_counted_98, DX5_counted_101, DX5_counted_102, DX5_counted_103, DX5_counted_104, DX5_counted_105, DX5_counted_107, DX5_counted_110, DX5_counted_111, DX5_counted_112, DX5_counted_115, DX5_counted_116, DX5_counted_117, DX5_counted_118, DX5_counted_119, DX5_counted_122, DX5_counted_125, DX5_counted_126, DX5_counted_127, DX5_counted_128, DX5_counted_129, DX5_counted_130, DX5_counted_133, DX5_counted_136, DX5_counted_137, DX5_counted_138, DX5_counted_141, DX5_counted_142, DX5_counted_143, DX5_counted_145, DX5_counted_148, DX5_counted_149, DX5_counted_152, DX5_counted_153, DX5_counted_154, DX5_counted_155, DX5_counted_158, DX5_counted_161, DX5_counted_162, ce_X5_bu, ↓ct_X5_bu, ycl_X5_bu, ce_X5_get, ↓ct_X5_get, ycl_X5_get, cX_nil mhh_X5_counted]
    simp (disch := omega) only [i32_lit, i32_neg, i32_add, i32_mul, i32_sub, i32_nI, i32_lt, i32_le, i32_eq, inR_i, i32_clamp, i32_div, i32_max, i32_min, ite_max, ite_min, b2i_0, b2i_1, b2i_01, i32_toInt, tn_i, Int.toNat_natCast, em_t, true_and, and_true, Int.reduceToNat, Int.reduceLE, Int.reduceLT, Int.reduceAdd, Int.reduceMul, Int.reduceSub, Int.reduceNeg, Int.reduceEq, true_implies, not_true_eq_false, false_implies, not_false_eq_true, hM, hk, fd, fe, fb, fl, a5, k5, l5, a6, k6, l6, a7, k7, l7, a8, k8, l8, a9, k9, l9, a10, k10, l10, a11, k11, l11, true_and, and_true, Option.some.injEq, exists_eq_left', nmOf_0, nmOf_1, nmOf_2, nmOf_3, nmOf_4, nmOf_5, nmOf_6, Nat.add_sub_cancel, Nat.reduceSub, Nat.reduceLT, Nat.reduceEqDiff, ne_eq, not_false_eq_true, hC]
    refine ⟨fun h2 => by omega, fun h2 => ?_⟩
    skip
    try simp (disch := omega) only [i32_lit, i32_neg, i32_add, i32_mul, i32_sub, i32_nI, i32_lt, i32_le, i32_eq, inR_i, i32_clamp, i32_div, i32_max, i32_min, ite_max, ite_min, b2i_0, b2i_1, b2i_01, i32_toInt, tn_i, Int.toNat_natCast, em_t, true_and, and_true, Int.reduceToNat, Int.reduceLE, Int.reduceLT, Int.reduceAdd, Int.reduceMul, Int.reduceSub, Int.reduceNeg, Int.reduceEq, true_implies, not_true_eq_false, false_implies, not_false_eq_true]
    repeat (refine ⟨by omega, ?_⟩)
    exact hs
set_option maxRecDepth 100000 in
set_option maxHeartbeats 4000000 in
theorem lp_X5_counted104 (G : GT) {A : Nat → Nat} {S : SS} (hW : WF S) {h : Hp} {m : Nat} {w : Int} {Q : Option Value → Hp → Prop} {QX : String → Hp → Prop} (hM : MD h m A S) (hC : MC h A S) (hq : Q (some (.int (i32 (sumN (S.pd) (16))))) h) :
    ∀ k i : Nat, i + k = 16 → Wp G MX5_counted false 1 Q QX 104 [some (.ref m), some (.int (i32 w)), some (.int (i32 (sumN (S.pd) i))), some (.int (i32 i))] [] h (0, 0) := by
  have hnb := hW.1
  have hnl := hW.2.1
  have hM0 := hM
  obtain ⟨⟨hk, hA, hJ⟩, fd, fe, fb, fl, hB, hL, hN, hG, hP⟩ := hM0
  obtain ⟨a5, k5, l5⟩ := hA 5 (by omega) (by omega)
  obtain ⟨a6, k6, l6⟩ := hA 6 (by omega) (by omega)
  obtain ⟨a7, k7, l7⟩ := hA 7 (by omega) (by omega)
  obtain ⟨a8, k8, l8⟩ := hA 8 (by omega) (by omega)
  obtain ⟨a9, k9, l9⟩ := hA 9 (by omega) (by omega)
  obtain ⟨a10, k10, l10⟩ := hA 10 (by omega) (by omega)
  obtain ⟨a11, k11, l11⟩ := hA 11 (by omega) (by omega)
  simp only [mLen] at l5 l6 l7 l8 l9 l10 l11
  intro k
  induction k with
  | zero =>
    intro i hi
    refine wpW (cs := [(50, ce_X5_bu A S), (86, ce_X5_get A S)]) (stop := [43, 71, 104, 129]) (n := 200) (env_cons (ceV (by decide +kernel) ⟨by decide, by decide, by decide +kernel⟩ (by decide) rfl (ok_X5_bu G A S hW)) (env_cons (ceV (by decide +kernel) ⟨by decide, by decide, by decide +kernel⟩ (by decide) rfl (ok_X5_get G A S hW)) (env_nil0 (env_hh rfl)))) ?_
    simp only [↓wpN_S, ↓step_u, ↓stC_s, stC_s, ↓stF_u, stF_u, ↓stepI, lenI, ↓kN_u, isS, ↓gI_0, ↓gI_S, ↓gL_0, ↓gL_S, ↓gD_0, ↓gD_S, ↓gR_0, ↓gR_S, ↓sI_c, ↓sL_c, ↓sD_c, ↓sR_c, ↓s1_r, ↓s1_i, ↓vR_r, ↓vR_n, ↓s0_n, s0_n, ↓oR_u, ↓sP_u, ↓sPa_0, ↓sPa_S, ↓lkC_c, ↓callK_u, ↓cQ_s, ↓cQ_n, putL, putW, clr, kil, catS, catN, refF, booF, finF, nF, nmOf_0, nmOf_1, nmOf_2, nmOf_3, nmOf_4, nmOf_5, nmOf_6, nmOf_50, nmOf_51, nmOf_52, ↓reduceIte, reduceIte, Bool.false_eq_true, eq_self, true_or, or_true, true_and, and_true, false_or, or_false, Nat.reduceAdd, Nat.reduceSub, Nat.reduceEqDiff, Nat.reduceLT, Nat.reduceLeDiff, reduceCtorEq, true_implies, List.length_cons, List.length_nil, List.replicate, List.cons_append, List.nil_append, mrt_X5_counted, mhh_X5_counted, mow_X5_counted, mnl_X5_counted, DX5_counted_0, DX5_counted_1, DX5_counted_2, DX5_counted_3, DX5_counted_36, DX5_counted_37, DX5_counted_40, DX5_counted_41, DX5_counted_42, DX5_counted_43, DX5_counted_44, DX5_counted_45, DX5_counted_48, DX5_counted_51, DX5_counted_52, DX5_counted_53, DX5_counted_54, DX5_counted_56, DX5_counted_59, DX5_counted_60, DX5_counted_61, DX5_counted_64, DX5_counted_67, DX5_counted_68, DX5_counted_69, DX5_counted_70, DX5_counted_71, DX5_counted_72, DX5_counted_73, DX5_counted_76, DX5_counted_79, DX5_counted_80, DX5_counted_81, DX5_counted_82, DX5_counted_84, DX5_counted_87, DX5_counted_88, DX5_counted_89, DX5_counted_92, DX5_counted_95, DX5_counted_96, DX5_counted_97, DX5_counted_98, DX5_counted_101, DX5_counted_102, DX5_counted_103, DX5_counted_104, DX5_counted_105, DX5_counted_107, DX5_counted_110, DX5_counted_111, DX5_counted_112, DX5_counted_115, DX5_counted_116, DX5_counted_117, DX5_counted_118, DX5_counted_119, DX5_counted_122, DX5_counted_125, DX5_counted_126, DX5_counted_127, DX5_counted_128, DX5_counted_129, DX5_counted_130, DX5_counted_133, DX5_counted_136, DX5_counted_137, DX5_counted_138, DX5_counted_141, DX5_counted_142, DX5_counted_143, DX5_counted_145, DX5_counted_148, DX5_counted_149, DX5_counted_152, DX5_counted_153, DX5_counted_154, DX5_counted_155, DX5_counted_158, DX5_counted_161, DX5_counted_162, ce_X5_bu, ↓ct_X5_bu, ycl_X5_bu, ce_X5_get, ↓ct_X5_get, ycl_X5_get, cX_nil mhh_X5_counted]
    simp (disch := omega) only [i32_lit, i32_neg, i32_add, i32_mul, i32_sub, i32_nI, i32_lt, i32_le, i32_eq, inR_i, i32_clamp, i32_div, i32_max, i32_min, ite_max, ite_min, b2i_0, b2i_1, b2i_01, i32_toInt, tn_i, Int.toNat_natCast, em_t, true_and, and_true, Int.reduceToNat, Int.reduceLE, Int.reduceLT, Int.reduceAdd, Int.reduceMul, Int.reduceSub, Int.reduceNeg, Int.reduceEq, true_implies, not_true_eq_false, false_implies, not_false_eq_true, hM, hk, fd, fe, fb, fl, a5, k5, l5, a6, k6, l6, a7, k7, l7, a8, k8, l8, a9, k9, l9, a10, k10, l10, a11, k11, l11, true_and, and_true, Option.some.injEq, exists_eq_left', nmOf_0, nmOf_1, nmOf_2, nmOf_3, nmOf_4, nmOf_5, nmOf_6, Nat.add_sub_cancel, Nat.reduceSub, Nat.reduceLT, Nat.reduceEqDiff, ne_eq, not_false_eq_true, hC]
    refine ⟨fun _ => ?_, fun h2 => by omega⟩
    rw [show i = 16 by omega]
    exact hq
  | succ k ih =>
    intro i hi
    have hs := ih (i + 1) (by omega)
    simp only [sumN] at hs
    refine wpW (cs := [(50, ce_X5_bu A S), (86, ce_X5_get A S)]) (stop := [43, 71, 104, 129]) (n := 200) (env_cons (ceV (by decide +kernel) ⟨by decide, by decide, by decide +kernel⟩ (by decide) rfl (ok_X5_bu G A S hW)) (env_cons (ceV (by decide +kernel) ⟨by decide, by decide, by decide +kernel⟩ (by decide) rfl (ok_X5_get G A S hW)) (env_nil0 (env_hh rfl)))) ?_
    simp only [↓wpN_S, ↓step_u, ↓stC_s, stC_s, ↓stF_u, stF_u, ↓stepI, lenI, ↓kN_u, isS, ↓gI_0, ↓gI_S, ↓gL_0, ↓gL_S, ↓gD_0, ↓gD_S, ↓gR_0, ↓gR_S, ↓sI_c, ↓sL_c, ↓sD_c, ↓sR_c, ↓s1_r, ↓s1_i, ↓vR_r, ↓vR_n, ↓s0_n, s0_n, ↓oR_u, ↓sP_u, ↓sPa_0, ↓sPa_S, ↓lkC_c, ↓callK_u, ↓cQ_s, ↓cQ_n, putL, putW, clr, kil, catS, catN, refF, booF, finF, nF, nmOf_0, nmOf_1, nmOf_2, nmOf_3, nmOf_4, nmOf_5, nmOf_6, nmOf_50, nmOf_51, nmOf_52, ↓reduceIte, reduceIte, Bool.false_eq_true, eq_self, true_or, or_true, true_and, and_true, false_or, or_false, Nat.reduceAdd, Nat.reduceSub, Nat.reduceEqDiff, Nat.reduceLT, Nat.reduceLeDiff, reduceCtorEq, true_implies, List.length_cons, List.length_nil, List.replicate, List.cons_append, List.nil_append, mrt_X5_counted, mhh_X5_counted, mow_X5_counted, mnl_X5_counted, DX5_counted_0, DX5_counted_1, DX5_counted_2, DX5_counted_3, DX5_counted_36, DX5_counted_37, DX5_counted_40, DX5_counted_41, DX5_counted_42, DX5_counted_43, DX5_counted_44, DX5_counted_45, DX5_counted_48, DX5_counted_51, DX5_counted_52, DX5_counted_53, DX5_counted_54, DX5_counted_56, DX5_counted_59, DX5_counted_60, DX5_counted_61, DX5_counted_64, DX5_counted_67, DX5_counted_68, DX5_counted_69, DX5_counted_70, DX5_counted_71, DX5_counted_72, DX5_counted_73, DX5_counted_76, DX5_counted_79, DX5_counted_80, DX5_counted_81, DX5_counted_82, DX5_counted_84, DX5_counted_87, DX5_counted_88, DX5_counted_89, DX5_counted_92, DX5_counted_95, DX5_counted_96, DX5_counted_97, DX5_counted_98, DX5_counted_101, DX5_counted_102, DX5_counted_103, DX5_counted_104, DX5_counted_105, DX5_counted_107, DX5_counted_110, DX5_counted_111, DX5_counted_112, DX5_counted_115, DX5_counted_116, DX5_counted_117, DX5_counted_118, DX5_counted_119, DX5_counted_122, DX5_counted_125, DX5_counted_126, DX5_counted_127, DX5_counted_128, DX5_counted_129, DX5_counted_130, DX5_counted_133, DX5_counted_136, DX5_counted_137, DX5_counted_138, DX5_counted_141, DX5_counted_142, DX5_counted_143, DX5_counted_145, DX5_counted_148, DX5_counted_149, DX5_counted_152, DX5_counted_153, DX5_counted_154, DX5_counted_155, DX5_counted_158, DX5_counted_161, DX5_counted_162, ce_X5_bu, ↓ct_X5_bu, ycl_X5_bu, ce_X5_get, ↓ct_X5_get, ycl_X5_get, cX_nil mhh_X5_counted]
    simp (disch := omega) only [i32_lit, i32_neg, i32_add, i32_mul, i32_sub, i32_nI, i32_lt, i32_le, i32_eq, inR_i, i32_clamp, i32_div, i32_max, i32_min, ite_max, ite_min, b2i_0, b2i_1, b2i_01, i32_toInt, tn_i, Int.toNat_natCast, em_t, true_and, and_true, Int.reduceToNat, Int.reduceLE, Int.reduceLT, Int.reduceAdd, Int.reduceMul, Int.reduceSub, Int.reduceNeg, Int.reduceEq, true_implies, not_true_eq_false, false_implies, not_false_eq_true, hM, hk, fd, fe, fb, fl, a5, k5, l5, a6, k6, l6, a7, k7, l7, a8, k8, l8, a9, k9, l9, a10, k10, l10, a11, k11, l11, true_and, and_true, Option.some.injEq, exists_eq_left', nmOf_0, nmOf_1, nmOf_2, nmOf_3, nmOf_4, nmOf_5, nmOf_6, Nat.add_sub_cancel, Nat.reduceSub, Nat.reduceLT, Nat.reduceEqDiff, ne_eq, not_false_eq_true, hC]
    refine ⟨fun h2 => by omega, fun h2 => ?_⟩
    rw [hP i (by omega)]
    try simp (disch := omega) only [i32_lit, i32_neg, i32_add, i32_mul, i32_sub, i32_nI, i32_lt, i32_le, i32_eq, inR_i, i32_clamp, i32_div, i32_max, i32_min, ite_max, ite_min, b2i_0, b2i_1, b2i_01, i32_toInt, tn_i, Int.toNat_natCast, em_t, true_and, and_true, Int.reduceToNat, Int.reduceLE, Int.reduceLT, Int.reduceAdd, Int.reduceMul, Int.reduceSub, Int.reduceNeg, Int.reduceEq, true_implies, not_true_eq_false, false_implies, not_false_eq_true]
    refine ⟨by omega, ?_⟩
    exact hs
set_option maxRecDepth 100000 in
set_option maxHeartbeats 4000000 in
theorem lp_X5_counted129 (G : GT) {A : Nat → Nat} {S : SS} (hW : WF S) {h : Hp} {m : Nat} {w : Int} {Q : Option Value → Hp → Prop} {QX : String → Hp → Prop} (hM : MD h m A S) (hC : MC h A S) (hq : Q (some (.int (i32 (sumN (fun c => if bel S 0 c = -2 then 1 else 0) (256))))) h) :
    ∀ k i : Nat, i + k = 256 → Wp G MX5_counted false 1 Q QX 129 [some (.ref m), some (.int (i32 w)), some (.int (i32 (sumN (fun c => if bel S 0 c = -2 then 1 else 0) i))), some (.int (i32 i))] [] h (0, 0) := by
  have hnb := hW.1
  have hnl := hW.2.1
  have hM0 := hM
  obtain ⟨⟨hk, hA, hJ⟩, fd, fe, fb, fl, hB, hL, hN, hG, hP⟩ := hM0
  obtain ⟨a5, k5, l5⟩ := hA 5 (by omega) (by omega)
  obtain ⟨a6, k6, l6⟩ := hA 6 (by omega) (by omega)
  obtain ⟨a7, k7, l7⟩ := hA 7 (by omega) (by omega)
  obtain ⟨a8, k8, l8⟩ := hA 8 (by omega) (by omega)
  obtain ⟨a9, k9, l9⟩ := hA 9 (by omega) (by omega)
  obtain ⟨a10, k10, l10⟩ := hA 10 (by omega) (by omega)
  obtain ⟨a11, k11, l11⟩ := hA 11 (by omega) (by omega)
  simp only [mLen] at l5 l6 l7 l8 l9 l10 l11
  intro k
  induction k with
  | zero =>
    intro i hi
    refine wpW (cs := [(50, ce_X5_bu A S), (86, ce_X5_get A S)]) (stop := [43, 71, 104, 129]) (n := 200) (env_cons (ceV (by decide +kernel) ⟨by decide, by decide, by decide +kernel⟩ (by decide) rfl (ok_X5_bu G A S hW)) (env_cons (ceV (by decide +kernel) ⟨by decide, by decide, by decide +kernel⟩ (by decide) rfl (ok_X5_get G A S hW)) (env_nil0 (env_hh rfl)))) ?_
    simp only [↓wpN_S, ↓step_u, ↓stC_s, stC_s, ↓stF_u, stF_u, ↓stepI, lenI, ↓kN_u, isS, ↓gI_0, ↓gI_S, ↓gL_0, ↓gL_S, ↓gD_0, ↓gD_S, ↓gR_0, ↓gR_S, ↓sI_c, ↓sL_c, ↓sD_c, ↓sR_c, ↓s1_r, ↓s1_i, ↓vR_r, ↓vR_n, ↓s0_n, s0_n, ↓oR_u, ↓sP_u, ↓sPa_0, ↓sPa_S, ↓lkC_c, ↓callK_u, ↓cQ_s, ↓cQ_n, putL, putW, clr, kil, catS, catN, refF, booF, finF, nF, nmOf_0, nmOf_1, nmOf_2, nmOf_3, nmOf_4, nmOf_5, nmOf_6, nmOf_50, nmOf_51, nmOf_52, ↓reduceIte, reduceIte, Bool.false_eq_true, eq_self, true_or, or_true, true_and, and_true, false_or, or_false, Nat.reduceAdd, Nat.reduceSub, Nat.reduceEqDiff, Nat.reduceLT, Nat.reduceLeDiff, reduceCtorEq, true_implies, List.length_cons, List.length_nil, List.replicate, List.cons_append, List.nil_append, mrt_X5_counted, mhh_X5_counted, mow_X5_counted, mnl_X5_counted, DX5_counted_0, DX5_counted_1, DX5_counted_2, DX5_counted_3, DX5_counted_36, DX5_counted_37, DX5_counted_40, DX5_counted_41, DX5_counted_42, DX5_counted_43, DX5_counted_44, DX5_counted_45, DX5_counted_48, DX5_counted_51, DX5_counted_52, DX5_counted_53, DX5_counted_54, DX5_counted_56, DX5_counted_59, DX5_counted_60, DX5_counted_61, DX5_counted_64, DX5_counted_67, DX5_counted_68, DX5_counted_69, DX5_counted_70, DX5_counted_71, DX5_counted_72, DX5_counted_73, DX5_counted_76, DX5_counted_79, DX5_counted_80, DX5_counted_81, DX5_counted_82, DX5_counted_84, DX5_counted_87, DX5_counted_88, DX5_counted_89, DX5_counted_92, DX5_counted_95, DX5_counted_96, DX5_counted_97, DX5_counted_98, DX5_counted_101, DX5_counted_102, DX5_counted_103, DX5_counted_104, DX5_counted_105, DX5_counted_107, DX5_counted_110, DX5_counted_111, DX5_counted_112, DX5_counted_115, DX5_counted_116, DX5_counted_117, DX5_counted_118, DX5_counted_119, DX5_counted_122, DX5_counted_125, DX5_counted_126, DX5_counted_127, DX5_counted_128, DX5_counted_129, DX5_counted_130, DX5_counted_133, DX5_counted_136, DX5_counted_137, DX5_counted_138, DX5_counted_141, DX5_counted_142, DX5_counted_143, DX5_counted_145, DX5_counted_148, DX5_counted_149, DX5_counted_152, DX5_counted_153, DX5_counted_154, DX5_counted_155, DX5_counted_158, DX5_counted_161, DX5_counted_162, ce_X5_bu, ↓ct_X5_bu, ycl_X5_bu, ce_X5_get, ↓ct_X5_get, ycl_X5_get, cX_nil mhh_X5_counted]
    simp (disch := omega) only [i32_lit, i32_neg, i32_add, i32_mul, i32_sub, i32_nI, i32_lt, i32_le, i32_eq, inR_i, i32_clamp, i32_div, i32_max, i32_min, ite_max, ite_min, b2i_0, b2i_1, b2i_01, i32_toInt, tn_i, Int.toNat_natCast, em_t, true_and, and_true, Int.reduceToNat, Int.reduceLE, Int.reduceLT, Int.reduceAdd, Int.reduceMul, Int.reduceSub, Int.reduceNeg, Int.reduceEq, true_implies, not_true_eq_false, false_implies, not_false_eq_true, hM, hk, fd, fe, fb, fl, a5, k5, l5, a6, k6, l6, a7, k7, l7, a8, k8, l8, a9, k9, l9, a10, k10, l10, a11, k11, l11, true_and, and_true, Option.some.injEq, exists_eq_left', nmOf_0, nmOf_1, nmOf_2, nmOf_3, nmOf_4, nmOf_5, nmOf_6, Nat.add_sub_cancel, Nat.reduceSub, Nat.reduceLT, Nat.reduceEqDiff, ne_eq, not_false_eq_true, hC]
    refine ⟨fun _ => ?_, fun h2 => by omega⟩
    rw [show i = 256 by omega]
    exact hq
  | succ k ih =>
    intro i hi
    have hs := ih (i + 1) (by omega)
    simp only [sumN] at hs
    refine wpW (cs := [(50, ce_X5_bu A S), (86, ce_X5_get A S)]) (stop := [43, 71, 104, 129]) (n := 200) (env_cons (ceV (by decide +kernel) ⟨by decide, by decide, by decide +kernel⟩ (by decide) rfl (ok_X5_bu G A S hW)) (env_cons (ceV (by decide +kernel) ⟨by decide, by decide, by decide +kernel⟩ (by decide) rfl (ok_X5_get G A S hW)) (env_nil0 (env_hh rfl)))) ?_
    simp only [↓wpN_S, ↓step_u, ↓stC_s, stC_s, ↓stF_u, stF_u, ↓stepI, lenI, ↓kN_u, isS, ↓gI_0, ↓gI_S, ↓gL_0, ↓gL_S, ↓gD_0, ↓gD_S, ↓gR_0, ↓gR_S, ↓sI_c, ↓sL_c, ↓sD_c, ↓sR_c, ↓s1_r, ↓s1_i, ↓vR_r, ↓vR_n, ↓s0_n, s0_n, ↓oR_u, ↓sP_u, ↓sPa_0, ↓sPa_S, ↓lkC_c, ↓callK_u, ↓cQ_s, ↓cQ_n, putL, putW, clr, kil, catS, catN, refF, booF, finF, nF, nmOf_0, nmOf_1, nmOf_2, nmOf_3, nmOf_4, nmOf_5, nmOf_6, nmOf_50, nmOf_51, nmOf_52, ↓reduceIte, reduceIte, Bool.false_eq_true, eq_self, true_or, or_true, true_and, and_true, false_or, or_false, Nat.reduceAdd, Nat.reduceSub, Nat.reduceEqDiff, Nat.reduceLT, Nat.reduceLeDiff, reduceCtorEq, true_implies, List.length_cons, List.length_nil, List.replicate, List.cons_append, List.nil_append, mrt_X5_counted, mhh_X5_counted, mow_X5_counted, mnl_X5_counted, DX5_counted_0, DX5_counted_1, DX5_counted_2, DX5_counted_3, DX5_counted_36, DX5_counted_37, DX5_counted_40, DX5_counted_41, DX5_counted_42, DX5_counted_43, DX5_counted_44, DX5_counted_45, DX5_counted_48, DX5_counted_51, DX5_counted_52, DX5_counted_53, DX5_counted_54, DX5_counted_56, DX5_counted_59, DX5_counted_60, DX5_counted_61, DX5_counted_64, DX5_counted_67, DX5_counted_68, DX5_counted_69, DX5_counted_70, DX5_counted_71, DX5_counted_72, DX5_counted_73, DX5_counted_76, DX5_counted_79, DX5_counted_80, DX5_counted_81, DX5_counted_82, DX5_counted_84, DX5_counted_87, DX5_counted_88, DX5_counted_89, DX5_counted_92, DX5_counted_95, DX5_counted_96, DX5_counted_97, DX5_counted_98, DX5_counted_101, DX5_counted_102, DX5_counted_103, DX5_counted_104, DX5_counted_105, DX5_counted_107, DX5_counted_110, DX5_counted_111, DX5_counted_112, DX5_counted_115, DX5_counted_116, DX5_counted_117, DX5_counted_118, DX5_counted_119, DX5_counted_122, DX5_counted_125, DX5_counted_126, DX5_counted_127, DX5_counted_128, DX5_counted_129, DX5_counted_130, DX5_counted_133, DX5_counted_136, DX5_counted_137, DX5_counted_138, DX5_counted_141, DX5_counted_142, DX5_counted_143, DX5_counted_145, DX5_counted_148, DX5_counted_149, DX5_counted_152, DX5_counted_153, DX5_counted_154, DX5_counted_155, DX5_counted_158, DX5_counted_161, DX5_counted_162, ce_X5_bu, ↓ct_X5_bu, ycl_X5_bu, ce_X5_get, ↓ct_X5_get, ycl_X5_get, cX_nil mhh_X5_counted]
    simp (disch := omega) only [i32_lit, i32_neg, i32_add, i32_mul, i32_sub, i32_nI, i32_lt, i32_le, i32_eq, inR_i, i32_clamp, i32_div, i32_max, i32_min, ite_max, ite_min, b2i_0, b2i_1, b2i_01, i32_toInt, tn_i, Int.toNat_natCast, em_t, true_and, and_true, Int.reduceToNat, Int.reduceLE, Int.reduceLT, Int.reduceAdd, Int.reduceMul, Int.reduceSub, Int.reduceNeg, Int.reduceEq, true_implies, not_true_eq_false, false_implies, not_false_eq_true, hM, hk, fd, fe, fb, fl, a5, k5, l5, a6, k6, l6, a7, k7, l7, a8, k8, l8, a9, k9, l9, a10, k10, l10, a11, k11, l11, true_and, and_true, Option.some.injEq, exists_eq_left', nmOf_0, nmOf_1, nmOf_2, nmOf_3, nmOf_4, nmOf_5, nmOf_6, Nat.add_sub_cancel, Nat.reduceSub, Nat.reduceLT, Nat.reduceEqDiff, ne_eq, not_false_eq_true, hC]
    refine ⟨fun h2 => by omega, fun h2 => ?_⟩
    have hs0 := hC 0 i (by omega) (by omega)
    replace hs0 := hs0.1
    rw [Nat.mul_zero, Nat.zero_add] at hs0
    rw [hs0]
    have hb := bel_b S 0 i
    try simp (disch := omega) only [i32_lit, i32_neg, i32_add, i32_mul, i32_sub, i32_nI, i32_lt, i32_le, i32_eq, inR_i, i32_clamp, i32_div, i32_max, i32_min, ite_max, ite_min, b2i_0, b2i_1, b2i_01, i32_toInt, tn_i, Int.toNat_natCast, em_t, true_and, and_true, Int.reduceToNat, Int.reduceLE, Int.reduceLT, Int.reduceAdd, Int.reduceMul, Int.reduceSub, Int.reduceNeg, Int.reduceEq, true_implies, not_true_eq_false, false_implies, not_false_eq_true]
    refine ⟨by omega, fun h3 => ?_, fun h3 => ?_⟩
    · rw [if_neg h3] at hs; exact hs
    · rw [if_pos h3] at hs; exact hs
theorem swP_0 {x : Int32} {v : Int} {f : Nat → Prop} : swP x v [] f = True := rfl
theorem swP_S {x : Int32} {v : Int} {t : Nat} {r : List Nat} {f : Nat → Prop} : swP x v (t :: r) f = ((x.toInt = v → 0 < t ∧ f t) ∧ swP x (v + 1) r f) := rfl
set_option maxRecDepth 100000 in
set_option maxHeartbeats 4000000 in
theorem ok_X5_counted (G : GT) (A : Nat → Nat) (S : SS) (hW : WF S) : OKm G yX5_counted MX5_counted 1 0 0 (ct_X5_counted A S) := by
  refine mkOK (ini := false) (by decide) rfl (by first | exact fun _ => rfl | (intro hh; cases hh)) (fun As h Q QX hc => ?_)
  replace hc := sR_e hc; obtain ⟨m, r, rfl, hc⟩ := hc
  replace hc := sI_e hc; obtain ⟨w, r, rfl, hc⟩ := hc
  replace hc := s0_e hc; obtain ⟨rfl, hc⟩ := hc
  obtain ⟨hM, hC, hw, hq⟩ := hc
  obtain ⟨wv, hwv, rfl⟩ := i32_all w
  rw [i32_toInt hwv] at hw
  simp only [tn_i hwv] at hq
  have hM0 := hM
  obtain ⟨⟨hk, hA, hJ⟩, fd, fe, fb, fl, hB, hL, hN, hG, hP⟩ := hM0
  obtain ⟨a5, k5, l5⟩ := hA 5 (by omega) (by omega)
  obtain ⟨a6, k6, l6⟩ := hA 6 (by omega) (by omega)
  obtain ⟨a7, k7, l7⟩ := hA 7 (by omega) (by omega)
  obtain ⟨a8, k8, l8⟩ := hA 8 (by omega) (by omega)
  obtain ⟨a9, k9, l9⟩ := hA 9 (by omega) (by omega)
  obtain ⟨a10, k10, l10⟩ := hA 10 (by omega) (by omega)
  obtain ⟨a11, k11, l11⟩ := hA 11 (by omega) (by omega)
  simp only [mLen] at l5 l6 l7 l8 l9 l10 l11
  refine ⟨Nat.le_of_ble_eq_true rfl, ?_⟩
  simp only [ent, entL, catN, List.length_cons, List.length_nil, List.replicate, List.cons_append, List.nil_append, reduceIte, Nat.reduceEqDiff,  Nat.reduceAdd, Nat.reduceSub, mnl_X5_counted]
  refine wpW (cs := [(50, ce_X5_bu A S), (86, ce_X5_get A S)]) (stop := [43, 71, 104, 129]) (n := 200) (env_cons (ceV (by decide +kernel) ⟨by decide, by decide, by decide +kernel⟩ (by decide) rfl (ok_X5_bu G A S hW)) (env_cons (ceV (by decide +kernel) ⟨by decide, by decide, by decide +kernel⟩ (by decide) rfl (ok_X5_get G A S hW)) (env_nil0 (env_hh rfl)))) ?_
  simp only [↓wpN_S, ↓step_u, ↓stC_s, stC_s, ↓stF_u, stF_u, ↓stepI, lenI, ↓kN_u, isS, ↓gI_0, ↓gI_S, ↓gL_0, ↓gL_S, ↓gD_0, ↓gD_S, ↓gR_0, ↓gR_S, ↓sI_c, ↓sL_c, ↓sD_c, ↓sR_c, ↓s1_r, ↓s1_i, ↓vR_r, ↓vR_n, ↓s0_n, s0_n, ↓oR_u, ↓sP_u, ↓sPa_0, ↓sPa_S, ↓lkC_c, ↓callK_u, ↓cQ_s, ↓cQ_n, putL, putW, clr, kil, catS, catN, refF, booF, finF, nF, nmOf_0, nmOf_1, nmOf_2, nmOf_3, nmOf_4, nmOf_5, nmOf_6, nmOf_50, nmOf_51, nmOf_52, ↓reduceIte, reduceIte, Bool.false_eq_true, eq_self, true_or, or_true, true_and, and_true, false_or, or_false, Nat.reduceAdd, Nat.reduceSub, Nat.reduceEqDiff, Nat.reduceLT, Nat.reduceLeDiff, reduceCtorEq, true_implies, List.length_cons, List.length_nil, List.replicate, List.cons_append, List.nil_append, mrt_X5_counted, mhh_X5_counted, mow_X5_counted, mnl_X5_counted, DX5_counted_0, DX5_counted_1, DX5_counted_2, DX5_counted_3, DX5_counted_36, DX5_counted_37, DX5_counted_40, DX5_counted_41, DX5_counted_42, DX5_counted_43, DX5_counted_44, DX5_counted_45, DX5_counted_48, DX5_counted_51, DX5_counted_52, DX5_counted_53, DX5_counted_54, DX5_counted_56, DX5_counted_59, DX5_counted_60, DX5_counted_61, DX5_counted_64, DX5_counted_67, DX5_counted_68, DX5_counted_69, DX5_counted_70, DX5_counted_71, DX5_counted_72, DX5_counted_73, DX5_counted_76, DX5_counted_79, DX5_counted_80, DX5_counted_81, DX5_counted_82, DX5_counted_84, DX5_counted_87, DX5_counted_88, DX5_counted_89, DX5_counted_92, DX5_counted_95, DX5_counted_96, DX5_counted_97, DX5_counted_98, DX5_counted_101, DX5_counted_102, DX5_counted_103, DX5_counted_104, DX5_counted_105, DX5_counted_107, DX5_counted_110, DX5_counted_111, DX5_counted_112, DX5_counted_115, DX5_counted_116, DX5_counted_117, DX5_counted_118, DX5_counted_119, DX5_counted_122, DX5_counted_125, DX5_counted_126, DX5_counted_127, DX5_counted_128, DX5_counted_129, DX5_counted_130, DX5_counted_133, DX5_counted_136, DX5_counted_137, DX5_counted_138, DX5_counted_141, DX5_counted_142, DX5_counted_143, DX5_counted_145, DX5_counted_148, DX5_counted_149, DX5_counted_152, DX5_counted_153, DX5_counted_154, DX5_counted_155, DX5_counted_158, DX5_counted_161, DX5_counted_162, ce_X5_bu, ↓ct_X5_bu, ycl_X5_bu, ce_X5_get, ↓ct_X5_get, ycl_X5_get, cX_nil mhh_X5_counted]
  simp only [↓swP_S, ↓swP_0, ↓wpN_S, ↓step_u, ↓stC_s, stC_s, ↓stF_u, stF_u, ↓stepI, lenI, ↓kN_u, isS, ↓gI_0, ↓gI_S, ↓gL_0, ↓gL_S, ↓gD_0, ↓gD_S, ↓gR_0, ↓gR_S, ↓sI_c, ↓sL_c, ↓sD_c, ↓sR_c, ↓s1_r, ↓s1_i, ↓vR_r, ↓vR_n, ↓s0_n, s0_n, ↓oR_u, ↓sP_u, ↓sPa_0, ↓sPa_S, ↓lkC_c, ↓callK_u, ↓cQ_s, ↓cQ_n, putL, putW, clr, kil, catS, catN, refF, booF, finF, nF, nmOf_0, nmOf_1, nmOf_2, nmOf_3, nmOf_4, nmOf_5, nmOf_6, nmOf_50, nmOf_51, nmOf_52, ↓reduceIte, reduceIte, Bool.false_eq_true, eq_self, true_or, or_true, true_and, and_true, false_or, or_false, Nat.reduceAdd, Nat.reduceSub, Nat.reduceEqDiff, Nat.reduceLT, Nat.reduceLeDiff, reduceCtorEq, true_implies, List.length_cons, List.length_nil, List.replicate, List.cons_append, List.nil_append, mrt_X5_counted, mhh_X5_counted, mow_X5_counted, mnl_X5_counted, DX5_counted_0, DX5_counted_1, DX5_counted_2, DX5_counted_3, DX5_counted_36, DX5_counted_37, DX5_counted_40, DX5_counted_41, DX5_counted_42, DX5_counted_43, DX5_counted_44, DX5_counted_45, DX5_counted_48, DX5_counted_51, DX5_counted_52, DX5_counted_53, DX5_counted_54, DX5_counted_56, DX5_counted_59, DX5_counted_60, DX5_counted_61, DX5_counted_64, DX5_counted_67, DX5_counted_68, DX5_counted_69, DX5_counted_70, DX5_counted_71, DX5_counted_72, DX5_counted_73, DX5_counted_76, DX5_counted_79, DX5_counted_80, DX5_counted_81, DX5_counted_82, DX5_counted_84, DX5_counted_87, DX5_counted_88, DX5_counted_89, DX5_counted_92, DX5_counted_95, DX5_counted_96, DX5_counted_97, DX5_counted_98, DX5_counted_101, DX5_counted_102, DX5_counted_103, DX5_counted_104, DX5_counted_105, DX5_counted_107, DX5_counted_110, DX5_counted_111, DX5_counted_112, DX5_counted_115, DX5_counted_116, DX5_counted_117, DX5_counted_118, DX5_counted_119, DX5_counted_122, DX5_counted_125, DX5_counted_126, DX5_counted_127, DX5_counted_128, DX5_counted_129, DX5_counted_130, DX5_counted_133, DX5_counted_136, DX5_counted_137, DX5_counted_138, DX5_counted_141, DX5_counted_142, DX5_counted_143, DX5_counted_145, DX5_counted_148, DX5_counted_149, DX5_counted_152, DX5_counted_153, DX5_counted_154, DX5_counted_155, DX5_counted_158, DX5_counted_161, DX5_counted_162, ce_X5_bu, ↓ct_X5_bu, ycl_X5_bu, ce_X5_get, ↓ct_X5_get, ycl_X5_get, cX_nil mhh_X5_counted]
  simp (disch := omega) only [i32_lit, i32_neg, i32_add, i32_mul, i32_sub, i32_nI, i32_lt, i32_le, i32_eq, inR_i, i32_clamp, i32_div, i32_max, i32_min, ite_max, ite_min, b2i_0, b2i_1, b2i_01, i32_toInt, tn_i, Int.toNat_natCast, em_t, true_and, and_true, Int.reduceToNat, Int.reduceLE, Int.reduceLT, Int.reduceAdd, Int.reduceMul, Int.reduceSub, Int.reduceNeg, Int.reduceEq, true_implies, not_true_eq_false, false_implies, not_false_eq_true, hM, hk, fd, fe, fb, fl, a5, k5, l5, a6, k6, l6, a7, k7, l7, a8, k8, l8, a9, k9, l9, a10, k10, l10, a11, k11, l11, true_and, and_true, Option.some.injEq, exists_eq_left', nmOf_0, nmOf_1, nmOf_2, nmOf_3, nmOf_4, nmOf_5, nmOf_6, Nat.add_sub_cancel, Nat.reduceSub, Nat.reduceLT, Nat.reduceEqDiff, ne_eq, not_false_eq_true, hC]
  have hnb := hW.1
  have hnl := hW.2.1
  refine ⟨rfl, by omega, ⟨fun e => ?_, fun e => ?_, fun e => ?_, fun e => ?_, fun e => ?_⟩, fun e => ?_⟩
  · subst e; exact hq
  · subst e; exact lp_X5_counted43 G hW hM hC hq S.nb 0 (by omega)
  · subst e; exact lp_X5_counted71 G hW hM hC hq S.nl 0 (by omega)
  · subst e; exact hq
  · subst e; exact lp_X5_counted104 G hW hM hC hq 16 0 (by omega)
  · have e : wv = 5 := by omega
    subst e; exact lp_X5_counted129 G hW hM hC hq 256 0 (by omega)
def ct_X5_count (A : Nat → Nat) (S : SS) : Ct := fun As h Q _ => sR As fun m r => sI r fun w r => s0 r (MD h m A S ∧ MC h A S ∧ (0 ≤ w.toInt ∧ w.toInt ≤ 5 → Q (some (.int (i32 (coT S (tn w))))) (t0 h m)) ∧ (¬ (0 ≤ w.toInt ∧ w.toInt ≤ 5) → Q (some (.int (i32 0))) (tX h m 1)))
def ce_X5_count (A : Nat → Nat) (S : SS) : CE := (0, yX5_count, MX5_count, 1, 2, 0, 0, ct_X5_count A S)
set_option maxRecDepth 100000 in
set_option maxHeartbeats 4000000 in
theorem ok_X5_count (G : GT) (A : Nat → Nat) (S : SS) (hW : WF S) : OKm G yX5_count MX5_count 2 0 0 (ct_X5_count A S) := by
  refine mkOK (ini := false) (by decide) rfl (by first | exact fun _ => rfl | (intro hh; cases hh)) (fun As h Q QX hc => ?_)
  replace hc := sR_e hc; obtain ⟨m, r, rfl, hc⟩ := hc
  replace hc := sI_e hc; obtain ⟨w, r, rfl, hc⟩ := hc
  replace hc := s0_e hc; obtain ⟨rfl, hc⟩ := hc
  obtain ⟨wV, hwV, rfl⟩ := i32_all w
  simp only [i32_toInt hwV, tn_i hwV] at hc
  obtain ⟨hM, hC, hv, hf⟩ := hc
  have hk := hM.1.1
  replace hM : MD (t0 h m) m A S := MD_s0 hM
  replace hC : MC (t0 h m) A S := hC
  refine ⟨Nat.le_of_ble_eq_true rfl, ?_⟩
  simp only [ent, entL, catN, List.length_cons, List.length_nil, List.replicate, List.cons_append, List.nil_append, reduceIte, Nat.reduceEqDiff,  Nat.reduceAdd, Nat.reduceSub, mnl_X5_count]
  refine wpW (cs := [(39, ce_X5_isIn), (153, ce_X5_counted A S), (67, ce_X5_fail)]) (stop := [5]) (n := 200) (env_cons (ceS (by decide +kernel) ⟨by decide, by decide, by decide +kernel⟩ (by decide) (ok_X5_isIn G)) (env_cons (ceV (by decide +kernel) ⟨by decide, by decide, by decide +kernel⟩ (by decide) rfl (ok_X5_counted G A S hW)) (env_cons (ceV (by decide +kernel) ⟨by decide, by decide, by decide +kernel⟩ (by decide) rfl (ok_X5_fail G)) (env_nil0 (env_hh rfl))))) ?_
  simp only [↓wpN_S, ↓step_u, ↓stC_s, stC_s, ↓stF_u, stF_u, ↓stepI, lenI, ↓kN_u, isS, ↓gI_0, ↓gI_S, ↓gL_0, ↓gL_S, ↓gD_0, ↓gD_S, ↓gR_0, ↓gR_S, ↓sI_c, ↓sL_c, ↓sD_c, ↓sR_c, ↓s1_r, ↓s1_i, ↓vR_r, ↓vR_n, ↓s0_n, s0_n, ↓oR_u, ↓sP_u, ↓sPa_0, ↓sPa_S, ↓lkC_c, ↓callK_u, ↓cQ_s, ↓cQ_n, putL, putW, clr, kil, catS, catN, refF, booF, finF, nF, nmOf_0, nmOf_1, nmOf_2, nmOf_3, nmOf_4, nmOf_5, nmOf_6, nmOf_50, nmOf_51, nmOf_52, ↓reduceIte, reduceIte, Bool.false_eq_true, eq_self, true_or, or_true, true_and, and_true, false_or, or_false, Nat.reduceAdd, Nat.reduceSub, Nat.reduceEqDiff, Nat.reduceLT, Nat.reduceLeDiff, reduceCtorEq, true_implies, List.length_cons, List.length_nil, List.replicate, List.cons_append, List.nil_append, mrt_X5_count, mhh_X5_count, mow_X5_count, mnl_X5_count, DX5_count_0, DX5_count_1, DX5_count_2, DX5_count_5, DX5_count_6, DX5_count_7, DX5_count_8, DX5_count_11, DX5_count_14, DX5_count_15, DX5_count_16, DX5_count_19, DX5_count_22, DX5_count_23, DX5_count_24, DX5_count_27, ce_X5_isIn, ↓ct_X5_isIn, ycl_X5_isIn, ce_X5_counted, ↓ct_X5_counted, ycl_X5_counted, ce_X5_fail, ↓ct_X5_fail, ycl_X5_fail, cX_nil mhh_X5_count]
  simp only [hk, true_and, false_implies]
  unfold tX at hf
  change Wp G MX5_count false 2 Q QX 5 _ [] (t0 h m) _
  generalize t0 h m = g at *
  clear hk
  have hnb := hW.1
  have hnl := hW.2.1
  have hM0 := hM
  obtain ⟨⟨hk, hA, hJ⟩, fd, fe, fb, fl, hB, hL, hN, hG, hP⟩ := hM0
  obtain ⟨a5, k5, l5⟩ := hA 5 (by omega) (by omega)
  obtain ⟨a6, k6, l6⟩ := hA 6 (by omega) (by omega)
  obtain ⟨a7, k7, l7⟩ := hA 7 (by omega) (by omega)
  obtain ⟨a8, k8, l8⟩ := hA 8 (by omega) (by omega)
  obtain ⟨a9, k9, l9⟩ := hA 9 (by omega) (by omega)
  obtain ⟨a10, k10, l10⟩ := hA 10 (by omega) (by omega)
  obtain ⟨a11, k11, l11⟩ := hA 11 (by omega) (by omega)
  simp only [mLen] at l5 l6 l7 l8 l9 l10 l11
  refine wpW (cs := [(39, ce_X5_isIn), (153, ce_X5_counted A S), (67, ce_X5_fail)]) (stop := [5]) (n := 200) (env_cons (ceS (by decide +kernel) ⟨by decide, by decide, by decide +kernel⟩ (by decide) (ok_X5_isIn G)) (env_cons (ceV (by decide +kernel) ⟨by decide, by decide, by decide +kernel⟩ (by decide) rfl (ok_X5_counted G A S hW)) (env_cons (ceV (by decide +kernel) ⟨by decide, by decide, by decide +kernel⟩ (by decide) rfl (ok_X5_fail G)) (env_nil0 (env_hh rfl))))) ?_
  simp only [↓wpN_S, ↓step_u, ↓stC_s, stC_s, ↓stF_u, stF_u, ↓stepI, lenI, ↓kN_u, isS, ↓gI_0, ↓gI_S, ↓gL_0, ↓gL_S, ↓gD_0, ↓gD_S, ↓gR_0, ↓gR_S, ↓sI_c, ↓sL_c, ↓sD_c, ↓sR_c, ↓s1_r, ↓s1_i, ↓vR_r, ↓vR_n, ↓s0_n, s0_n, ↓oR_u, ↓sP_u, ↓sPa_0, ↓sPa_S, ↓lkC_c, ↓callK_u, ↓cQ_s, ↓cQ_n, putL, putW, clr, kil, catS, catN, refF, booF, finF, nF, nmOf_0, nmOf_1, nmOf_2, nmOf_3, nmOf_4, nmOf_5, nmOf_6, nmOf_50, nmOf_51, nmOf_52, ↓reduceIte, reduceIte, Bool.false_eq_true, eq_self, true_or, or_true, true_and, and_true, false_or, or_false, Nat.reduceAdd, Nat.reduceSub, Nat.reduceEqDiff, Nat.reduceLT, Nat.reduceLeDiff, reduceCtorEq, true_implies, List.length_cons, List.length_nil, List.replicate, List.cons_append, List.nil_append, mrt_X5_count, mhh_X5_count, mow_X5_count, mnl_X5_count, DX5_count_0, DX5_count_1, DX5_count_2, DX5_count_5, DX5_count_6, DX5_count_7, DX5_count_8, DX5_count_11, DX5_count_14, DX5_count_15, DX5_count_16, DX5_count_19, DX5_count_22, DX5_count_23, DX5_count_24, DX5_count_27, ce_X5_isIn, ↓ct_X5_isIn, ycl_X5_isIn, ce_X5_counted, ↓ct_X5_counted, ycl_X5_counted, ce_X5_fail, ↓ct_X5_fail, ycl_X5_fail, cX_nil mhh_X5_count]
  simp (disch := omega) only [i32_lit, i32_neg, i32_add, i32_mul, i32_sub, i32_nI, i32_lt, i32_le, i32_eq, inR_i, i32_clamp, i32_div, i32_max, i32_min, ite_max, ite_min, b2i_0, b2i_1, b2i_01, i32_toInt, tn_i, Int.toNat_natCast, em_t, true_and, and_true, Int.reduceToNat, Int.reduceLE, Int.reduceLT, Int.reduceAdd, Int.reduceMul, Int.reduceSub, Int.reduceNeg, Int.reduceEq, true_implies, not_true_eq_false, false_implies, not_false_eq_true, hM, hk, fd, fe, fb, fl, a5, k5, l5, a6, k6, l6, a7, k7, l7, a8, k8, l8, a9, k9, l9, a10, k10, l10, a11, k11, l11, true_and, and_true, Option.some.injEq, exists_eq_left', nmOf_0, nmOf_1, nmOf_2, nmOf_3, nmOf_4, nmOf_5, nmOf_6, Nat.add_sub_cancel, Nat.reduceSub, Nat.reduceLT, Nat.reduceEqDiff, ne_eq, not_false_eq_true, hC]
  refine ⟨fun h1 => hf h1, fun h1 => ⟨by omega, hv (by omega)⟩⟩
/-! cellOf -/
def cnt (S : SS) (r : Nat) (b : Int) (n : Nat) : Int := sumN (fun c => if bel S r c = b then 1 else 0) n
def cel (S : SS) (r : Nat) (b k : Int) : Nat := fstK (fun c => decide (bel S r c = b ∧ cnt S r b c = k)) 0 256
theorem cnt_mono {S : SS} {r : Nat} {b : Int} (n : Nat) : ∀ k : Nat, cnt S r b n ≤ cnt S r b (n + k)
  | 0 => Int.le_refl _
  | k + 1 => by
    have := cnt_mono (S := S) (r := r) (b := b) n k
    unfold cnt at *
    rw [← Nat.add_assoc]
    simp only [sumN]
    split <;> omega
theorem cel_u {S : SS} {r : Nat} {b : Int} {c d : Nat} (hc : bel S r c = b) (hd : bel S r d = b) (he : cnt S r b c = cnt S r b d) : c = d := by
  rcases Nat.lt_trichotomy c d with q | q | q
  · have h1 := cnt_mono (S := S) (r := r) (b := b) (c + 1) (d - (c + 1))
    rw [Nat.add_sub_cancel' (by omega)] at h1
    unfold cnt at *
    simp only [sumN] at h1
    rw [if_pos hc] at h1
    omega
  · exact q
  · have h1 := cnt_mono (S := S) (r := r) (b := b) (d + 1) (c - (d + 1))
    rw [Nat.add_sub_cancel' (by omega)] at h1
    unfold cnt at *
    simp only [sumN] at h1
    rw [if_pos hd] at h1
    omega
theorem fstK_eq {p : Nat → Bool} {c : Nat} (hp : p c = true) (hu : ∀ d, p d = true → d = c) : ∀ n s : Nat, s ≤ c → c < s + n → fstK p s n = c
  | 0, s, h1, h2 => by omega
  | n + 1, s, h1, h2 => by
    unfold fstK
    split
    · rename_i q; exact hu s q
    · rename_i q
      exact fstK_eq hp hu n (s + 1) (by rcases Nat.lt_or_ge s c with z | z; omega; exact absurd (by rw [show s = c by omega]; exact hp) q) (by omega)
theorem cel_eq {S : SS} {r : Nat} {b k : Int} {c : Nat} (h : c < 256) (hc : bel S r c = b) (hk : cnt S r b c = k) : cel S r b k = c := by
  refine fstK_eq (by simp [hc, hk]) (fun d hd => ?_) 256 0 (by omega) (by omega)
  simp only [decide_eq_true_eq] at hd
  exact cel_u hd.1 hc (by rw [hd.2, hk])
def ceo (S : SS) (l r : Nat) (ix : Int) : Int := if ix < gts S l r then (cel S r (S.lf l 0) (wnt S (S.lf l 0) r (S.lf l 5) l + ix) : Int) else -1
def ct_X5_cellOf (A : Nat → Nat) (S : SS) : Ct := fun As h Q _ => sR As fun m r => sI r fun l r => sI r fun hr r => sI r fun ix r => s0 r (MD h m A S ∧ MC h A S ∧ ((0 ≤ l.toInt ∧ l.toInt < S.nl) ∧ (0 ≤ hr.toInt ∧ hr.toInt ≤ 11) ∧ 0 ≤ ix.toInt → Q (some (.int (i32 (ceo S (tn l) (tn hr) ix.toInt)))) (t0 h m)) ∧ (¬ ((0 ≤ l.toInt ∧ l.toInt < S.nl) ∧ (0 ≤ hr.toInt ∧ hr.toInt ≤ 11) ∧ 0 ≤ ix.toInt) → Q (some (.int (i32 0))) (tX h m 1)))
def ce_X5_cellOf (A : Nat → Nat) (S : SS) : CE := (0, yX5_cellOf, MX5_cellOf, 3, 5, 0, 0, ct_X5_cellOf A S)
set_option maxRecDepth 100000 in
set_option maxHeartbeats 4000000 in
theorem lp_X5_cellOf (G : GT) {A : Nat → Nat} {S : SS} (hW : WF S) {h : Hp} {m l r : Nat} {ix K : Int} {Q : Option Value → Hp → Prop} {QX : String → Hp → Prop} (hl : l < S.nl) (hr : r < 12) (hK : 0 ≤ K ∧ K < area S (S.lf l 0) r) (hM : MD h m A S) (hC : MC h A S) (hq : Q (some (.int (i32 (cel S r (S.lf l 0) K)))) h) :
    ∀ k c : Nat, c + k = 256 → 0 ≤ K - cnt S r (S.lf l 0) c → Wp G MX5_cellOf false 5 Q QX 67 [some (.ref m), some (.int (i32 l)), some (.int (i32 r)), some (.int (i32 ix)), some (.int (i32 (K - cnt S r (S.lf l 0) c))), some (.int (i32 (c - 1)))] [] h (0, 0) := by
  have hnb := hW.1
  have hnl := hW.2.1
  have hab := area_b S (S.lf l 0) r
  obtain ⟨w0, w0', w1, w1', w2, w2', w3, w4, w4', w5, w5', w6, w7, w7'⟩ := hW.2.2.2.1 l hl
  have hM0 := hM
  obtain ⟨⟨hk, hA, hJ⟩, fd, fe, fb, fl, hB, hL, hN, hG, hP⟩ := hM0
  obtain ⟨a5, k5, l5⟩ := hA 5 (by omega) (by omega)
  obtain ⟨a6, k6, l6⟩ := hA 6 (by omega) (by omega)
  obtain ⟨a7, k7, l7⟩ := hA 7 (by omega) (by omega)
  obtain ⟨a8, k8, l8⟩ := hA 8 (by omega) (by omega)
  obtain ⟨a9, k9, l9⟩ := hA 9 (by omega) (by omega)
  obtain ⟨a10, k10, l10⟩ := hA 10 (by omega) (by omega)
  obtain ⟨a11, k11, l11⟩ := hA 11 (by omega) (by omega)
  simp only [mLen] at l5 l6 l7 l8 l9 l10 l11
  intro k
  induction k with
  | zero =>
    intro c hc hk0
    have e : c = 256 := by omega
    subst e
    have : cnt S r (S.lf l 0) 256 = area S (S.lf l 0) r := rfl
    omega
  | succ k ih =>
    intro c hc hk0
    have hs := ih (c + 1) (by omega)
    have hcb : 0 ≤ cnt S r (S.lf l 0) c := (cnt_b _ _ c).1
    have he : cnt S r (S.lf l 0) (c + 1) = cnt S r (S.lf l 0) c + (if bel S r c = S.lf l 0 then 1 else 0) := rfl
    have hb := bel_b S r c
    refine wpW (cs := [(135, ce_X5_isLease A S), (96, ce_X5_isHour), (67, ce_X5_fail), (126, ce_X5_getsOf A S), (86, ce_X5_get A S), (112, ce_X5_wanted A S)]) (stop := [67]) (n := 200) (env_cons (ceV (by decide +kernel) ⟨by decide, by decide, by decide +kernel⟩ (by decide) rfl (ok_X5_isLease G A S hW)) (env_cons (ceS (by decide +kernel) ⟨by decide, by decide, by decide +kernel⟩ (by decide) (ok_X5_isHour G)) (env_cons (ceV (by decide +kernel) ⟨by decide, by decide, by decide +kernel⟩ (by decide) rfl (ok_X5_fail G)) (env_cons (ceV (by decide +kernel) ⟨by decide, by decide, by decide +kernel⟩ (by decide) rfl (ok_X5_getsOf G A S hW)) (env_cons (ceV (by decide +kernel) ⟨by decide, by decide, by decide +kernel⟩ (by decide) rfl (ok_X5_get G A S hW)) (env_cons (ceV (by decide +kernel) ⟨by decide, by decide, by decide +kernel⟩ (by decide) rfl (ok_X5_wanted G A S hW)) (env_nil0 (env_hh rfl)))))))) ?_
    simp only [↓wpN_S, ↓step_u, ↓stC_s, stC_s, ↓stF_u, stF_u, ↓stepI, lenI, ↓kN_u, isS, ↓gI_0, ↓gI_S, ↓gL_0, ↓gL_S, ↓gD_0, ↓gD_S, ↓gR_0, ↓gR_S, ↓sI_c, ↓sL_c, ↓sD_c, ↓sR_c, ↓s1_r, ↓s1_i, ↓vR_r, ↓vR_n, ↓s0_n, s0_n, ↓oR_u, ↓sP_u, ↓sPa_0, ↓sPa_S, ↓lkC_c, ↓callK_u, ↓cQ_s, ↓cQ_n, putL, putW, clr, kil, catS, catN, refF, booF, finF, nF, nmOf_0, nmOf_1, nmOf_2, nmOf_3, nmOf_4, nmOf_5, nmOf_6, nmOf_50, nmOf_51, nmOf_52, ↓reduceIte, reduceIte, Bool.false_eq_true, eq_self, true_or, or_true, true_and, and_true, false_or, or_false, Nat.reduceAdd, Nat.reduceSub, Nat.reduceEqDiff, Nat.reduceLT, Nat.reduceLeDiff, reduceCtorEq, true_implies, List.length_cons, List.length_nil, List.replicate, List.cons_append, List.nil_append, mrt_X5_cellOf, mhh_X5_cellOf, mow_X5_cellOf, mnl_X5_cellOf, DX5_cellOf_0, DX5_cellOf_1, DX5_cellOf_2, DX5_cellOf_5, DX5_cellOf_6, DX5_cellOf_7, DX5_cellOf_10, DX5_cellOf_13, DX5_cellOf_14, DX5_cellOf_17, DX5_cellOf_20, DX5_cellOf_21, DX5_cellOf_24, DX5_cellOf_25, DX5_cellOf_26, DX5_cellOf_29, DX5_cellOf_30, DX5_cellOf_31, DX5_cellOf_32, DX5_cellOf_33, DX5_cellOf_34, DX5_cellOf_37, DX5_cellOf_40, DX5_cellOf_41, DX5_cellOf_42, DX5_cellOf_43, DX5_cellOf_44, DX5_cellOf_45, DX5_cellOf_46, DX5_cellOf_49, DX5_cellOf_50, DX5_cellOf_51, DX5_cellOf_52, DX5_cellOf_53, DX5_cellOf_56, DX5_cellOf_57, DX5_cellOf_60, DX5_cellOf_61, DX5_cellOf_62, DX5_cellOf_64, DX5_cellOf_65, DX5_cellOf_67, DX5_cellOf_69, DX5_cellOf_72, DX5_cellOf_75, DX5_cellOf_76, DX5_cellOf_79, DX5_cellOf_82, DX5_cellOf_83, DX5_cellOf_84, DX5_cellOf_86, DX5_cellOf_87, DX5_cellOf_88, DX5_cellOf_89, DX5_cellOf_90, DX5_cellOf_91, DX5_cellOf_94, DX5_cellOf_97, DX5_cellOf_100, DX5_cellOf_103, DX5_cellOf_105, ce_X5_isLease, ↓ct_X5_isLease, ycl_X5_isLease, ce_X5_isHour, ↓ct_X5_isHour, ycl_X5_isHour, ce_X5_fail, ↓ct_X5_fail, ycl_X5_fail, ce_X5_getsOf, ↓ct_X5_getsOf, ycl_X5_getsOf, ce_X5_get, ↓ct_X5_get, ycl_X5_get, ce_X5_wanted, ↓ct_X5_wanted, ycl_X5_wanted, cX_nil mhh_X5_cellOf]
    simp (disch := omega) only [i32_lit, i32_neg, i32_add, i32_mul, i32_sub, i32_nI, i32_lt, i32_le, i32_eq, inR_i, i32_clamp, i32_div, i32_max, i32_min, ite_max, ite_min, b2i_0, b2i_1, b2i_01, i32_toInt, tn_i, Int.toNat_natCast, em_t, true_and, and_true, Int.reduceToNat, Int.reduceLE, Int.reduceLT, Int.reduceAdd, Int.reduceMul, Int.reduceSub, Int.reduceNeg, Int.reduceEq, true_implies, not_true_eq_false, false_implies, not_false_eq_true, hM, hk, fd, fe, fb, fl, a5, k5, l5, a6, k6, l6, a7, k7, l7, a8, k8, l8, a9, k9, l9, a10, k10, l10, a11, k11, l11, true_and, and_true, Option.some.injEq, exists_eq_left', nmOf_0, nmOf_1, nmOf_2, nmOf_3, nmOf_4, nmOf_5, nmOf_6, Nat.add_sub_cancel, Nat.reduceSub, Nat.reduceLT, Nat.reduceEqDiff, ne_eq, not_false_eq_true, hC]
    refine ⟨fun h2 => by omega, fun h2 => ?_⟩
    rw [show (c : Int) - 1 + 1 = (c : Int) by omega]
    refine ⟨by omega, by omega, ?_⟩
    rw [show (256 * (r : Int) + c).toNat = 256 * r + c by omega, (hC r c hr (by omega)).1]
    simp (disch := omega) only [i32_lit, i32_neg, i32_add, i32_mul, i32_sub, i32_nI, i32_lt, i32_le, i32_eq, inR_i, i32_clamp, i32_div, i32_max, i32_min, ite_max, ite_min, b2i_0, b2i_1, b2i_01, i32_toInt, tn_i, Int.toNat_natCast, em_t, true_and, and_true, Int.reduceToNat, Int.reduceLE, Int.reduceLT, Int.reduceAdd, Int.reduceMul, Int.reduceSub, Int.reduceNeg, Int.reduceEq, true_implies, not_true_eq_false, false_implies, not_false_eq_true]
    rw [show (((c + 1 : Nat) : Int) - 1) = (c : Int) by omega] at hs
    refine ⟨fun h3 => ?_, fun h3 => ?_⟩
    · rw [if_neg h3, Int.add_zero] at he
      rw [he] at hs
      exact hs (by omega)
    · rw [if_pos h3] at he
      by_cases h4 : K = cnt S r (S.lf l 0) c
      · refine wpW (cs := [(135, ce_X5_isLease A S), (96, ce_X5_isHour), (67, ce_X5_fail), (126, ce_X5_getsOf A S), (86, ce_X5_get A S), (112, ce_X5_wanted A S)]) (stop := [67]) (n := 200) (env_cons (ceV (by decide +kernel) ⟨by decide, by decide, by decide +kernel⟩ (by decide) rfl (ok_X5_isLease G A S hW)) (env_cons (ceS (by decide +kernel) ⟨by decide, by decide, by decide +kernel⟩ (by decide) (ok_X5_isHour G)) (env_cons (ceV (by decide +kernel) ⟨by decide, by decide, by decide +kernel⟩ (by decide) rfl (ok_X5_fail G)) (env_cons (ceV (by decide +kernel) ⟨by decide, by decide, by decide +kernel⟩ (by decide) rfl (ok_X5_getsOf G A S hW)) (env_cons (ceV (by decide +kernel) ⟨by decide, by decide, by decide +kernel⟩ (by decide) rfl (ok_X5_get G A S hW)) (env_cons (ceV (by decide +kernel) ⟨by decide, by decide, by decide +kernel⟩ (by decide) rfl (ok_X5_wanted G A S hW)) (env_nil0 (env_hh rfl)))))))) ?_
        simp only [↓wpN_S, ↓step_u, ↓stC_s, stC_s, ↓stF_u, stF_u, ↓stepI, lenI, ↓kN_u, isS, ↓gI_0, ↓gI_S, ↓gL_0, ↓gL_S, ↓gD_0, ↓gD_S, ↓gR_0, ↓gR_S, ↓sI_c, ↓sL_c, ↓sD_c, ↓sR_c, ↓s1_r, ↓s1_i, ↓vR_r, ↓vR_n, ↓s0_n, s0_n, ↓oR_u, ↓sP_u, ↓sPa_0, ↓sPa_S, ↓lkC_c, ↓callK_u, ↓cQ_s, ↓cQ_n, putL, putW, clr, kil, catS, catN, refF, booF, finF, nF, nmOf_0, nmOf_1, nmOf_2, nmOf_3, nmOf_4, nmOf_5, nmOf_6, nmOf_50, nmOf_51, nmOf_52, ↓reduceIte, reduceIte, Bool.false_eq_true, eq_self, true_or, or_true, true_and, and_true, false_or, or_false, Nat.reduceAdd, Nat.reduceSub, Nat.reduceEqDiff, Nat.reduceLT, Nat.reduceLeDiff, reduceCtorEq, true_implies, List.length_cons, List.length_nil, List.replicate, List.cons_append, List.nil_append, mrt_X5_cellOf, mhh_X5_cellOf, mow_X5_cellOf, mnl_X5_cellOf, DX5_cellOf_0, DX5_cellOf_1, DX5_cellOf_2, DX5_cellOf_5, DX5_cellOf_6, DX5_cellOf_7, DX5_cellOf_10, DX5_cellOf_13, DX5_cellOf_14, DX5_cellOf_17, DX5_cellOf_20, DX5_cellOf_21, DX5_cellOf_24, DX5_cellOf_25, DX5_cellOf_26, DX5_cellOf_29, DX5_cellOf_30, DX5_cellOf_31, DX5_cellOf_32, DX5_cellOf_33, DX5_cellOf_34, DX5_cellOf_37, DX5_cellOf_40, DX5_cellOf_41, DX5_cellOf_42, DX5_cellOf_43, DX5_cellOf_44, DX5_cellOf_45, DX5_cellOf_46, DX5_cellOf_49, DX5_cellOf_50, DX5_cellOf_51, DX5_cellOf_52, DX5_cellOf_53, DX5_cellOf_56, DX5_cellOf_57, DX5_cellOf_60, DX5_cellOf_61, DX5_cellOf_62, DX5_cellOf_64, DX5_cellOf_65, DX5_cellOf_67, DX5_cellOf_69, DX5_cellOf_72, DX5_cellOf_75, DX5_cellOf_76, DX5_cellOf_79, DX5_cellOf_82, DX5_cellOf_83, DX5_cellOf_84, DX5_cellOf_86, DX5_cellOf_87, DX5_cellOf_88, DX5_cellOf_89, DX5_cellOf_90, DX5_cellOf_91, DX5_cellOf_94, DX5_cellOf_97, DX5_cellOf_100, DX5_cellOf_103, DX5_cellOf_105, ce_X5_isLease, ↓ct_X5_isLease, ycl_X5_isLease, ce_X5_isHour, ↓ct_X5_isHour, ycl_X5_isHour, ce_X5_fail, ↓ct_X5_fail, ycl_X5_fail, ce_X5_getsOf, ↓ct_X5_getsOf, ycl_X5_getsOf, ce_X5_get, ↓ct_X5_get, ycl_X5_get, ce_X5_wanted, ↓ct_X5_wanted, ycl_X5_wanted, cX_nil mhh_X5_cellOf]
        simp (disch := omega) only [i32_lit, i32_neg, i32_add, i32_mul, i32_sub, i32_nI, i32_lt, i32_le, i32_eq, inR_i, i32_clamp, i32_div, i32_max, i32_min, ite_max, ite_min, b2i_0, b2i_1, b2i_01, i32_toInt, tn_i, Int.toNat_natCast, em_t, true_and, and_true, Int.reduceToNat, Int.reduceLE, Int.reduceLT, Int.reduceAdd, Int.reduceMul, Int.reduceSub, Int.reduceNeg, Int.reduceEq, true_implies, not_true_eq_false, false_implies, not_false_eq_true, hM, hk, fd, fe, fb, fl, a5, k5, l5, a6, k6, l6, a7, k7, l7, a8, k8, l8, a9, k9, l9, a10, k10, l10, a11, k11, l11, true_and, and_true, Option.some.injEq, exists_eq_left', nmOf_0, nmOf_1, nmOf_2, nmOf_3, nmOf_4, nmOf_5, nmOf_6, Nat.add_sub_cancel, Nat.reduceSub, Nat.reduceLT, Nat.reduceEqDiff, ne_eq, not_false_eq_true, hC]
        refine ⟨fun _ => ?_, fun h5 => by omega⟩
        rw [cel_eq (by omega) h3 h4.symm] at hq
        exact hq
      · rw [he] at hs
        rw [show K - cnt S r (S.lf l 0) c + -1 = K - (cnt S r (S.lf l 0) c + 1) by omega]
        exact hs (by omega)
set_option maxRecDepth 100000 in
set_option maxHeartbeats 4000000 in
theorem ok_X5_cellOf (G : GT) (A : Nat → Nat) (S : SS) (hW : WF S) : OKm G yX5_cellOf MX5_cellOf 5 0 0 (ct_X5_cellOf A S) := by
  refine mkOK (ini := false) (by decide) rfl (by first | exact fun _ => rfl | (intro hh; cases hh)) (fun As h Q QX hc => ?_)
  replace hc := sR_e hc; obtain ⟨m, r, rfl, hc⟩ := hc
  replace hc := sI_e hc; obtain ⟨l, r, rfl, hc⟩ := hc
  replace hc := sI_e hc; obtain ⟨hr, r, rfl, hc⟩ := hc
  replace hc := sI_e hc; obtain ⟨ix, r, rfl, hc⟩ := hc
  replace hc := s0_e hc; obtain ⟨rfl, hc⟩ := hc
  obtain ⟨lV, hlV, rfl⟩ := i32_all l
  obtain ⟨rV, hrV, rfl⟩ := i32_all hr
  obtain ⟨xV, hxV, rfl⟩ := i32_all ix
  simp only [i32_toInt hlV, tn_i hlV, i32_toInt hrV, tn_i hrV, i32_toInt hxV, tn_i hxV] at hc
  obtain ⟨hM, hC, hv, hf⟩ := hc
  have hk := hM.1.1
  replace hM : MD (t0 h m) m A S := MD_s0 hM
  replace hC : MC (t0 h m) A S := hC
  refine ⟨Nat.le_of_ble_eq_true rfl, ?_⟩
  simp only [ent, entL, catN, List.length_cons, List.length_nil, List.replicate, List.cons_append, List.nil_append, reduceIte, Nat.reduceEqDiff,  Nat.reduceAdd, Nat.reduceSub, mnl_X5_cellOf]
  refine wpW (cs := [(135, ce_X5_isLease A S), (96, ce_X5_isHour), (67, ce_X5_fail), (126, ce_X5_getsOf A S), (86, ce_X5_get A S), (112, ce_X5_wanted A S)]) (stop := [5]) (n := 200) (env_cons (ceV (by decide +kernel) ⟨by decide, by decide, by decide +kernel⟩ (by decide) rfl (ok_X5_isLease G A S hW)) (env_cons (ceS (by decide +kernel) ⟨by decide, by decide, by decide +kernel⟩ (by decide) (ok_X5_isHour G)) (env_cons (ceV (by decide +kernel) ⟨by decide, by decide, by decide +kernel⟩ (by decide) rfl (ok_X5_fail G)) (env_cons (ceV (by decide +kernel) ⟨by decide, by decide, by decide +kernel⟩ (by decide) rfl (ok_X5_getsOf G A S hW)) (env_cons (ceV (by decide +kernel) ⟨by decide, by decide, by decide +kernel⟩ (by decide) rfl (ok_X5_get G A S hW)) (env_cons (ceV (by decide +kernel) ⟨by decide, by decide, by decide +kernel⟩ (by decide) rfl (ok_X5_wanted G A S hW)) (env_nil0 (env_hh rfl)))))))) ?_
  simp only [↓wpN_S, ↓step_u, ↓stC_s, stC_s, ↓stF_u, stF_u, ↓stepI, lenI, ↓kN_u, isS, ↓gI_0, ↓gI_S, ↓gL_0, ↓gL_S, ↓gD_0, ↓gD_S, ↓gR_0, ↓gR_S, ↓sI_c, ↓sL_c, ↓sD_c, ↓sR_c, ↓s1_r, ↓s1_i, ↓vR_r, ↓vR_n, ↓s0_n, s0_n, ↓oR_u, ↓sP_u, ↓sPa_0, ↓sPa_S, ↓lkC_c, ↓callK_u, ↓cQ_s, ↓cQ_n, putL, putW, clr, kil, catS, catN, refF, booF, finF, nF, nmOf_0, nmOf_1, nmOf_2, nmOf_3, nmOf_4, nmOf_5, nmOf_6, nmOf_50, nmOf_51, nmOf_52, ↓reduceIte, reduceIte, Bool.false_eq_true, eq_self, true_or, or_true, true_and, and_true, false_or, or_false, Nat.reduceAdd, Nat.reduceSub, Nat.reduceEqDiff, Nat.reduceLT, Nat.reduceLeDiff, reduceCtorEq, true_implies, List.length_cons, List.length_nil, List.replicate, List.cons_append, List.nil_append, mrt_X5_cellOf, mhh_X5_cellOf, mow_X5_cellOf, mnl_X5_cellOf, DX5_cellOf_0, DX5_cellOf_1, DX5_cellOf_2, DX5_cellOf_5, DX5_cellOf_6, DX5_cellOf_7, DX5_cellOf_10, DX5_cellOf_13, DX5_cellOf_14, DX5_cellOf_17, DX5_cellOf_20, DX5_cellOf_21, DX5_cellOf_24, DX5_cellOf_25, DX5_cellOf_26, DX5_cellOf_29, DX5_cellOf_30, DX5_cellOf_31, DX5_cellOf_32, DX5_cellOf_33, DX5_cellOf_34, DX5_cellOf_37, DX5_cellOf_40, DX5_cellOf_41, DX5_cellOf_42, DX5_cellOf_43, DX5_cellOf_44, DX5_cellOf_45, DX5_cellOf_46, DX5_cellOf_49, DX5_cellOf_50, DX5_cellOf_51, DX5_cellOf_52, DX5_cellOf_53, DX5_cellOf_56, DX5_cellOf_57, DX5_cellOf_60, DX5_cellOf_61, DX5_cellOf_62, DX5_cellOf_64, DX5_cellOf_65, DX5_cellOf_67, DX5_cellOf_69, DX5_cellOf_72, DX5_cellOf_75, DX5_cellOf_76, DX5_cellOf_79, DX5_cellOf_82, DX5_cellOf_83, DX5_cellOf_84, DX5_cellOf_86, DX5_cellOf_87, DX5_cellOf_88, DX5_cellOf_89, DX5_cellOf_90, DX5_cellOf_91, DX5_cellOf_94, DX5_cellOf_97, DX5_cellOf_100, DX5_cellOf_103, DX5_cellOf_105, ce_X5_isLease, ↓ct_X5_isLease, ycl_X5_isLease, ce_X5_isHour, ↓ct_X5_isHour, ycl_X5_isHour, ce_X5_fail, ↓ct_X5_fail, ycl_X5_fail, ce_X5_getsOf, ↓ct_X5_getsOf, ycl_X5_getsOf, ce_X5_get, ↓ct_X5_get, ycl_X5_get, ce_X5_wanted, ↓ct_X5_wanted, ycl_X5_wanted, cX_nil mhh_X5_cellOf]
  simp only [hk, true_and, false_implies]
  unfold tX at hf
  change Wp G MX5_cellOf false 5 Q QX 5 _ [] (t0 h m) _
  generalize t0 h m = g at *
  clear hk
  have hnb := hW.1
  have hnl := hW.2.1
  have hM0 := hM
  obtain ⟨⟨hk, hA, hJ⟩, fd, fe, fb, fl, hB, hL, hN, hG, hP⟩ := hM0
  obtain ⟨a5, k5, l5⟩ := hA 5 (by omega) (by omega)
  obtain ⟨a6, k6, l6⟩ := hA 6 (by omega) (by omega)
  obtain ⟨a7, k7, l7⟩ := hA 7 (by omega) (by omega)
  obtain ⟨a8, k8, l8⟩ := hA 8 (by omega) (by omega)
  obtain ⟨a9, k9, l9⟩ := hA 9 (by omega) (by omega)
  obtain ⟨a10, k10, l10⟩ := hA 10 (by omega) (by omega)
  obtain ⟨a11, k11, l11⟩ := hA 11 (by omega) (by omega)
  simp only [mLen] at l5 l6 l7 l8 l9 l10 l11
  refine wpW (cs := [(135, ce_X5_isLease A S), (96, ce_X5_isHour), (67, ce_X5_fail), (126, ce_X5_getsOf A S), (86, ce_X5_get A S), (112, ce_X5_wanted A S)]) (stop := [5, 67]) (n := 200) (env_cons (ceV (by decide +kernel) ⟨by decide, by decide, by decide +kernel⟩ (by decide) rfl (ok_X5_isLease G A S hW)) (env_cons (ceS (by decide +kernel) ⟨by decide, by decide, by decide +kernel⟩ (by decide) (ok_X5_isHour G)) (env_cons (ceV (by decide +kernel) ⟨by decide, by decide, by decide +kernel⟩ (by decide) rfl (ok_X5_fail G)) (env_cons (ceV (by decide +kernel) ⟨by decide, by decide, by decide +kernel⟩ (by decide) rfl (ok_X5_getsOf G A S hW)) (env_cons (ceV (by decide +kernel) ⟨by decide, by decide, by decide +kernel⟩ (by decide) rfl (ok_X5_get G A S hW)) (env_cons (ceV (by decide +kernel) ⟨by decide, by decide, by decide +kernel⟩ (by decide) rfl (ok_X5_wanted G A S hW)) (env_nil0 (env_hh rfl)))))))) ?_
  simp only [↓wpN_S, ↓step_u, ↓stC_s, stC_s, ↓stF_u, stF_u, ↓stepI, lenI, ↓kN_u, isS, ↓gI_0, ↓gI_S, ↓gL_0, ↓gL_S, ↓gD_0, ↓gD_S, ↓gR_0, ↓gR_S, ↓sI_c, ↓sL_c, ↓sD_c, ↓sR_c, ↓s1_r, ↓s1_i, ↓vR_r, ↓vR_n, ↓s0_n, s0_n, ↓oR_u, ↓sP_u, ↓sPa_0, ↓sPa_S, ↓lkC_c, ↓callK_u, ↓cQ_s, ↓cQ_n, putL, putW, clr, kil, catS, catN, refF, booF, finF, nF, nmOf_0, nmOf_1, nmOf_2, nmOf_3, nmOf_4, nmOf_5, nmOf_6, nmOf_50, nmOf_51, nmOf_52, ↓reduceIte, reduceIte, Bool.false_eq_true, eq_self, true_or, or_true, true_and, and_true, false_or, or_false, Nat.reduceAdd, Nat.reduceSub, Nat.reduceEqDiff, Nat.reduceLT, Nat.reduceLeDiff, reduceCtorEq, true_implies, List.length_cons, List.length_nil, List.replicate, List.cons_append, List.nil_append, mrt_X5_cellOf, mhh_X5_cellOf, mow_X5_cellOf, mnl_X5_cellOf, DX5_cellOf_0, DX5_cellOf_1, DX5_cellOf_2, DX5_cellOf_5, DX5_cellOf_6, DX5_cellOf_7, DX5_cellOf_10, DX5_cellOf_13, DX5_cellOf_14, DX5_cellOf_17, DX5_cellOf_20, DX5_cellOf_21, DX5_cellOf_24, DX5_cellOf_25, DX5_cellOf_26, DX5_cellOf_29, DX5_cellOf_30, DX5_cellOf_31, DX5_cellOf_32, DX5_cellOf_33, DX5_cellOf_34, DX5_cellOf_37, DX5_cellOf_40, DX5_cellOf_41, DX5_cellOf_42, DX5_cellOf_43, DX5_cellOf_44, DX5_cellOf_45, DX5_cellOf_46, DX5_cellOf_49, DX5_cellOf_50, DX5_cellOf_51, DX5_cellOf_52, DX5_cellOf_53, DX5_cellOf_56, DX5_cellOf_57, DX5_cellOf_60, DX5_cellOf_61, DX5_cellOf_62, DX5_cellOf_64, DX5_cellOf_65, DX5_cellOf_67, DX5_cellOf_69, DX5_cellOf_72, DX5_cellOf_75, DX5_cellOf_76, DX5_cellOf_79, DX5_cellOf_82, DX5_cellOf_83, DX5_cellOf_84, DX5_cellOf_86, DX5_cellOf_87, DX5_cellOf_88, DX5_cellOf_89, DX5_cellOf_90, DX5_cellOf_91, DX5_cellOf_94, DX5_cellOf_97, DX5_cellOf_100, DX5_cellOf_103, DX5_cellOf_105, ce_X5_isLease, ↓ct_X5_isLease, ycl_X5_isLease, ce_X5_isHour, ↓ct_X5_isHour, ycl_X5_isHour, ce_X5_fail, ↓ct_X5_fail, ycl_X5_fail, ce_X5_getsOf, ↓ct_X5_getsOf, ycl_X5_getsOf, ce_X5_get, ↓ct_X5_get, ycl_X5_get, ce_X5_wanted, ↓ct_X5_wanted, ycl_X5_wanted, cX_nil mhh_X5_cellOf]
  simp (disch := omega) only [i32_lit, i32_neg, i32_add, i32_mul, i32_sub, i32_nI, i32_lt, i32_le, i32_eq, inR_i, i32_clamp, i32_div, i32_max, i32_min, ite_max, ite_min, b2i_0, b2i_1, b2i_01, i32_toInt, tn_i, Int.toNat_natCast, em_t, true_and, and_true, Int.reduceToNat, Int.reduceLE, Int.reduceLT, Int.reduceAdd, Int.reduceMul, Int.reduceSub, Int.reduceNeg, Int.reduceEq, true_implies, not_true_eq_false, false_implies, not_false_eq_true, hM, hk, fd, fe, fb, fl, a5, k5, l5, a6, k6, l6, a7, k7, l7, a8, k8, l8, a9, k9, l9, a10, k10, l10, a11, k11, l11, true_and, and_true, Option.some.injEq, exists_eq_left', nmOf_0, nmOf_1, nmOf_2, nmOf_3, nmOf_4, nmOf_5, nmOf_6, Nat.add_sub_cancel, Nat.reduceSub, Nat.reduceLT, Nat.reduceEqDiff, ne_eq, not_false_eq_true, hC]
  refine ⟨fun h1 => hf (fun q => h1 q.1), fun h1 => ⟨fun h2 => hf (fun q => h2 q.2.1), fun h2 => ⟨fun h3 => ?_, fun h3 => hf (fun q => h3 q.2.2)⟩⟩⟩
  obtain ⟨ln', rfl⟩ := Int.eq_ofNat_of_zero_le (Classical.not_not.mp h1).1
  obtain ⟨rn, rfl⟩ := Int.eq_ofNat_of_zero_le (Classical.not_not.mp h2).1
  have hl : ln' < S.nl := by omega
  have hr : rn < 12 := by omega
  obtain ⟨w0, w0', w1, w1', w2, w2', w3, w4, w4', w5, w5', w6, w7, w7'⟩ := hW.2.2.2.1 ln' hl
  have hg := gts_b (r := rn) hW hl
  replace hv := hv ⟨by omega, by omega, by omega⟩
  unfold ceo at hv
  simp only [Int.toNat_natCast] at hv
  simp (disch := omega) only [i32_lit, i32_neg, i32_add, i32_mul, i32_sub, i32_nI, i32_lt, i32_le, i32_eq, inR_i, i32_clamp, i32_div, i32_max, i32_min, ite_max, ite_min, b2i_0, b2i_1, b2i_01, i32_toInt, tn_i, Int.toNat_natCast, em_t, true_and, and_true, Int.reduceToNat, Int.reduceLE, Int.reduceLT, Int.reduceAdd, Int.reduceMul, Int.reduceSub, Int.reduceNeg, Int.reduceEq, true_implies, not_true_eq_false, false_implies, not_false_eq_true, hM, hk, fd, fe, fb, fl, a5, k5, l5, a6, k6, l6, a7, k7, l7, a8, k8, l8, a9, k9, l9, a10, k10, l10, a11, k11, l11, true_and, and_true, Option.some.injEq, exists_eq_left', nmOf_0, nmOf_1, nmOf_2, nmOf_3, nmOf_4, nmOf_5, nmOf_6, Nat.add_sub_cancel, Nat.reduceSub, Nat.reduceLT, Nat.reduceEqDiff, ne_eq, not_false_eq_true, hC]
  refine ⟨by omega, by omega, fun h4 => ⟨by omega, by omega, by omega, ?_⟩, fun h4 => by rw [if_neg h4] at hv; exact hv⟩
  rw [if_pos h4] at hv
  have hw : 0 ≤ wnt S (S.lf ln' 0) rn (S.lf ln' 5) ln' ∧ wnt S (S.lf ln' 0) rn (S.lf ln' 5) ln' ≤ 2400 := wnt_b hW (S.lf ln' 0) rn (S.lf ln' 5) ln' S.nl (Nat.le_refl _)
  have hK : wnt S (S.lf ln' 0) rn (S.lf ln' 5) ln' + xV < area S (S.lf ln' 0) rn := by
    unfold gts free at h4
    split at h4 <;> omega
  have hz := lp_X5_cellOf (ix := xV) (Q := Q) (QX := QX) G hW hl hr ⟨by omega, hK⟩ hM hC hv 256 0 (by omega) (by rw [show cnt S rn (S.lf ln' 0) 0 = 0 from rfl]; omega)
  rw [show cnt S rn (S.lf ln' 0) 0 = 0 from rfl, Int.sub_zero, show (((0 : Nat) : Int) - 1) = -1 by omega] at hz
  exact hz
