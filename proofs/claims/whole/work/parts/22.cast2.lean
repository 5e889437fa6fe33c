/-! ===== the reference: cast, castAll ===== -/
def MO (h h' : Hp) (A : Nat → Nat) (r : Nat) : Prop := ∀ i, i < 256 * r ∨ 256 * r + 256 ≤ i → ia h' (A 10) i = ia h (A 10) i ∧ ia h' (A 11) i = ia h (A 11) i
def ct_X5_cast (A : Nat → Nat) (S : SS) : Ct := fun As h Q _ => sR As fun m r => sI r fun hr r => s0 r (MD h m A S ∧ (0 ≤ hr.toInt ∧ hr.toInt < 12) ∧ ∀ h', MFr h h' A → MCr h' A S (tn hr) 256 → MO h h' A (tn hr) → Q none h')
def ce_X5_cast (A : Nat → Nat) (S : SS) : CE := (0, yX5_cast, MX5_cast, 1, 5, 0, 0, ct_X5_cast A S)
theorem cst_0 {S : SS} {n r : Nat} {x y : Int} (h : stp S n r x y = 0) : cst S r x y (n + 1) = cst S r x y n := by rw [cst, if_pos h]
theorem cst_o {S : SS} {n r : Nat} {x y : Int} (h : ¬ stp S n r x y = 0) (h2 : (cst S r x y n).1 ≠ -1 ∧ (cst S r x y n).2.2 ≤ stp S n r x y) : cst S r x y (n + 1) = ((cst S r x y n).1, (cst S r x y n).2.1 + 1, (cst S r x y n).2.2) := by rw [cst, if_neg h, if_pos h2]
theorem cst_n {S : SS} {n r : Nat} {x y : Int} (h : ¬ stp S n r x y = 0) (h2 : ¬ ((cst S r x y n).1 ≠ -1 ∧ (cst S r x y n).2.2 ≤ stp S n r x y)) : cst S r x y (n + 1) = ((n : Int), (cst S r x y n).2.1 + 1, stp S n r x y) := by rw [cst, if_neg h, if_neg h2]
theorem cst_l {S : SS} {r : Nat} {x y : Int} (hW : WF S) (hr : r < 12) : ∀ n, n ≤ S.nb → (cst S r x y n).2.2 ≤ 28
  | 0, _ => by simp [cst]
  | n + 1, hn => by
    have h := cst_l (x := x) (y := y) hW hr n (by omega)
    have h2 := stp_le (x := x) (y := y) hW (show n < S.nb by omega) hr
    unfold cst
    split
    · exact h
    · split
      · exact h
      · exact h2
set_option maxRecDepth 100000 in
set_option maxHeartbeats 4000000 in
theorem lp_X5_cast48 (G : GT) {A : Nat → Nat} {S : SS} (hW : WF S) {h : Hp} {m r c : Nat} {xv yv : Int} {Q : Option Value → Hp → Prop} {QX : String → Hp → Prop} (hr : r < 12) (hx : 0 ≤ xv ∧ xv < 16) (hy : 0 ≤ yv ∧ yv < 16) (hM : MD h m A S)
    (hz : ∀ ls, lsub [some (.ref m), some (.int (i32 r)), some (.int (i32 c)), none, none, some (.int (i32 (cst S r xv yv S.nb).1)), some (.int (i32 (cst S r xv yv S.nb).2.1)), none, none, none] ls → Wp G MX5_cast false 5 Q QX 117 ls [] h (0, 0)) :
    ∀ k n : Nat, n + k = S.nb → Wp G MX5_cast false 5 Q QX 48 [some (.ref m), some (.int (i32 r)), some (.int (i32 c)), some (.int (i32 xv)), some (.int (i32 yv)), some (.int (i32 (cst S r xv yv n).1)), some (.int (i32 (cst S r xv yv n).2.1)), some (.int (i32 (cst S r xv yv n).2.2)), some (.int (i32 n)), none] [] h (0, 0) := by
  have hnb := hW.1
  have hM0 := hM
  obtain ⟨⟨hk, hA, hJ⟩, fd, fe, fb, fl, hB, hL, hN, hG, hP⟩ := hM0
  obtain ⟨a5, k5, l5⟩ := hA 5 (by omega) (by omega)
  obtain ⟨a6, k6, l6⟩ := hA 6 (by omega) (by omega)
  obtain ⟨a7, k7, l7⟩ := hA 7 (by omega) (by omega)
  obtain ⟨a8, k8, l8⟩ := hA 8 (by omega) (by omega)
  obtain ⟨a9, k9, l9⟩ := hA 9 (by omega) (by omega)
  obtain ⟨a10, k10, l10⟩ := hA 10 (by omega) (by omega)
  obtain ⟨a11, k11, l11⟩ := hA 11 (by omega) (by omega)
  simp only [mLen] at l5 l6 l7 l8 l9 l10 l11
  intro k
  induction k with
  | zero =>
    intro n hn
    have e : n = S.nb := by omega
    subst e
    have hb := cst_b (S := S) (r := r) (x := xv) (y := yv) S.nb
    have hl := cst_l (x := xv) (y := yv) hW hr S.nb (by omega)
    refine wpW (cs := [(60, ce_X5_coveredBy A S), (63, ce_X5_stepsTo A S)]) (stop := [48, 117]) (n := 200) (env_cons (ceV (by decide +kernel) ⟨by decide, by decide, by decide +kernel⟩ (by decide) rfl (ok_X5_coveredBy G A S hW)) (env_cons (ceV (by decide +kernel) ⟨by decide, by decide, by decide +kernel⟩ (by decide) rfl (ok_X5_stepsTo G A S hW)) (env_nil0 (env_hh rfl)))) ?_
    simp only [↓wpN_S, ↓step_u, ↓stC_s, stC_s, ↓stF_u, stF_u, ↓stepI, lenI, ↓kN_u, isS, ↓gI_0, ↓gI_S, ↓gL_0, ↓gL_S, ↓gD_0, ↓gD_S, ↓gR_0, ↓gR_S, ↓sI_c, ↓sL_c, ↓sD_c, ↓sR_c, ↓s1_r, ↓s1_i, ↓vR_r, ↓vR_n, ↓s0_n, s0_n, ↓oR_u, ↓sP_u, ↓sPa_0, ↓sPa_S, ↓lkC_c, ↓callK_u, ↓cQ_s, ↓cQ_n, putL, putW, clr, kil, catS, catN, refF, booF, finF, nF, nmOf_0, nmOf_1, nmOf_2, nmOf_3, nmOf_4, nmOf_5, nmOf_6, nmOf_50, nmOf_51, nmOf_52, ↓reduceIte, reduceIte, Bool.false_eq_true, eq_self, true_or, or_true, true_and, and_true, false_or, or_false, Nat.reduceAdd, Nat.reduceSub, Nat.reduceEqDiff, Nat.reduceLT, Nat.reduceLeDiff, reduceCtorEq, true_implies, List.length_cons, List.length_nil, List.replicate, List.cons_append, List.nil_append, mrt_X5_cast, mhh_X5_cast, mow_X5_cast, mnl_X5_cast, DX5_cast_0, DX5_cast_1, DX5_cast_2, DX5_cast_3, DX5_cast_6, DX5_cast_9, DX5_cast_10, DX5_cast_12, DX5_cast_13, DX5_cast_14, DX5_cast_15, DX5_cast_17, DX5_cast_18, DX5_cast_20, DX5_cast_21, DX5_cast_22, DX5_cast_24, DX5_cast_27, DX5_cast_28, DX5_cast_31, DX5_cast_32, DX5_cast_35, DX5_cast_37, DX5_cast_39, DX5_cast_40, DX5_cast_42, DX5_cast_43, DX5_cast_45, DX5_cast_46, DX5_cast_48, DX5_cast_50, DX5_cast_51, DX5_cast_54, DX5_cast_57, DX5_cast_59, DX5_cast_61, DX5_cast_64, DX5_cast_65, DX5_cast_67, DX5_cast_68, DX5_cast_69, DX5_cast_71, DX5_cast_74, DX5_cast_76, DX5_cast_78, DX5_cast_81, DX5_cast_84, DX5_cast_87, DX5_cast_89, DX5_cast_90, DX5_cast_93, DX5_cast_95, DX5_cast_97, DX5_cast_100, DX5_cast_103, DX5_cast_105, DX5_cast_107, DX5_cast_109, DX5_cast_111, DX5_cast_114, DX5_cast_117, DX5_cast_118, DX5_cast_121, DX5_cast_124, DX5_cast_125, DX5_cast_126, DX5_cast_127, DX5_cast_128, DX5_cast_130, DX5_cast_131, DX5_cast_132, DX5_cast_135, DX5_cast_138, DX5_cast_139, DX5_cast_140, DX5_cast_141, DX5_cast_142, DX5_cast_144, DX5_cast_145, DX5_cast_148, DX5_cast_151, ce_X5_coveredBy, ↓ct_X5_coveredBy, ycl_X5_coveredBy, ce_X5_stepsTo, ↓ct_X5_stepsTo, ycl_X5_stepsTo, cX_nil mhh_X5_cast]
    simp (disch := omega) only [i32_lit, i32_neg, i32_add, i32_mul, i32_sub, i32_nI, i32_lt, i32_le, i32_eq, inR_i, i32_clamp, i32_div, i32_max, i32_min, ite_max, ite_min, b2i_0, b2i_1, b2i_01, i32_toInt, tn_i, Int.toNat_natCast, em_t, true_and, and_true, Int.reduceToNat, Int.reduceLE, Int.reduceLT, Int.reduceAdd, Int.reduceMul, Int.reduceSub, Int.reduceNeg, Int.reduceEq, true_implies, not_true_eq_false, false_implies, not_false_eq_true, hM, hk, fd, fe, fb, fl, a5, k5, l5, a6, k6, l6, a7, k7, l7, a8, k8, l8, a9, k9, l9, a10, k10, l10, a11, k11, l11, true_and, and_true, Option.some.injEq, exists_eq_left', nmOf_0, nmOf_1, nmOf_2, nmOf_3, nmOf_4, nmOf_5, nmOf_6, Nat.add_sub_cancel, Nat.reduceSub, Nat.reduceLT, Nat.reduceEqDiff, ne_eq, not_false_eq_true]
    refine ⟨fun _ => hz _ (by simp [lsub]), fun h2 => by omega⟩
  | succ k ih =>
    intro n hn
    have hb := cst_b (S := S) (r := r) (x := xv) (y := yv) n
    have hl := cst_l (x := xv) (y := yv) hW hr n (by omega)
    have hs := stp_le (x := xv) (y := yv) hW (show n < S.nb by omega) hr
    refine wpW (cs := [(60, ce_X5_coveredBy A S), (63, ce_X5_stepsTo A S)]) (stop := [48, 117]) (n := 200) (env_cons (ceV (by decide +kernel) ⟨by decide, by decide, by decide +kernel⟩ (by decide) rfl (ok_X5_coveredBy G A S hW)) (env_cons (ceV (by decide +kernel) ⟨by decide, by decide, by decide +kernel⟩ (by decide) rfl (ok_X5_stepsTo G A S hW)) (env_nil0 (env_hh rfl)))) ?_
    simp only [↓wpN_S, ↓step_u, ↓stC_s, stC_s, ↓stF_u, stF_u, ↓stepI, lenI, ↓kN_u, isS, ↓gI_0, ↓gI_S, ↓gL_0, ↓gL_S, ↓gD_0, ↓gD_S, ↓gR_0, ↓gR_S, ↓sI_c, ↓sL_c, ↓sD_c, ↓sR_c, ↓s1_r, ↓s1_i, ↓vR_r, ↓vR_n, ↓s0_n, s0_n, ↓oR_u, ↓sP_u, ↓sPa_0, ↓sPa_S, ↓lkC_c, ↓callK_u, ↓cQ_s, ↓cQ_n, putL, putW, clr, kil, catS, catN, refF, booF, finF, nF, nmOf_0, nmOf_1, nmOf_2, nmOf_3, nmOf_4, nmOf_5, nmOf_6, nmOf_50, nmOf_51, nmOf_52, ↓reduceIte, reduceIte, Bool.false_eq_true, eq_self, true_or, or_true, true_and, and_true, false_or, or_false, Nat.reduceAdd, Nat.reduceSub, Nat.reduceEqDiff, Nat.reduceLT, Nat.reduceLeDiff, reduceCtorEq, true_implies, List.length_cons, List.length_nil, List.replicate, List.cons_append, List.nil_append, mrt_X5_cast, mhh_X5_cast, mow_X5_cast, mnl_X5_cast, DX5_cast_0, DX5_cast_1, DX5_cast_2, DX5_cast_3, DX5_cast_6, DX5_cast_9, DX5_cast_10, DX5_cast_12, DX5_cast_13, DX5_cast_14, DX5_cast_15, DX5_cast_17, DX5_cast_18, DX5_cast_20, DX5_cast_21, DX5_cast_22, DX5_cast_24, DX5_cast_27, DX5_cast_28, DX5_cast_31, DX5_cast_32, DX5_cast_35, DX5_cast_37, DX5_cast_39, DX5_cast_40, DX5_cast_42, DX5_cast_43, DX5_cast_45, DX5_cast_46, DX5_cast_48, DX5_cast_50, DX5_cast_51, DX5_cast_54, DX5_cast_57, DX5_cast_59, DX5_cast_61, DX5_cast_64, DX5_cast_65, DX5_cast_67, DX5_cast_68, DX5_cast_69, DX5_cast_71, DX5_cast_74, DX5_cast_76, DX5_cast_78, DX5_cast_81, DX5_cast_84, DX5_cast_87, DX5_cast_89, DX5_cast_90, DX5_cast_93, DX5_cast_95, DX5_cast_97, DX5_cast_100, DX5_cast_103, DX5_cast_105, DX5_cast_107, DX5_cast_109, DX5_cast_111, DX5_cast_114, DX5_cast_117, DX5_cast_118, DX5_cast_121, DX5_cast_124, DX5_cast_125, DX5_cast_126, DX5_cast_127, DX5_cast_128, DX5_cast_130, DX5_cast_131, DX5_cast_132, DX5_cast_135, DX5_cast_138, DX5_cast_139, DX5_cast_140, DX5_cast_141, DX5_cast_142, DX5_cast_144, DX5_cast_145, DX5_cast_148, DX5_cast_151, ce_X5_coveredBy, ↓ct_X5_coveredBy, ycl_X5_coveredBy, ce_X5_stepsTo, ↓ct_X5_stepsTo, ycl_X5_stepsTo, cX_nil mhh_X5_cast]
    simp (disch := omega) only [i32_lit, i32_neg, i32_add, i32_mul, i32_sub, i32_nI, i32_lt, i32_le, i32_eq, inR_i, i32_clamp, i32_div, i32_max, i32_min, ite_max, ite_min, b2i_0, b2i_1, b2i_01, i32_toInt, tn_i, Int.toNat_natCast, em_t, true_and, and_true, Int.reduceToNat, Int.reduceLE, Int.reduceLT, Int.reduceAdd, Int.reduceMul, Int.reduceSub, Int.reduceNeg, Int.reduceEq, true_implies, not_true_eq_false, false_implies, not_false_eq_true, hM, hk, fd, fe, fb, fl, a5, k5, l5, a6, k6, l6, a7, k7, l7, a8, k8, l8, a9, k9, l9, a10, k10, l10, a11, k11, l11, true_and, and_true, Option.some.injEq, exists_eq_left', nmOf_0, nmOf_1, nmOf_2, nmOf_3, nmOf_4, nmOf_5, nmOf_6, Nat.add_sub_cancel, Nat.reduceSub, Nat.reduceLT, Nat.reduceEqDiff, ne_eq, not_false_eq_true]
    refine ⟨fun h2 => by omega, fun h2 => ⟨fun h3 => by omega, fun h3 => ?_⟩⟩
    repeat (refine ⟨by omega, ?_⟩)
    refine ⟨fun h4 => ⟨fun h5 => ?_, fun h5 => ⟨fun h6 => ?_, fun h6 => ?_⟩⟩, fun h4 => ?_⟩
    · have e := ih (n + 1) (by omega)
      rw [cst_n (by omega) (by omega)] at e
      exact e.sub (by simp [lsub])
    · have e := ih (n + 1) (by omega)
      rw [cst_n (by omega) (by omega)] at e
      exact e.sub (by simp [lsub])
    · have e := ih (n + 1) (by omega)
      rw [cst_o (by omega) (by omega)] at e
      exact e.sub (by simp [lsub])
    · have e := ih (n + 1) (by omega)
      rw [cst_0 (by omega)] at e
      exact e.sub (by simp [lsub])
