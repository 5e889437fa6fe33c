/-! ===== the reference: how shade is cast ===== -/
def ct_X5_stepsTo (A : Nat → Nat) (S : SS) : Ct := fun As h Q _ => sR As fun m r => sI r fun b r => sI r fun hr r => sI r fun x r => sI r fun y r => s0 r (MD h m A S ∧ (0 ≤ b.toInt ∧ b.toInt < S.nb) ∧ (0 ≤ hr.toInt ∧ hr.toInt < 12) ∧ (0 ≤ x.toInt ∧ x.toInt < 16) ∧ (0 ≤ y.toInt ∧ y.toInt < 16) ∧ Q (some (.int (i32 (stp S (tn b) (tn hr) x.toInt y.toInt)))) h)
def ce_X5_stepsTo (A : Nat → Nat) (S : SS) : CE := (0, yX5_stepsTo, MX5_stepsTo, 4, 4, 0, 0, ct_X5_stepsTo A S)
theorem fstK_s (p : Nat → Bool) (s n : Nat) (h : p s = true) : fstK p s (n + 1) = s := by unfold fstK; rw [if_pos h]
theorem fstK_n (p : Nat → Bool) (s n : Nat) (h : p s = false) : fstK p s (n + 1) = fstK p (s + 1) n := by rw [fstK, if_neg (by rw [h]; decide)]
set_option maxRecDepth 100000 in
set_option maxHeartbeats 4000000 in
theorem lp_X5_stepsTo (G : GT) {A : Nat → Nat} {S : SS} (hW : WF S) {h : Hp} {m b hr : Nat} {xv yv : Int} {Q : Option Value → Hp → Prop} {QX : String → Hp → Prop} (hb : b < S.nb) (hh : hr < 12) (hx : 0 ≤ xv ∧ xv < 16) (hy : 0 ≤ yv ∧ yv < 16) (hM : MD h m A S) (hq : Q (some (.int (i32 (stp S b hr xv yv)))) h) :
    ∀ n k : Nat, k + n = reach S b hr + 1 → 1 ≤ k → fstK (fun k => cov S b (xv - k * S.sn hr 0) (yv - k * S.sn hr 1)) k n = stp S b hr xv yv → Wp G MX5_stepsTo false 4 Q QX 24 [some (.ref m), some (.int (i32 b)), some (.int (i32 hr)), some (.int (i32 xv)), some (.int (i32 yv)), some (.int (i32 (reach S b hr))), some (.int (i32 k))] [] h (0, 0) := by
  have hnb := hW.1
  have hre := reach_le hW hb hh
  obtain ⟨n1, n2, n3, n4, n5, n6, n7⟩ := hW.2.2.2.2.1 hr hh
  have hM0 := hM
  obtain ⟨⟨hk, hA, hJ⟩, fd, fe, fb, fl, hB, hL, hN, hG, hP⟩ := hM0
  obtain ⟨a5, k5, l5⟩ := hA 5 (by omega) (by omega)
  obtain ⟨a6, k6, l6⟩ := hA 6 (by omega) (by omega)
  obtain ⟨a7, k7, l7⟩ := hA 7 (by omega) (by omega)
  obtain ⟨a8, k8, l8⟩ := hA 8 (by omega) (by omega)
  obtain ⟨a9, k9, l9⟩ := hA 9 (by omega) (by omega)
  obtain ⟨a10, k10, l10⟩ := hA 10 (by omega) (by omega)
  obtain ⟨a11, k11, l11⟩ := hA 11 (by omega) (by omega)
  simp only [mLen] at l5 l6 l7 l8 l9 l10 l11
  have e0 := hN hr 0 hh (by omega)
  have e1 := hN hr 1 hh (by omega)
  rw [Nat.add_zero] at e0
  intro n
  induction n with
  | zero =>
    intro k hkn h1 hf
    refine wpW (cs := [(50, ce_X5_bu A S), (57, ce_X5_covers A S)]) (stop := [24]) (n := 200) (env_cons (ceV (by decide +kernel) ⟨by decide, by decide, by decide +kernel⟩ (by decide) rfl (ok_X5_bu G A S hW)) (env_cons (ceV (by decide +kernel) ⟨by decide, by decide, by decide +kernel⟩ (by decide) rfl (ok_X5_covers G A S hW)) (env_nil0 (env_hh rfl)))) ?_
    simp only [↓wpN_S, ↓step_u, ↓stC_s, stC_s, ↓stF_u, stF_u, ↓stepI, lenI, ↓kN_u, isS, ↓gI_0, ↓gI_S, ↓gL_0, ↓gL_S, ↓gD_0, ↓gD_S, ↓gR_0, ↓gR_S, ↓sI_c, ↓sL_c, ↓sD_c, ↓sR_c, ↓s1_r, ↓s1_i, ↓vR_r, ↓vR_n, ↓s0_n, s0_n, ↓oR_u, ↓sP_u, ↓sPa_0, ↓sPa_S, ↓lkC_c, ↓callK_u, ↓cQ_s, ↓cQ_n, putL, putW, clr, kil, catS, catN, refF, booF, finF, nF, nmOf_0, nmOf_1, nmOf_2, nmOf_3, nmOf_4, nmOf_5, nmOf_6, nmOf_50, nmOf_51, nmOf_52, ↓reduceIte, reduceIte, Bool.false_eq_true, eq_self, true_or, or_true, true_and, and_true, false_or, or_false, Nat.reduceAdd, Nat.reduceSub, Nat.reduceEqDiff, Nat.reduceLT, Nat.reduceLeDiff, reduceCtorEq, true_implies, List.length_cons, List.length_nil, List.replicate, List.cons_append, List.nil_append, mrt_X5_stepsTo, mhh_X5_stepsTo, mow_X5_stepsTo, mnl_X5_stepsTo, DX5_stepsTo_0, DX5_stepsTo_1, DX5_stepsTo_4, DX5_stepsTo_5, DX5_stepsTo_6, DX5_stepsTo_7, DX5_stepsTo_8, DX5_stepsTo_9, DX5_stepsTo_10, DX5_stepsTo_11, DX5_stepsTo_12, DX5_stepsTo_13, DX5_stepsTo_16, DX5_stepsTo_17, DX5_stepsTo_18, DX5_stepsTo_19, DX5_stepsTo_21, DX5_stepsTo_22, DX5_stepsTo_24, DX5_stepsTo_26, DX5_stepsTo_28, DX5_stepsTo_31, DX5_stepsTo_32, DX5_stepsTo_33, DX5_stepsTo_34, DX5_stepsTo_36, DX5_stepsTo_37, DX5_stepsTo_40, DX5_stepsTo_41, DX5_stepsTo_42, DX5_stepsTo_43, DX5_stepsTo_44, DX5_stepsTo_45, DX5_stepsTo_46, DX5_stepsTo_48, DX5_stepsTo_50, DX5_stepsTo_51, DX5_stepsTo_54, DX5_stepsTo_55, DX5_stepsTo_56, DX5_stepsTo_57, DX5_stepsTo_58, DX5_stepsTo_59, DX5_stepsTo_60, DX5_stepsTo_61, DX5_stepsTo_62, DX5_stepsTo_65, DX5_stepsTo_68, DX5_stepsTo_70, DX5_stepsTo_71, DX5_stepsTo_74, DX5_stepsTo_77, DX5_stepsTo_78, ce_X5_bu, ↓ct_X5_bu, ycl_X5_bu, ce_X5_covers, ↓ct_X5_covers, ycl_X5_covers, cX_nil mhh_X5_stepsTo]
    simp (disch := omega) only [i32_lit, i32_neg, i32_add, i32_mul, i32_sub, i32_nI, i32_lt, i32_le, i32_eq, inR_i, i32_clamp, i32_div, i32_max, i32_min, ite_max, ite_min, b2i_0, b2i_1, b2i_01, i32_toInt, tn_i, Int.toNat_natCast, em_t, true_and, and_true, Int.reduceToNat, Int.reduceLE, Int.reduceLT, Int.reduceAdd, Int.reduceMul, Int.reduceSub, Int.reduceNeg, Int.reduceEq, true_implies, not_true_eq_false, false_implies, not_false_eq_true, hM, hk, fd, fe, fb, fl, a5, k5, l5, a6, k6, l6, a7, k7, l7, a8, k8, l8, a9, k9, l9, a10, k10, l10, a11, k11, l11, true_and, and_true, Option.some.injEq, exists_eq_left', nmOf_0, nmOf_1, nmOf_2, nmOf_3, nmOf_4, nmOf_5, nmOf_6, Nat.add_sub_cancel, Nat.reduceSub, Nat.reduceLT, Nat.reduceEqDiff, ne_eq, not_false_eq_true]
    refine ⟨fun _ => ?_, fun h2 => by omega⟩
    rw [← hf] at hq
    exact hq
  | succ n ih =>
    intro k hkn h1 hf
    refine wpW (cs := [(50, ce_X5_bu A S), (57, ce_X5_covers A S)]) (stop := [24]) (n := 200) (env_cons (ceV (by decide +kernel) ⟨by decide, by decide, by decide +kernel⟩ (by decide) rfl (ok_X5_bu G A S hW)) (env_cons (ceV (by decide +kernel) ⟨by decide, by decide, by decide +kernel⟩ (by decide) rfl (ok_X5_covers G A S hW)) (env_nil0 (env_hh rfl)))) ?_
    simp only [↓wpN_S, ↓step_u, ↓stC_s, stC_s, ↓stF_u, stF_u, ↓stepI, lenI, ↓kN_u, isS, ↓gI_0, ↓gI_S, ↓gL_0, ↓gL_S, ↓gD_0, ↓gD_S, ↓gR_0, ↓gR_S, ↓sI_c, ↓sL_c, ↓sD_c, ↓sR_c, ↓s1_r, ↓s1_i, ↓vR_r, ↓vR_n, ↓s0_n, s0_n, ↓oR_u, ↓sP_u, ↓sPa_0, ↓sPa_S, ↓lkC_c, ↓callK_u, ↓cQ_s, ↓cQ_n, putL, putW, clr, kil, catS, catN, refF, booF, finF, nF, nmOf_0, nmOf_1, nmOf_2, nmOf_3, nmOf_4, nmOf_5, nmOf_6, nmOf_50, nmOf_51, nmOf_52, ↓reduceIte, reduceIte, Bool.false_eq_true, eq_self, true_or, or_true, true_and, and_true, false_or, or_false, Nat.reduceAdd, Nat.reduceSub, Nat.reduceEqDiff, Nat.reduceLT, Nat.reduceLeDiff, reduceCtorEq, true_implies, List.length_cons, List.length_nil, List.replicate, List.cons_append, List.nil_append, mrt_X5_stepsTo, mhh_X5_stepsTo, mow_X5_stepsTo, mnl_X5_stepsTo, DX5_stepsTo_0, DX5_stepsTo_1, DX5_stepsTo_4, DX5_stepsTo_5, DX5_stepsTo_6, DX5_stepsTo_7, DX5_stepsTo_8, DX5_stepsTo_9, DX5_stepsTo_10, DX5_stepsTo_11, DX5_stepsTo_12, DX5_stepsTo_13, DX5_stepsTo_16, DX5_stepsTo_17, DX5_stepsTo_18, DX5_stepsTo_19, DX5_stepsTo_21, DX5_stepsTo_22, DX5_stepsTo_24, DX5_stepsTo_26, DX5_stepsTo_28, DX5_stepsTo_31, DX5_stepsTo_32, DX5_stepsTo_33, DX5_stepsTo_34, DX5_stepsTo_36, DX5_stepsTo_37, DX5_stepsTo_40, DX5_stepsTo_41, DX5_stepsTo_42, DX5_stepsTo_43, DX5_stepsTo_44, DX5_stepsTo_45, DX5_stepsTo_46, DX5_stepsTo_48, DX5_stepsTo_50, DX5_stepsTo_51, DX5_stepsTo_54, DX5_stepsTo_55, DX5_stepsTo_56, DX5_stepsTo_57, DX5_stepsTo_58, DX5_stepsTo_59, DX5_stepsTo_60, DX5_stepsTo_61, DX5_stepsTo_62, DX5_stepsTo_65, DX5_stepsTo_68, DX5_stepsTo_70, DX5_stepsTo_71, DX5_stepsTo_74, DX5_stepsTo_77, DX5_stepsTo_78, ce_X5_bu, ↓ct_X5_bu, ycl_X5_bu, ce_X5_covers, ↓ct_X5_covers, ycl_X5_covers, cX_nil mhh_X5_stepsTo]
    simp (disch := omega) only [i32_lit, i32_neg, i32_add, i32_mul, i32_sub, i32_nI, i32_lt, i32_le, i32_eq, inR_i, i32_clamp, i32_div, i32_max, i32_min, ite_max, ite_min, b2i_0, b2i_1, b2i_01, i32_toInt, tn_i, Int.toNat_natCast, em_t, true_and, and_true, Int.reduceToNat, Int.reduceLE, Int.reduceLT, Int.reduceAdd, Int.reduceMul, Int.reduceSub, Int.reduceNeg, Int.reduceEq, true_implies, not_true_eq_false, false_implies, not_false_eq_true, hM, hk, fd, fe, fb, fl, a5, k5, l5, a6, k6, l6, a7, k7, l7, a8, k8, l8, a9, k9, l9, a10, k10, l10, a11, k11, l11, true_and, and_true, Option.some.injEq, exists_eq_left', nmOf_0, nmOf_1, nmOf_2, nmOf_3, nmOf_4, nmOf_5, nmOf_6, Nat.add_sub_cancel, Nat.reduceSub, Nat.reduceLT, Nat.reduceEqDiff, ne_eq, not_false_eq_true]
    refine ⟨fun h2 => by omega, fun h2 => ?_⟩
    repeat (refine ⟨by omega, ?_⟩)
    rw [show (3 * (hr : Int)).toNat = 3 * hr by omega, show (3 * (hr : Int) + 1).toNat = 3 * hr + 1 by omega, e0, e1]
    have b0 : -28 ≤ (k : Int) * S.sn hr 0 ∧ (k : Int) * S.sn hr 0 ≤ 28 := by
      rcases (show S.sn hr 0 = -1 ∨ S.sn hr 0 = 0 ∨ S.sn hr 0 = 1 by omega) with q | q | q <;> rw [q] <;> omega
    have b1 : -28 ≤ (k : Int) * S.sn hr 1 ∧ (k : Int) * S.sn hr 1 ≤ 28 := by
      rcases (show S.sn hr 1 = -1 ∨ S.sn hr 1 = 0 ∨ S.sn hr 1 = 1 by omega) with q | q | q <;> rw [q] <;> omega
    simp (disch := omega) only [i32_lit, i32_neg, i32_add, i32_mul, i32_sub, i32_nI, i32_lt, i32_le, i32_eq, inR_i, i32_clamp, i32_div, i32_max, i32_min, ite_max, ite_min, b2i_0, b2i_1, b2i_01, i32_toInt, tn_i, Int.toNat_natCast, em_t, true_and, and_true, Int.reduceToNat, Int.reduceLE, Int.reduceLT, Int.reduceAdd, Int.reduceMul, Int.reduceSub, Int.reduceNeg, Int.reduceEq, true_implies, not_true_eq_false, false_implies, not_false_eq_true, hM, hk, fd, fe, fb, fl, a5, k5, l5, a6, k6, l6, a7, k7, l7, a8, k8, l8, a9, k9, l9, a10, k10, l10, a11, k11, l11, true_and, and_true, Option.some.injEq, exists_eq_left', nmOf_0, nmOf_1, nmOf_2, nmOf_3, nmOf_4, nmOf_5, nmOf_6, Nat.add_sub_cancel, Nat.reduceSub, Nat.reduceLT, Nat.reduceEqDiff, ne_eq, not_false_eq_true]
    repeat (refine ⟨by omega, ?_⟩)
    refine ⟨fun h3 => ?_, fun h3 => ?_⟩
    · have h3 : cov S b (xv - k * S.sn hr 0) (yv - k * S.sn hr 1) = false := by simpa using h3
      rw [show (k : Int) + 1 = ((k + 1 : Nat) : Int) by omega]
      refine ih (k + 1) (by omega) (by omega) ?_
      rw [← hf, fstK_n _ _ _ h3]
    · have h3 : cov S b (xv - k * S.sn hr 0) (yv - k * S.sn hr 1) = true := by simpa using h3
      rw [← hf, fstK_s _ _ _ h3] at hq
      exact hq
set_option maxRecDepth 100000 in
set_option maxHeartbeats 4000000 in
theorem ok_X5_stepsTo (G : GT) (A : Nat → Nat) (S : SS) (hW : WF S) : OKm G yX5_stepsTo MX5_stepsTo 4 0 0 (ct_X5_stepsTo A S) := by
  refine mkOK (ini := false) (by decide) rfl (by first | exact fun _ => rfl | (intro hh; cases hh)) (fun As h Q QX hc => ?_)
  replace hc := sR_e hc; obtain ⟨m, r, rfl, hc⟩ := hc
  replace hc := sI_e hc; obtain ⟨b, r, rfl, hc⟩ := hc
  replace hc := sI_e hc; obtain ⟨hr, r, rfl, hc⟩ := hc
  replace hc := sI_e hc; obtain ⟨x, r, rfl, hc⟩ := hc
  replace hc := sI_e hc; obtain ⟨y, r, rfl, hc⟩ := hc
  replace hc := s0_e hc; obtain ⟨rfl, hc⟩ := hc
  obtain ⟨hM, hb, hh, hx, hy, hq⟩ := hc
  obtain ⟨bv, hbv, rfl⟩ := i32_all b
  obtain ⟨rv, hrv, rfl⟩ := i32_all hr
  obtain ⟨xv, hxv, rfl⟩ := i32_all x
  obtain ⟨yv, hyv, rfl⟩ := i32_all y
  rw [i32_toInt hbv] at hb
  rw [i32_toInt hrv] at hh
  rw [i32_toInt hxv] at hx hq
  rw [i32_toInt hyv] at hy hq
  obtain ⟨bn, rfl⟩ := Int.eq_ofNat_of_zero_le hb.1
  obtain ⟨hn, rfl⟩ := Int.eq_ofNat_of_zero_le hh.1
  simp only [tn_i hbv, tn_i hrv, Int.toNat_natCast] at hq
  have hnb := hW.1
  obtain ⟨n1, n2, n3, n4, n5, n6, n7⟩ := hW.2.2.2.2.1 hn (by omega)
  have hWB := hW.2.2.1 bn (by omega)
  have hM0 := hM
  obtain ⟨⟨hk, hA, hJ⟩, fd, fe, fb, fl, hB, hL, hN, hG, hP⟩ := hM0
  obtain ⟨a5, k5, l5⟩ := hA 5 (by omega) (by omega)
  obtain ⟨a6, k6, l6⟩ := hA 6 (by omega) (by omega)
  obtain ⟨a7, k7, l7⟩ := hA 7 (by omega) (by omega)
  obtain ⟨a8, k8, l8⟩ := hA 8 (by omega) (by omega)
  obtain ⟨a9, k9, l9⟩ := hA 9 (by omega) (by omega)
  obtain ⟨a10, k10, l10⟩ := hA 10 (by omega) (by omega)
  obtain ⟨a11, k11, l11⟩ := hA 11 (by omega) (by omega)
  simp only [mLen] at l5 l6 l7 l8 l9 l10 l11
  have e2 := hN hn 2 (by omega) (by omega)
  refine ⟨Nat.le_of_ble_eq_true rfl, ?_⟩
  simp only [ent, entL, catN, List.length_cons, List.length_nil, List.replicate, List.cons_append, List.nil_append, reduceIte, Nat.reduceEqDiff,  Nat.reduceAdd, Nat.reduceSub, mnl_X5_stepsTo]
  refine wpW (cs := [(50, ce_X5_bu A S), (57, ce_X5_covers A S)]) (stop := [24]) (n := 200) (env_cons (ceV (by decide +kernel) ⟨by decide, by decide, by decide +kernel⟩ (by decide) rfl (ok_X5_bu G A S hW)) (env_cons (ceV (by decide +kernel) ⟨by decide, by decide, by decide +kernel⟩ (by decide) rfl (ok_X5_covers G A S hW)) (env_nil0 (env_hh rfl)))) ?_
  simp only [↓wpN_S, ↓step_u, ↓stC_s, stC_s, ↓stF_u, stF_u, ↓stepI, lenI, ↓kN_u, isS, ↓gI_0, ↓gI_S, ↓gL_0, ↓gL_S, ↓gD_0, ↓gD_S, ↓gR_0, ↓gR_S, ↓sI_c, ↓sL_c, ↓sD_c, ↓sR_c, ↓s1_r, ↓s1_i, ↓vR_r, ↓vR_n, ↓s0_n, s0_n, ↓oR_u, ↓sP_u, ↓sPa_0, ↓sPa_S, ↓lkC_c, ↓callK_u, ↓cQ_s, ↓cQ_n, putL, putW, clr, kil, catS, catN, refF, booF, finF, nF, nmOf_0, nmOf_1, nmOf_2, nmOf_3, nmOf_4, nmOf_5, nmOf_6, nmOf_50, nmOf_51, nmOf_52, ↓reduceIte, reduceIte, Bool.false_eq_true, eq_self, true_or, or_true, true_and, and_true, false_or, or_false, Nat.reduceAdd, Nat.reduceSub, Nat.reduceEqDiff, Nat.reduceLT, Nat.reduceLeDiff, reduceCtorEq, true_implies, List.length_cons, List.length_nil, List.replicate, List.cons_append, List.nil_append, mrt_X5_stepsTo, mhh_X5_stepsTo, mow_X5_stepsTo, mnl_X5_stepsTo, DX5_stepsTo_0, DX5_stepsTo_1, DX5_stepsTo_4, DX5_stepsTo_5, DX5_stepsTo_6, DX5_stepsTo_7, DX5_stepsTo_8, DX5_stepsTo_9, DX5_stepsTo_10, DX5_stepsTo_11, DX5_stepsTo_12, DX5_stepsTo_13, DX5_stepsTo_16, DX5_stepsTo_17, DX5_stepsTo_18, DX5_stepsTo_19, DX5_stepsTo_21, DX5_stepsTo_22, DX5_stepsTo_24, DX5_stepsTo_26, DX5_stepsTo_28, DX5_stepsTo_31, DX5_stepsTo_32, DX5_stepsTo_33, DX5_stepsTo_34, DX5_stepsTo_36, DX5_stepsTo_37, DX5_stepsTo_40, DX5_stepsTo_41, DX5_stepsTo_42, DX5_stepsTo_43, DX5_stepsTo_44, DX5_stepsTo_45, DX5_stepsTo_46, DX5_stepsTo_48, DX5_stepsTo_50, DX5_stepsTo_51, DX5_stepsTo_54, DX5_stepsTo_55, DX5_stepsTo_56, DX5_stepsTo_57, DX5_stepsTo_58, DX5_stepsTo_59, DX5_stepsTo_60, DX5_stepsTo_61, DX5_stepsTo_62, DX5_stepsTo_65, DX5_stepsTo_68, DX5_stepsTo_70, DX5_stepsTo_71, DX5_stepsTo_74, DX5_stepsTo_77, DX5_stepsTo_78, ce_X5_bu, ↓ct_X5_bu, ycl_X5_bu, ce_X5_covers, ↓ct_X5_covers, ycl_X5_covers, cX_nil mhh_X5_stepsTo]
  simp (disch := omega) only [i32_lit, i32_neg, i32_add, i32_mul, i32_sub, i32_nI, i32_lt, i32_le, i32_eq, inR_i, i32_clamp, i32_div, i32_max, i32_min, ite_max, ite_min, b2i_0, b2i_1, b2i_01, i32_toInt, tn_i, Int.toNat_natCast, em_t, true_and, and_true, Int.reduceToNat, Int.reduceLE, Int.reduceLT, Int.reduceAdd, Int.reduceMul, Int.reduceSub, Int.reduceNeg, Int.reduceEq, true_implies, not_true_eq_false, false_implies, not_false_eq_true, hM, hk, fd, fe, fb, fl, a5, k5, l5, a6, k6, l6, a7, k7, l7, a8, k8, l8, a9, k9, l9, a10, k10, l10, a11, k11, l11, true_and, and_true, Option.some.injEq, exists_eq_left', nmOf_0, nmOf_1, nmOf_2, nmOf_3, nmOf_4, nmOf_5, nmOf_6, Nat.add_sub_cancel, Nat.reduceSub, Nat.reduceLT, Nat.reduceEqDiff, ne_eq, not_false_eq_true]
  rw [show (3 * (hn : Int) + 2).toNat = 3 * hn + 2 by omega, e2]
  have b2 : 0 ≤ S.sn hn 2 * S.bf bn 4 ∧ S.sn hn 2 * S.bf bn 4 ≤ 54 := ⟨Int.mul_nonneg (by omega) (by omega), Int.le_trans (Int.mul_le_mul n7 hWB.2.2.2.2.2.2.2.2.2.1 (by omega) (by omega)) (by omega)⟩
  rw [i32_mul, i32_div b2.1 (by omega) (by omega) (by omega)]
  repeat (refine ⟨by omega, ?_⟩)
  rw [show S.sn hn 2 * S.bf bn 4 / 2 = ((reach S bn hn : Nat) : Int) by unfold reach; omega]
  exact lp_X5_stepsTo G hW (by omega) (by omega) hx hy hM hq (reach S bn hn) 1 (by omega) (by omega) rfl
/-- the cells of hour r up to c are cast -/
def MCr (h : Hp) (A : Nat → Nat) (S : SS) (r c : Nat) : Prop := ∀ j, j < c → ia h (A 10) (256 * r + j) = i32 (bel S r j) ∧ ia h (A 11) (256 * r + j) = i32 (shd S r j)
/-- nothing but the two rows of shades has changed -/
def MFr (h h' : Hp) (A : Nat → Nat) : Prop := (∀ a, kd h' a = kd h a) ∧ (∀ c k a, fi h' c k a = fi h c k a) ∧ (∀ c k a, fr h' c k a = fr h c k a) ∧ (∀ a, ln h' a = ln h a) ∧ (∀ a i, a ≠ A 10 → a ≠ A 11 → ia h' a i = ia h a i) ∧ (∀ a i, ja h' a i = ja h a i) ∧ (∀ a i, ra h' a i = ra h a i)
theorem MFr.rf {h : Hp} {A : Nat → Nat} : MFr h h A := ⟨fun _ => rfl, fun _ _ _ => rfl, fun _ _ _ => rfl, fun _ => rfl, fun _ _ _ _ => rfl, fun _ _ => rfl, fun _ _ => rfl⟩
theorem MFr.tr {h h' h'' : Hp} {A : Nat → Nat} (a : MFr h h' A) (b : MFr h' h'' A) : MFr h h'' A := ⟨fun x => (b.1 x).trans (a.1 x), fun c k x => (b.2.1 c k x).trans (a.2.1 c k x), fun c k x => (b.2.2.1 c k x).trans (a.2.2.1 c k x), fun x => (b.2.2.2.1 x).trans (a.2.2.2.1 x), fun x i q r => (b.2.2.2.2.1 x i q r).trans (a.2.2.2.2.1 x i q r), fun x i => (b.2.2.2.2.2.1 x i).trans (a.2.2.2.2.2.1 x i), fun x i => (b.2.2.2.2.2.2 x i).trans (a.2.2.2.2.2.2 x i)⟩
theorem MFr.md {h h' : Hp} {m : Nat} {A : Nat → Nat} {S : SS} (f : MFr h h' A) (hM : MD h m A S) : MD h' m A S := by
  obtain ⟨⟨hk, hA, hJ⟩, fd, fe, fb, fl, hB, hL, hN, hG, hP⟩ := hM
  obtain ⟨g1, g2, g3, g4, g5, g6, g7⟩ := f
  have ne : ∀ k, 5 ≤ k → k ≤ 9 → A k ≠ A 10 ∧ A k ≠ A 11 := fun k h1 h2 => ⟨fun q => by have := hJ k 10 h1 (by omega) (by omega) (by omega) q; omega, fun q => by have := hJ k 11 h1 (by omega) (by omega) (by omega) q; omega⟩
  refine ⟨⟨(g1 _).trans hk, fun k h1 h2 => ?_, hJ⟩, (g2 _ _ _).trans fd, (g2 _ _ _).trans fe, (g2 _ _ _).trans fb, (g2 _ _ _).trans fl, fun b k h1 h2 => ?_, fun l k h1 h2 => ?_, fun r k h1 h2 => ?_, fun o h1 => ?_, fun t h1 => ?_⟩
  · obtain ⟨q1, q2, q3⟩ := hA k h1 h2
    exact ⟨(g3 _ _ _).trans q1, (g1 _).trans q2, (g4 _).trans q3⟩
  · obtain ⟨q1, q2⟩ := ne 5 (by omega) (by omega); rw [g5 _ _ q1 q2]; exact hB b k h1 h2
  · obtain ⟨q1, q2⟩ := ne 6 (by omega) (by omega); rw [g5 _ _ q1 q2]; exact hL l k h1 h2
  · obtain ⟨q1, q2⟩ := ne 7 (by omega) (by omega); rw [g5 _ _ q1 q2]; exact hN r k h1 h2
  · obtain ⟨q1, q2⟩ := ne 8 (by omega) (by omega); rw [g5 _ _ q1 q2]; exact hG o h1
  · obtain ⟨q1, q2⟩ := ne 9 (by omega) (by omega); rw [g5 _ _ q1 q2]; exact hP t h1
