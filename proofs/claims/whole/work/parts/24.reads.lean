/-! ===== the reference: what leases get ===== -/
def ct_X5_leasesOf (A : Nat → Nat) (S : SS) : Ct := fun As h Q _ => sR As fun m r => sI r fun b r => s0 r (MD h m A S ∧ Q (some (.int (i32 (lsOf S b.toInt)))) h)
def ce_X5_leasesOf (A : Nat → Nat) (S : SS) : CE := (0, yX5_leasesOf, MX5_leasesOf, 1, 1, 0, 0, ct_X5_leasesOf A S)
set_option maxRecDepth 100000 in
set_option maxHeartbeats 4000000 in
theorem lp_X5_leasesOf (G : GT) {A : Nat → Nat} {S : SS} (hW : WF S) {h : Hp} {m : Nat} {bv : Int} {Q : Option Value → Hp → Prop} {QX : String → Hp → Prop} (hbv : inB bv) (hM : MD h m A S) (hq : Q (some (.int (i32 (lsOf S bv)))) h) :
    ∀ k i : Nat, i + k = S.nl → Wp G MX5_leasesOf false 1 Q QX 4 [some (.ref m), some (.int (i32 bv)), some (.int (i32 (sumN (fun l => if S.lf l 0 = bv then S.lf l 6 else 0) i))), some (.int (i32 i))] [] h (0, 0) := by
  have hnb := hW.1
  have hnl := hW.2.1
  have hM0 := hM
  obtain ⟨⟨hk, hA, hJ⟩, fd, fe, fb, fl, hB, hL, hN, hG, hP⟩ := hM0
  obtain ⟨a5, k5, l5⟩ := hA 5 (by omega) (by omega)
  obtain ⟨a6, k6, l6⟩ := hA 6 (by omega) (by omega)
  obtain ⟨a7, k7, l7⟩ := hA 7 (by omega) (by omega)
  obtain ⟨a8, k8, l8⟩ := hA 8 (by omega) (by omega)
  obtain ⟨a9, k9, l9⟩ := hA 9 (by omega) (by omega)
  obtain ⟨a10, k10, l10⟩ := hA 10 (by omega) (by omega)
  obtain ⟨a11, k11, l11⟩ := hA 11 (by omega) (by omega)
  simp only [mLen] at l5 l6 l7 l8 l9 l10 l11
  intro k
  induction k with
  | zero =>
    intro i hi
    refine wpW (cs := [(86, ce_X5_get A S)]) (stop := [4]) (n := 200) (env_cons (ceV (by decide +kernel) ⟨by decide, by decide, by decide +kernel⟩ (by decide) rfl (ok_X5_get G A S hW)) (env_nil0 (env_hh rfl))) ?_
    simp only [↓wpN_S, ↓step_u, ↓stC_s, stC_s, ↓stF_u, stF_u, ↓stepI, lenI, ↓kN_u, isS, ↓gI_0, ↓gI_S, ↓gL_0, ↓gL_S, ↓gD_0, ↓gD_S, ↓gR_0, ↓gR_S, ↓sI_c, ↓sL_c, ↓sD_c, ↓sR_c, ↓s1_r, ↓s1_i, ↓vR_r, ↓vR_n, ↓s0_n, s0_n, ↓oR_u, ↓sP_u, ↓sPa_0, ↓sPa_S, ↓lkC_c, ↓callK_u, ↓cQ_s, ↓cQ_n, putL, putW, clr, kil, catS, catN, refF, booF, finF, nF, nmOf_0, nmOf_1, nmOf_2, nmOf_3, nmOf_4, nmOf_5, nmOf_6, nmOf_50, nmOf_51, nmOf_52, ↓reduceIte, reduceIte, Bool.false_eq_true, eq_self, true_or, or_true, true_and, and_true, false_or, or_false, Nat.reduceAdd, Nat.reduceSub, Nat.reduceEqDiff, Nat.reduceLT, Nat.reduceLeDiff, reduceCtorEq, true_implies, List.length_cons, List.length_nil, List.replicate, List.cons_append, List.nil_append, mrt_X5_leasesOf, mhh_X5_leasesOf, mow_X5_leasesOf, mnl_X5_leasesOf, DX5_leasesOf_0, DX5_leasesOf_1, DX5_leasesOf_2, DX5_leasesOf_3, DX5_leasesOf_4, DX5_leasesOf_5, DX5_leasesOf_6, DX5_leasesOf_9, DX5_leasesOf_12, DX5_leasesOf_13, DX5_leasesOf_14, DX5_leasesOf_15, DX5_leasesOf_16, DX5_leasesOf_19, DX5_leasesOf_20, DX5_leasesOf_23, DX5_leasesOf_24, DX5_leasesOf_25, DX5_leasesOf_27, DX5_leasesOf_30, DX5_leasesOf_33, DX5_leasesOf_34, DX5_leasesOf_35, DX5_leasesOf_36, DX5_leasesOf_39, DX5_leasesOf_42, DX5_leasesOf_43, ce_X5_get, ↓ct_X5_get, ycl_X5_get, cX_nil mhh_X5_leasesOf]
    simp (disch := omega) only [i32_lit, i32_neg, i32_add, i32_mul, i32_sub, i32_nI, i32_lt, i32_le, i32_eq, inR_i, i32_clamp, i32_div, i32_max, i32_min, ite_max, ite_min, b2i_0, b2i_1, b2i_01, i32_toInt, tn_i, Int.toNat_natCast, em_t, true_and, and_true, Int.reduceToNat, Int.reduceLE, Int.reduceLT, Int.reduceAdd, Int.reduceMul, Int.reduceSub, Int.reduceNeg, Int.reduceEq, true_implies, not_true_eq_false, false_implies, not_false_eq_true, hM, hk, fd, fe, fb, fl, a5, k5, l5, a6, k6, l6, a7, k7, l7, a8, k8, l8, a9, k9, l9, a10, k10, l10, a11, k11, l11, true_and, and_true, Option.some.injEq, exists_eq_left', nmOf_0, nmOf_1, nmOf_2, nmOf_3, nmOf_4, nmOf_5, nmOf_6, Nat.add_sub_cancel, Nat.reduceSub, Nat.reduceLT, Nat.reduceEqDiff, ne_eq, not_false_eq_true]
    refine ⟨fun _ => ?_, fun h2 => by omega⟩
    rw [show i = S.nl by omega]
    exact hq
  | succ k ih =>
    intro i hi
    have hs := ih (i + 1) (by omega)
    simp only [sumN] at hs
    obtain ⟨w0, w0', w1, w1', w2, w2', w3, w4, w4', w5, w5', w6, w7, w7'⟩ := hW.2.2.2.1 i (by omega)
    refine wpW (cs := [(86, ce_X5_get A S)]) (stop := [4]) (n := 200) (env_cons (ceV (by decide +kernel) ⟨by decide, by decide, by decide +kernel⟩ (by decide) rfl (ok_X5_get G A S hW)) (env_nil0 (env_hh rfl))) ?_
    simp only [↓wpN_S, ↓step_u, ↓stC_s, stC_s, ↓stF_u, stF_u, ↓stepI, lenI, ↓kN_u, isS, ↓gI_0, ↓gI_S, ↓gL_0, ↓gL_S, ↓gD_0, ↓gD_S, ↓gR_0, ↓gR_S, ↓sI_c, ↓sL_c, ↓sD_c, ↓sR_c, ↓s1_r, ↓s1_i, ↓vR_r, ↓vR_n, ↓s0_n, s0_n, ↓oR_u, ↓sP_u, ↓sPa_0, ↓sPa_S, ↓lkC_c, ↓callK_u, ↓cQ_s, ↓cQ_n, putL, putW, clr, kil, catS, catN, refF, booF, finF, nF, nmOf_0, nmOf_1, nmOf_2, nmOf_3, nmOf_4, nmOf_5, nmOf_6, nmOf_50, nmOf_51, nmOf_52, ↓reduceIte, reduceIte, Bool.false_eq_true, eq_self, true_or, or_true, true_and, and_true, false_or, or_false, Nat.reduceAdd, Nat.reduceSub, Nat.reduceEqDiff, Nat.reduceLT, Nat.reduceLeDiff, reduceCtorEq, true_implies, List.length_cons, List.length_nil, List.replicate, List.cons_append, List.nil_append, mrt_X5_leasesOf, mhh_X5_leasesOf, mow_X5_leasesOf, mnl_X5_leasesOf, DX5_leasesOf_0, DX5_leasesOf_1, DX5_leasesOf_2, DX5_leasesOf_3, DX5_leasesOf_4, DX5_leasesOf_5, DX5_leasesOf_6, DX5_leasesOf_9, DX5_leasesOf_12, DX5_leasesOf_13, DX5_leasesOf_14, DX5_leasesOf_15, DX5_leasesOf_16, DX5_leasesOf_19, DX5_leasesOf_20, DX5_leasesOf_23, DX5_leasesOf_24, DX5_leasesOf_25, DX5_leasesOf_27, DX5_leasesOf_30, DX5_leasesOf_33, DX5_leasesOf_34, DX5_leasesOf_35, DX5_leasesOf_36, DX5_leasesOf_39, DX5_leasesOf_42, DX5_leasesOf_43, ce_X5_get, ↓ct_X5_get, ycl_X5_get, cX_nil mhh_X5_leasesOf]
    simp (disch := omega) only [i32_lit, i32_neg, i32_add, i32_mul, i32_sub, i32_nI, i32_lt, i32_le, i32_eq, inR_i, i32_clamp, i32_div, i32_max, i32_min, ite_max, ite_min, b2i_0, b2i_1, b2i_01, i32_toInt, tn_i, Int.toNat_natCast, em_t, true_and, and_true, Int.reduceToNat, Int.reduceLE, Int.reduceLT, Int.reduceAdd, Int.reduceMul, Int.reduceSub, Int.reduceNeg, Int.reduceEq, true_implies, not_true_eq_false, false_implies, not_false_eq_true, hM, hk, fd, fe, fb, fl, a5, k5, l5, a6, k6, l6, a7, k7, l7, a8, k8, l8, a9, k9, l9, a10, k10, l10, a11, k11, l11, true_and, and_true, Option.some.injEq, exists_eq_left', nmOf_0, nmOf_1, nmOf_2, nmOf_3, nmOf_4, nmOf_5, nmOf_6, Nat.add_sub_cancel, Nat.reduceSub, Nat.reduceLT, Nat.reduceEqDiff, ne_eq, not_false_eq_true]
    refine ⟨fun h2 => by omega, fun h2 => ?_⟩
    repeat (refine ⟨by omega, ?_⟩)
    refine ⟨fun h3 => ?_, fun h3 => ?_⟩
    · rw [if_neg h3] at hs; exact hs
    · rw [if_pos h3] at hs; repeat (refine ⟨by omega, ?_⟩)
      exact hs
set_option maxRecDepth 100000 in
set_option maxHeartbeats 4000000 in
theorem ok_X5_leasesOf (G : GT) (A : Nat → Nat) (S : SS) (hW : WF S) : OKm G yX5_leasesOf MX5_leasesOf 1 0 0 (ct_X5_leasesOf A S) := by
  refine mkOK (ini := false) (by decide) rfl (by first | exact fun _ => rfl | (intro hh; cases hh)) (fun As h Q QX hc => ?_)
  replace hc := sR_e hc; obtain ⟨m, r, rfl, hc⟩ := hc
  replace hc := sI_e hc; obtain ⟨b, r, rfl, hc⟩ := hc
  replace hc := s0_e hc; obtain ⟨rfl, hc⟩ := hc
  obtain ⟨hM, hq⟩ := hc
  obtain ⟨bv, hbv, rfl⟩ := i32_all b
  rw [i32_toInt hbv] at hq
  refine ⟨Nat.le_of_ble_eq_true rfl, ?_⟩
  simp only [ent, entL, catN, List.length_cons, List.length_nil, List.replicate, List.cons_append, List.nil_append, reduceIte, Nat.reduceEqDiff,  Nat.reduceAdd, Nat.reduceSub, mnl_X5_leasesOf]
  refine wpW (cs := [(86, ce_X5_get A S)]) (stop := [4]) (n := 200) (env_cons (ceV (by decide +kernel) ⟨by decide, by decide, by decide +kernel⟩ (by decide) rfl (ok_X5_get G A S hW)) (env_nil0 (env_hh rfl))) ?_
  simp only [↓wpN_S, ↓step_u, ↓stC_s, stC_s, ↓stF_u, stF_u, ↓stepI, lenI, ↓kN_u, isS, ↓gI_0, ↓gI_S, ↓gL_0, ↓gL_S, ↓gD_0, ↓gD_S, ↓gR_0, ↓gR_S, ↓sI_c, ↓sL_c, ↓sD_c, ↓sR_c, ↓s1_r, ↓s1_i, ↓vR_r, ↓vR_n, ↓s0_n, s0_n, ↓oR_u, ↓sP_u, ↓sPa_0, ↓sPa_S, ↓lkC_c, ↓callK_u, ↓cQ_s, ↓cQ_n, putL, putW, clr, kil, catS, catN, refF, booF, finF, nF, nmOf_0, nmOf_1, nmOf_2, nmOf_3, nmOf_4, nmOf_5, nmOf_6, nmOf_50, nmOf_51, nmOf_52, ↓reduceIte, reduceIte, Bool.false_eq_true, eq_self, true_or, or_true, true_and, and_true, false_or, or_false, Nat.reduceAdd, Nat.reduceSub, Nat.reduceEqDiff, Nat.reduceLT, Nat.reduceLeDiff, reduceCtorEq, true_implies, List.length_cons, List.length_nil, List.replicate, List.cons_append, List.nil_append, mrt_X5_leasesOf, mhh_X5_leasesOf, mow_X5_leasesOf, mnl_X5_leasesOf, DX5_leasesOf_0, DX5_leasesOf_1, DX5_leasesOf_2, DX5_leasesOf_3, DX5_leasesOf_4, DX5_leasesOf_5, DX5_leasesOf_6, DX5_leasesOf_9, DX5_leasesOf_12, DX5_leasesOf_13, DX5_leasesOf_14, DX5_leasesOf_15, DX5_leasesOf_16, DX5_leasesOf_19, DX5_leasesOf_20, DX5_leasesOf_23, DX5_leasesOf_24, DX5_leasesOf_25, DX5_leasesOf_27, DX5_leasesOf_30, DX5_leasesOf_33, DX5_leasesOf_34, DX5_leasesOf_35, DX5_leasesOf_36, DX5_leasesOf_39, DX5_leasesOf_42, DX5_leasesOf_43, ce_X5_get, ↓ct_X5_get, ycl_X5_get, cX_nil mhh_X5_leasesOf]
  exact lp_X5_leasesOf G hW hbv hM hq S.nl 0 (by omega)
def ct_X5_has (A : Nat → Nat) (S : SS) : Ct := fun As h Q _ => sR As fun m r => sI r fun l r => sI r fun hr r => s0 r (MD h m A S ∧ (0 ≤ l.toInt ∧ l.toInt < S.nl) ∧ (0 ≤ hr.toInt ∧ hr.toInt < 12) ∧ Q (some (.int (b2i (hasH S (tn l) (tn hr) = true)))) h)
def ce_X5_has (A : Nat → Nat) (S : SS) : CE := (0, yX5_has, MX5_has, 2, 1, 0, 0, ct_X5_has A S)
set_option maxRecDepth 100000 in
set_option maxHeartbeats 4000000 in
theorem ok_X5_has (G : GT) (A : Nat → Nat) (S : SS) (hW : WF S) : OKm G yX5_has MX5_has 1 0 0 (ct_X5_has A S) := by
  refine mkOK (ini := false) (by decide) rfl (by first | exact fun _ => rfl | (intro hh; cases hh)) (fun As h Q QX hc => ?_)
  replace hc := sR_e hc; obtain ⟨m, r, rfl, hc⟩ := hc
  replace hc := sI_e hc; obtain ⟨l, r, rfl, hc⟩ := hc
  replace hc := sI_e hc; obtain ⟨hr, r, rfl, hc⟩ := hc
  replace hc := s0_e hc; obtain ⟨rfl, hc⟩ := hc
  obtain ⟨hM, hl, hh, hq⟩ := hc
  obtain ⟨lv, hlv, rfl⟩ := i32_all l
  obtain ⟨rv, hrv, rfl⟩ := i32_all hr
  rw [i32_toInt hlv] at hl
  rw [i32_toInt hrv] at hh
  obtain ⟨ln', rfl⟩ := Int.eq_ofNat_of_zero_le hl.1
  obtain ⟨rn, rfl⟩ := Int.eq_ofNat_of_zero_le hh.1
  simp only [tn_i hlv, tn_i hrv, Int.toNat_natCast] at hq
  have hnb := hW.1
  have hnl := hW.2.1
  obtain ⟨w0, w0', w1, w1', w2, w2', w3, w4, w4', w5, w5', w6, w7, w7'⟩ := hW.2.2.2.1 ln' (by omega)
  unfold hasH at hq
  simp only [decide_eq_true_eq] at hq
  have hM0 := hM
  obtain ⟨⟨hk, hA, hJ⟩, fd, fe, fb, fl, hB, hL, hN, hG, hP⟩ := hM0
  obtain ⟨a5, k5, l5⟩ := hA 5 (by omega) (by omega)
  obtain ⟨a6, k6, l6⟩ := hA 6 (by omega) (by omega)
  obtain ⟨a7, k7, l7⟩ := hA 7 (by omega) (by omega)
  obtain ⟨a8, k8, l8⟩ := hA 8 (by omega) (by omega)
  obtain ⟨a9, k9, l9⟩ := hA 9 (by omega) (by omega)
  obtain ⟨a10, k10, l10⟩ := hA 10 (by omega) (by omega)
  obtain ⟨a11, k11, l11⟩ := hA 11 (by omega) (by omega)
  simp only [mLen] at l5 l6 l7 l8 l9 l10 l11
  refine ⟨Nat.le_of_ble_eq_true rfl, ?_⟩
  simp only [ent, entL, catN, List.length_cons, List.length_nil, List.replicate, List.cons_append, List.nil_append, reduceIte, Nat.reduceEqDiff,  Nat.reduceAdd, Nat.reduceSub, mnl_X5_has]
  refine wpW (cs := [(86, ce_X5_get A S), (39, ce_X5_isIn)]) (stop := []) (n := 200) (env_cons (ceV (by decide +kernel) ⟨by decide, by decide, by decide +kernel⟩ (by decide) rfl (ok_X5_get G A S hW)) (env_cons (ceS (by decide +kernel) ⟨by decide, by decide, by decide +kernel⟩ (by decide) (ok_X5_isIn G)) (env_nil0 (env_hh rfl)))) ?_
  simp only [↓wpN_S, ↓step_u, ↓stC_s, stC_s, ↓stF_u, stF_u, ↓stepI, lenI, ↓kN_u, isS, ↓gI_0, ↓gI_S, ↓gL_0, ↓gL_S, ↓gD_0, ↓gD_S, ↓gR_0, ↓gR_S, ↓sI_c, ↓sL_c, ↓sD_c, ↓sR_c, ↓s1_r, ↓s1_i, ↓vR_r, ↓vR_n, ↓s0_n, s0_n, ↓oR_u, ↓sP_u, ↓sPa_0, ↓sPa_S, ↓lkC_c, ↓callK_u, ↓cQ_s, ↓cQ_n, putL, putW, clr, kil, catS, catN, refF, booF, finF, nF, nmOf_0, nmOf_1, nmOf_2, nmOf_3, nmOf_4, nmOf_5, nmOf_6, nmOf_50, nmOf_51, nmOf_52, ↓reduceIte, reduceIte, Bool.false_eq_true, eq_self, true_or, or_true, true_and, and_true, false_or, or_false, Nat.reduceAdd, Nat.reduceSub, Nat.reduceEqDiff, Nat.reduceLT, Nat.reduceLeDiff, reduceCtorEq, true_implies, List.length_cons, List.length_nil, List.replicate, List.cons_append, List.nil_append, mrt_X5_has, mhh_X5_has, mow_X5_has, mnl_X5_has, DX5_has_0, DX5_has_1, DX5_has_2, DX5_has_4, DX5_has_7, DX5_has_8, DX5_has_11, DX5_has_12, DX5_has_13, DX5_has_14, DX5_has_15, DX5_has_18, DX5_has_19, DX5_has_20, DX5_has_21, DX5_has_24, DX5_has_27, DX5_has_30, DX5_has_31, DX5_has_34, DX5_has_35, ce_X5_get, ↓ct_X5_get, ycl_X5_get, ce_X5_isIn, ↓ct_X5_isIn, ycl_X5_isIn, cX_nil mhh_X5_has]
  simp (disch := omega) only [i32_lit, i32_neg, i32_add, i32_mul, i32_sub, i32_nI, i32_lt, i32_le, i32_eq, inR_i, i32_clamp, i32_div, i32_max, i32_min, ite_max, ite_min, b2i_0, b2i_1, b2i_01, i32_toInt, tn_i, Int.toNat_natCast, em_t, true_and, and_true, Int.reduceToNat, Int.reduceLE, Int.reduceLT, Int.reduceAdd, Int.reduceMul, Int.reduceSub, Int.reduceNeg, Int.reduceEq, true_implies, not_true_eq_false, false_implies, not_false_eq_true, hM, hk, fd, fe, fb, fl, a5, k5, l5, a6, k6, l6, a7, k7, l7, a8, k8, l8, a9, k9, l9, a10, k10, l10, a11, k11, l11, true_and, and_true, Option.some.injEq, exists_eq_left', nmOf_0, nmOf_1, nmOf_2, nmOf_3, nmOf_4, nmOf_5, nmOf_6, Nat.add_sub_cancel, Nat.reduceSub, Nat.reduceLT, Nat.reduceEqDiff, ne_eq, not_false_eq_true, hl]
  refine ⟨fun h1 => Qb0 hq (fun q => h1 q.1), fun h1 => ⟨fun h2 => Qb0 hq (fun q => h2 q.2), fun h2 => ?_⟩⟩
  exact Qb1 hq ⟨h1, Classical.not_not.mp h2⟩
def ct_X5_areaOf (A : Nat → Nat) (S : SS) : Ct := fun As h Q _ => sR As fun m r => sI r fun b r => sI r fun hr r => s0 r (MD h m A S ∧ MC h A S ∧ (0 ≤ hr.toInt ∧ hr.toInt < 12) ∧ Q (some (.int (i32 (area S b.toInt (tn hr))))) h)
def ce_X5_areaOf (A : Nat → Nat) (S : SS) : CE := (0, yX5_areaOf, MX5_areaOf, 2, 0, 0, 0, ct_X5_areaOf A S)
set_option maxRecDepth 100000 in
set_option maxHeartbeats 4000000 in
theorem lp_X5_areaOf (G : GT) {A : Nat → Nat} {S : SS} (hW : WF S) {h : Hp} {m r : Nat} {bv : Int} {Q : Option Value → Hp → Prop} {QX : String → Hp → Prop} (hr : r < 12) (hbv : inB bv) (hM : MD h m A S) (hC : MC h A S) (hq : Q (some (.int (i32 (area S bv r)))) h) :
    ∀ k i : Nat, i + k = 256 → Wp G MX5_areaOf false 0 Q QX 5 [some (.ref m), some (.int (i32 bv)), some (.int (i32 r)), some (.int (i32 (sumN (fun c => if bel S r c = bv then 1 else 0) i))), some (.int (i32 i))] [] h (0, 0) := by
  have hnb := hW.1
  have hM0 := hM
  obtain ⟨⟨hk, hA, hJ⟩, fd, fe, fb, fl, hB, hL, hN, hG, hP⟩ := hM0
  obtain ⟨a5, k5, l5⟩ := hA 5 (by omega) (by omega)
  obtain ⟨a6, k6, l6⟩ := hA 6 (by omega) (by omega)
  obtain ⟨a7, k7, l7⟩ := hA 7 (by omega) (by omega)
  obtain ⟨a8, k8, l8⟩ := hA 8 (by omega) (by omega)
  obtain ⟨a9, k9, l9⟩ := hA 9 (by omega) (by omega)
  obtain ⟨a10, k10, l10⟩ := hA 10 (by omega) (by omega)
  obtain ⟨a11, k11, l11⟩ := hA 11 (by omega) (by omega)
  simp only [mLen] at l5 l6 l7 l8 l9 l10 l11
  intro k
  induction k with
  | zero =>
    intro i hi
    refine wpW (cs := []) (stop := [5]) (n := 200) (env_nil0 (env_hh rfl)) ?_
    simp only [↓wpN_S, ↓step_u, ↓stC_s, stC_s, ↓stF_u, stF_u, ↓stepI, lenI, ↓kN_u, isS, ↓gI_0, ↓gI_S, ↓gL_0, ↓gL_S, ↓gD_0, ↓gD_S, ↓gR_0, ↓gR_S, ↓sI_c, ↓sL_c, ↓sD_c, ↓sR_c, ↓s1_r, ↓s1_i, ↓vR_r, ↓vR_n, ↓s0_n, s0_n, ↓oR_u, ↓sP_u, ↓sPa_0, ↓sPa_S, ↓lkC_c, ↓callK_u, ↓cQ_s, ↓cQ_n, putL, putW, clr, kil, catS, catN, refF, booF, finF, nF, nmOf_0, nmOf_1, nmOf_2, nmOf_3, nmOf_4, nmOf_5, nmOf_6, nmOf_50, nmOf_51, nmOf_52, ↓reduceIte, reduceIte, Bool.false_eq_true, eq_self, true_or, or_true, true_and, and_true, false_or, or_false, Nat.reduceAdd, Nat.reduceSub, Nat.reduceEqDiff, Nat.reduceLT, Nat.reduceLeDiff, reduceCtorEq, true_implies, List.length_cons, List.length_nil, List.replicate, List.cons_append, List.nil_append, mrt_X5_areaOf, mhh_X5_areaOf, mow_X5_areaOf, mnl_X5_areaOf, DX5_areaOf_0, DX5_areaOf_1, DX5_areaOf_2, DX5_areaOf_3, DX5_areaOf_5, DX5_areaOf_7, DX5_areaOf_10, DX5_areaOf_13, DX5_areaOf_14, DX5_areaOf_15, DX5_areaOf_18, DX5_areaOf_21, DX5_areaOf_22, DX5_areaOf_23, DX5_areaOf_25, DX5_areaOf_26, DX5_areaOf_27, DX5_areaOf_28, DX5_areaOf_31, DX5_areaOf_32, DX5_areaOf_35, DX5_areaOf_36, DX5_areaOf_37, DX5_areaOf_38, DX5_areaOf_41, DX5_areaOf_44, DX5_areaOf_45]
    simp (disch := omega) only [i32_lit, i32_neg, i32_add, i32_mul, i32_sub, i32_nI, i32_lt, i32_le, i32_eq, inR_i, i32_clamp, i32_div, i32_max, i32_min, ite_max, ite_min, b2i_0, b2i_1, b2i_01, i32_toInt, tn_i, Int.toNat_natCast, em_t, true_and, and_true, Int.reduceToNat, Int.reduceLE, Int.reduceLT, Int.reduceAdd, Int.reduceMul, Int.reduceSub, Int.reduceNeg, Int.reduceEq, true_implies, not_true_eq_false, false_implies, not_false_eq_true, hM, hk, fd, fe, fb, fl, a5, k5, l5, a6, k6, l6, a7, k7, l7, a8, k8, l8, a9, k9, l9, a10, k10, l10, a11, k11, l11, true_and, and_true, Option.some.injEq, exists_eq_left', nmOf_0, nmOf_1, nmOf_2, nmOf_3, nmOf_4, nmOf_5, nmOf_6, Nat.add_sub_cancel, Nat.reduceSub, Nat.reduceLT, Nat.reduceEqDiff, ne_eq, not_false_eq_true]
    refine ⟨fun _ => ?_, fun h2 => by omega⟩
    rw [show i = 256 by omega]
    exact hq
  | succ k ih =>
    intro i hi
    have hs := ih (i + 1) (by omega)
    simp only [sumN] at hs
    have hb := bel_b S r i
    refine wpW (cs := []) (stop := [5]) (n := 200) (env_nil0 (env_hh rfl)) ?_
    simp only [↓wpN_S, ↓step_u, ↓stC_s, stC_s, ↓stF_u, stF_u, ↓stepI, lenI, ↓kN_u, isS, ↓gI_0, ↓gI_S, ↓gL_0, ↓gL_S, ↓gD_0, ↓gD_S, ↓gR_0, ↓gR_S, ↓sI_c, ↓sL_c, ↓sD_c, ↓sR_c, ↓s1_r, ↓s1_i, ↓vR_r, ↓vR_n, ↓s0_n, s0_n, ↓oR_u, ↓sP_u, ↓sPa_0, ↓sPa_S, ↓lkC_c, ↓callK_u, ↓cQ_s, ↓cQ_n, putL, putW, clr, kil, catS, catN, refF, booF, finF, nF, nmOf_0, nmOf_1, nmOf_2, nmOf_3, nmOf_4, nmOf_5, nmOf_6, nmOf_50, nmOf_51, nmOf_52, ↓reduceIte, reduceIte, Bool.false_eq_true, eq_self, true_or, or_true, true_and, and_true, false_or, or_false, Nat.reduceAdd, Nat.reduceSub, Nat.reduceEqDiff, Nat.reduceLT, Nat.reduceLeDiff, reduceCtorEq, true_implies, List.length_cons, List.length_nil, List.replicate, List.cons_append, List.nil_append, mrt_X5_areaOf, mhh_X5_areaOf, mow_X5_areaOf, mnl_X5_areaOf, DX5_areaOf_0, DX5_areaOf_1, DX5_areaOf_2, DX5_areaOf_3, DX5_areaOf_5, DX5_areaOf_7, DX5_areaOf_10, DX5_areaOf_13, DX5_areaOf_14, DX5_areaOf_15, DX5_areaOf_18, DX5_areaOf_21, DX5_areaOf_22, DX5_areaOf_23, DX5_areaOf_25, DX5_areaOf_26, DX5_areaOf_27, DX5_areaOf_28, DX5_areaOf_31, DX5_areaOf_32, DX5_areaOf_35, DX5_areaOf_36, DX5_areaOf_37, DX5_areaOf_38, DX5_areaOf_41, DX5_areaOf_44, DX5_areaOf_45]
    simp (disch := omega) only [i32_lit, i32_neg, i32_add, i32_mul, i32_sub, i32_nI, i32_lt, i32_le, i32_eq, inR_i, i32_clamp, i32_div, i32_max, i32_min, ite_max, ite_min, b2i_0, b2i_1, b2i_01, i32_toInt, tn_i, Int.toNat_natCast, em_t, true_and, and_true, Int.reduceToNat, Int.reduceLE, Int.reduceLT, Int.reduceAdd, Int.reduceMul, Int.reduceSub, Int.reduceNeg, Int.reduceEq, true_implies, not_true_eq_false, false_implies, not_false_eq_true, hM, hk, fd, fe, fb, fl, a5, k5, l5, a6, k6, l6, a7, k7, l7, a8, k8, l8, a9, k9, l9, a10, k10, l10, a11, k11, l11, true_and, and_true, Option.some.injEq, exists_eq_left', nmOf_0, nmOf_1, nmOf_2, nmOf_3, nmOf_4, nmOf_5, nmOf_6, Nat.add_sub_cancel, Nat.reduceSub, Nat.reduceLT, Nat.reduceEqDiff, ne_eq, not_false_eq_true]
    refine ⟨fun h2 => by omega, fun h2 => ?_⟩
    repeat (refine ⟨by omega, ?_⟩)
    rw [show (256 * (r : Int) + i).toNat = 256 * r + i by omega, (hC r i hr (by omega)).1]
    simp (disch := omega) only [i32_lit, i32_neg, i32_add, i32_mul, i32_sub, i32_nI, i32_lt, i32_le, i32_eq, inR_i, i32_clamp, i32_div, i32_max, i32_min, ite_max, ite_min, b2i_0, b2i_1, b2i_01, i32_toInt, tn_i, Int.toNat_natCast, em_t, true_and, and_true, Int.reduceToNat, Int.reduceLE, Int.reduceLT, Int.reduceAdd, Int.reduceMul, Int.reduceSub, Int.reduceNeg, Int.reduceEq, true_implies, not_true_eq_false, false_implies, not_false_eq_true]
    refine ⟨fun h3 => ?_, fun h3 => ?_⟩
    · rw [if_neg h3] at hs; exact hs
    · rw [if_pos h3] at hs; exact hs
set_option maxRecDepth 100000 in
set_option maxHeartbeats 4000000 in
theorem ok_X5_areaOf (G : GT) (A : Nat → Nat) (S : SS) (hW : WF S) : OKm G yX5_areaOf MX5_areaOf 0 0 0 (ct_X5_areaOf A S) := by
  refine mkOK (ini := false) (by decide) rfl (by first | exact fun _ => rfl | (intro hh; cases hh)) (fun As h Q QX hc => ?_)
  replace hc := sR_e hc; obtain ⟨m, r, rfl, hc⟩ := hc
  replace hc := sI_e hc; obtain ⟨b, r, rfl, hc⟩ := hc
  replace hc := sI_e hc; obtain ⟨hr, r, rfl, hc⟩ := hc
  replace hc := s0_e hc; obtain ⟨rfl, hc⟩ := hc
  obtain ⟨hM, hC, hh, hq⟩ := hc
  obtain ⟨bv, hbv, rfl⟩ := i32_all b
  obtain ⟨rv, hrv, rfl⟩ := i32_all hr
  rw [i32_toInt hrv] at hh
  obtain ⟨rn, rfl⟩ := Int.eq_ofNat_of_zero_le hh.1
  simp only [i32_toInt hbv, tn_i hrv, Int.toNat_natCast] at hq
  refine ⟨Nat.le_of_ble_eq_true rfl, ?_⟩
  simp only [ent, entL, catN, List.length_cons, List.length_nil, List.replicate, List.cons_append, List.nil_append, reduceIte, Nat.reduceEqDiff,  Nat.reduceAdd, Nat.reduceSub, mnl_X5_areaOf]
  refine wpW (cs := []) (stop := [5]) (n := 200) (env_nil0 (env_hh rfl)) ?_
  simp only [↓wpN_S, ↓step_u, ↓stC_s, stC_s, ↓stF_u, stF_u, ↓stepI, lenI, ↓kN_u, isS, ↓gI_0, ↓gI_S, ↓gL_0, ↓gL_S, ↓gD_0, ↓gD_S, ↓gR_0, ↓gR_S, ↓sI_c, ↓sL_c, ↓sD_c, ↓sR_c, ↓s1_r, ↓s1_i, ↓vR_r, ↓vR_n, ↓s0_n, s0_n, ↓oR_u, ↓sP_u, ↓sPa_0, ↓sPa_S, ↓lkC_c, ↓callK_u, ↓cQ_s, ↓cQ_n, putL, putW, clr, kil, catS, catN, refF, booF, finF, nF, nmOf_0, nmOf_1, nmOf_2, nmOf_3, nmOf_4, nmOf_5, nmOf_6, nmOf_50, nmOf_51, nmOf_52, ↓reduceIte, reduceIte, Bool.false_eq_true, eq_self, true_or, or_true, true_and, and_true, false_or, or_false, Nat.reduceAdd, Nat.reduceSub, Nat.reduceEqDiff, Nat.reduceLT, Nat.reduceLeDiff, reduceCtorEq, true_implies, List.length_cons, List.length_nil, List.replicate, List.cons_append, List.nil_append, mrt_X5_areaOf, mhh_X5_areaOf, mow_X5_areaOf, mnl_X5_areaOf, DX5_areaOf_0, DX5_areaOf_1, DX5_areaOf_2, DX5_areaOf_3, DX5_areaOf_5, DX5_areaOf_7, DX5_areaOf_10, DX5_areaOf_13, DX5_areaOf_14, DX5_areaOf_15, DX5_areaOf_18, DX5_areaOf_21, DX5_areaOf_22, DX5_areaOf_23, DX5_areaOf_25, DX5_areaOf_26, DX5_areaOf_27, DX5_areaOf_28, DX5_areaOf_31, DX5_areaOf_32, DX5_areaOf_35, DX5_areaOf_36, DX5_areaOf_37, DX5_areaOf_38, DX5_areaOf_41, DX5_areaOf_44, DX5_areaOf_45]
  exact lp_X5_areaOf G hW (by omega) hbv hM hC hq 256 0 (by omega)
