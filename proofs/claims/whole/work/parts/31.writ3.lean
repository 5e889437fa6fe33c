/-! ===== the reference: setHeight, raise ===== -/
theorem WF_uB4 {S : SS} {b : Nat} {v : Int} (hW : WF S) (hv : 1 ≤ v ∧ v ≤ 9) : WF (S.uB b 4 v) := by
  obtain ⟨a1, a2, a3, a4, a5, a6, a7, a8⟩ := hW
  have e : ∀ i q, (S.uB b 4 v).bf i q = if i = b ∧ q = 4 then v else S.bf i q := fun i q => rfl
  have hc : cov (S.uB b 4 v) = cov S := by
    funext i x y
    unfold cov
    simp only [e, Nat.reduceEqDiff, and_false, if_false]
  refine ⟨a1, a2, fun i hi => ?_, a4, a5, a6, a7, fun b1 b2 x y h1 h2 h3 h4 => a8 b1 b2 x y h1 h2 (by rw [← hc]; exact h3) (by rw [← hc]; exact h4)⟩
  have := a3 i hi
  simp only [e, Nat.reduceEqDiff, and_false, if_false, and_true]
  by_cases z : i = b
  · simp only [z, if_true]; subst z; omega
  · simp only [z, if_false]; exact this
/-- a height is set, the shades are cast anew -/
def ct_X5_setHeight (A : Nat → Nat) (S : SS) : Ct := fun As h Q _ => sR As fun m r => sI r fun b r => sI r fun v r => s0 r (MD h m A S ∧ (0 ≤ b.toInt ∧ b.toInt < S.nb) ∧ (1 ≤ v.toInt ∧ v.toInt ≤ 9) ∧ ∀ h', MFr (setIA h (A 5) (7 * tn b + 4) v) h' A → MC h' A (S.uB (tn b) 4 v.toInt) → Q (some (.int (i32 (S.bf (tn b) 4)))) h')
def ce_X5_setHeight (A : Nat → Nat) (S : SS) : CE := (0, yX5_setHeight, MX5_setHeight, 2, 7, 0, 0, ct_X5_setHeight A S)
set_option maxRecDepth 100000 in
set_option maxHeartbeats 4000000 in
theorem tl_X5_setHeight (G : GT) {A : Nat → Nat} {S : SS} (hW : WF S) {h : Hp} {m : Nat} {l1 l2 r : Int32} {Q : Option Value → Hp → Prop} {QX : String → Hp → Prop} (hM : MD h m A S) (hq : ∀ h', MFr h h' A → MC h' A S → Q (some (.int r)) h') :
    Wp G MX5_setHeight false 7 Q QX 19 [some (.ref m), some (.int l1), some (.int l2), some (.int r)] [] h (0, 0) := by
  have hM0 := hM
  obtain ⟨⟨hk, hA, hJ⟩, fd, fe, fb, fl, hB, hL, hN, hG, hP⟩ := hM0
  obtain ⟨a5, k5, l5⟩ := hA 5 (by omega) (by omega)
  obtain ⟨a6, k6, l6⟩ := hA 6 (by omega) (by omega)
  obtain ⟨a7, k7, l7⟩ := hA 7 (by omega) (by omega)
  obtain ⟨a8, k8, l8⟩ := hA 8 (by omega) (by omega)
  obtain ⟨a9, k9, l9⟩ := hA 9 (by omega) (by omega)
  obtain ⟨a10, k10, l10⟩ := hA 10 (by omega) (by omega)
  obtain ⟨a11, k11, l11⟩ := hA 11 (by omega) (by omega)
  simp only [mLen] at l5 l6 l7 l8 l9 l10 l11
  refine wpW (cs := [(50, ce_X5_bu A S), (77, ce_X5_castAll A S)]) (stop := [100]) (n := 200) (env_cons (ceV (by decide +kernel) ⟨by decide, by decide, by decide +kernel⟩ (by decide) rfl (ok_X5_bu G A S hW)) (env_cons (ceV (by decide +kernel) ⟨by decide, by decide, by decide +kernel⟩ (by decide) rfl (ok_X5_castAll G A S hW)) (env_nil0 (env_hh rfl)))) ?_
  simp only [↓wpN_S, ↓step_u, ↓stC_s, stC_s, ↓stF_u, stF_u, ↓stepI, lenI, ↓kN_u, isS, ↓gI_0, ↓gI_S, ↓gL_0, ↓gL_S, ↓gD_0, ↓gD_S, ↓gR_0, ↓gR_S, ↓sI_c, ↓sL_c, ↓sD_c, ↓sR_c, ↓s1_r, ↓s1_i, ↓vR_r, ↓vR_n, ↓s0_n, s0_n, ↓oR_u, ↓sP_u, ↓sPa_0, ↓sPa_S, ↓lkC_c, ↓callK_u, ↓cQ_s, ↓cQ_n, putL, putW, clr, kil, catS, catN, refF, booF, finF, nF, nmOf_0, nmOf_1, nmOf_2, nmOf_3, nmOf_4, nmOf_5, nmOf_6, nmOf_50, nmOf_51, nmOf_52, ↓reduceIte, reduceIte, Bool.false_eq_true, eq_self, true_or, or_true, true_and, and_true, false_or, or_false, Nat.reduceAdd, Nat.reduceSub, Nat.reduceEqDiff, Nat.reduceLT, Nat.reduceLeDiff, reduceCtorEq, true_implies, List.length_cons, List.length_nil, List.replicate, List.cons_append, List.nil_append, mrt_X5_setHeight, mhh_X5_setHeight, mow_X5_setHeight, mnl_X5_setHeight, DX5_setHeight_0, DX5_setHeight_1, DX5_setHeight_2, DX5_setHeight_3, DX5_setHeight_6, DX5_setHeight_7, DX5_setHeight_8, DX5_setHeight_11, DX5_setHeight_13, DX5_setHeight_14, DX5_setHeight_15, DX5_setHeight_16, DX5_setHeight_17, DX5_setHeight_18, DX5_setHeight_19, DX5_setHeight_20, DX5_setHeight_23, DX5_setHeight_24, ce_X5_bu, ↓ct_X5_bu, ycl_X5_bu, ce_X5_castAll, ↓ct_X5_castAll, ycl_X5_castAll, cX_nil mhh_X5_setHeight]
  simp only [hM, hk, fd, fe, fb, fl, a5, k5, l5, a6, k6, l6, a7, k7, l7, a8, k8, l8, a9, k9, l9, a10, k10, l10, a11, k11, l11, true_and, and_true, Option.some.injEq, exists_eq_left', nmOf_0, nmOf_1, nmOf_2, nmOf_3, nmOf_4, nmOf_5, nmOf_6, Nat.add_sub_cancel, Nat.reduceSub, Nat.reduceLT, Nat.reduceEqDiff, ne_eq, not_false_eq_true]
  exact hq
set_option maxRecDepth 100000 in
set_option maxHeartbeats 4000000 in
theorem ok_X5_setHeight (G : GT) (A : Nat → Nat) (S : SS) (hW : WF S) : OKm G yX5_setHeight MX5_setHeight 7 0 0 (ct_X5_setHeight A S) := by
  refine mkOK (ini := false) (by decide) rfl (by first | exact fun _ => rfl | (intro hh; cases hh)) (fun As h Q QX hc => ?_)
  replace hc := sR_e hc; obtain ⟨m, r, rfl, hc⟩ := hc
  replace hc := sI_e hc; obtain ⟨b, r, rfl, hc⟩ := hc
  replace hc := sI_e hc; obtain ⟨v, r, rfl, hc⟩ := hc
  replace hc := s0_e hc; obtain ⟨rfl, hc⟩ := hc
  obtain ⟨hM, hb, hv, hq⟩ := hc
  have hnb := hW.1
  obtain ⟨bv, hbv, rfl⟩ := i32_all b
  obtain ⟨vv, hvv, rfl⟩ := i32_all v
  rw [i32_toInt hbv] at hb
  rw [i32_toInt hvv] at hv
  obtain ⟨bn, rfl⟩ := Int.eq_ofNat_of_zero_le hb.1
  simp only [tn_i hbv, i32_toInt hvv, Int.toNat_natCast] at hq
  have hM0 := hM
  obtain ⟨⟨hk, hA, hJ⟩, fd, fe, fb, fl, hB, hL, hN, hG, hP⟩ := hM0
  obtain ⟨a5, k5, l5⟩ := hA 5 (by omega) (by omega)
  obtain ⟨a6, k6, l6⟩ := hA 6 (by omega) (by omega)
  obtain ⟨a7, k7, l7⟩ := hA 7 (by omega) (by omega)
  obtain ⟨a8, k8, l8⟩ := hA 8 (by omega) (by omega)
  obtain ⟨a9, k9, l9⟩ := hA 9 (by omega) (by omega)
  obtain ⟨a10, k10, l10⟩ := hA 10 (by omega) (by omega)
  obtain ⟨a11, k11, l11⟩ := hA 11 (by omega) (by omega)
  simp only [mLen] at l5 l6 l7 l8 l9 l10 l11
  refine ⟨Nat.le_of_ble_eq_true rfl, ?_⟩
  simp only [ent, entL, catN, List.length_cons, List.length_nil, List.replicate, List.cons_append, List.nil_append, reduceIte, Nat.reduceEqDiff,  Nat.reduceAdd, Nat.reduceSub, mnl_X5_setHeight]
  refine wpW (cs := [(50, ce_X5_bu A S), (77, ce_X5_castAll A S)]) (stop := [19]) (n := 200) (env_cons (ceV (by decide +kernel) ⟨by decide, by decide, by decide +kernel⟩ (by decide) rfl (ok_X5_bu G A S hW)) (env_cons (ceV (by decide +kernel) ⟨by decide, by decide, by decide +kernel⟩ (by decide) rfl (ok_X5_castAll G A S hW)) (env_nil0 (env_hh rfl)))) ?_
  simp only [↓wpN_S, ↓step_u, ↓stC_s, stC_s, ↓stF_u, stF_u, ↓stepI, lenI, ↓kN_u, isS, ↓gI_0, ↓gI_S, ↓gL_0, ↓gL_S, ↓gD_0, ↓gD_S, ↓gR_0, ↓gR_S, ↓sI_c, ↓sL_c, ↓sD_c, ↓sR_c, ↓s1_r, ↓s1_i, ↓vR_r, ↓vR_n, ↓s0_n, s0_n, ↓oR_u, ↓sP_u, ↓sPa_0, ↓sPa_S, ↓lkC_c, ↓callK_u, ↓cQ_s, ↓cQ_n, putL, putW, clr, kil, catS, catN, refF, booF, finF, nF, nmOf_0, nmOf_1, nmOf_2, nmOf_3, nmOf_4, nmOf_5, nmOf_6, nmOf_50, nmOf_51, nmOf_52, ↓reduceIte, reduceIte, Bool.false_eq_true, eq_self, true_or, or_true, true_and, and_true, false_or, or_false, Nat.reduceAdd, Nat.reduceSub, Nat.reduceEqDiff, Nat.reduceLT, Nat.reduceLeDiff, reduceCtorEq, true_implies, List.length_cons, List.length_nil, List.replicate, List.cons_append, List.nil_append, mrt_X5_setHeight, mhh_X5_setHeight, mow_X5_setHeight, mnl_X5_setHeight, DX5_setHeight_0, DX5_setHeight_1, DX5_setHeight_2, DX5_setHeight_3, DX5_setHeight_6, DX5_setHeight_7, DX5_setHeight_8, DX5_setHeight_11, DX5_setHeight_13, DX5_setHeight_14, DX5_setHeight_15, DX5_setHeight_16, DX5_setHeight_17, DX5_setHeight_18, DX5_setHeight_19, DX5_setHeight_20, DX5_setHeight_23, DX5_setHeight_24, ce_X5_bu, ↓ct_X5_bu, ycl_X5_bu, ce_X5_castAll, ↓ct_X5_castAll, ycl_X5_castAll, cX_nil mhh_X5_setHeight]
  simp (disch := omega) only [i32_lit, i32_neg, i32_add, i32_mul, i32_sub, i32_nI, i32_lt, i32_le, i32_eq, inR_i, i32_clamp, i32_div, i32_max, i32_min, ite_max, ite_min, b2i_0, b2i_1, b2i_01, i32_toInt, tn_i, Int.toNat_natCast, em_t, true_and, and_true, Int.reduceToNat, Int.reduceLE, Int.reduceLT, Int.reduceAdd, Int.reduceMul, Int.reduceSub, Int.reduceNeg, Int.reduceEq, true_implies, not_true_eq_false, false_implies, not_false_eq_true, hM, hk, fd, fe, fb, fl, a5, k5, l5, a6, k6, l6, a7, k7, l7, a8, k8, l8, a9, k9, l9, a10, k10, l10, a11, k11, l11, true_and, and_true, Option.some.injEq, exists_eq_left', nmOf_0, nmOf_1, nmOf_2, nmOf_3, nmOf_4, nmOf_5, nmOf_6, Nat.add_sub_cancel, Nat.reduceSub, Nat.reduceLT, Nat.reduceEqDiff, ne_eq, not_false_eq_true]
  refine ⟨by omega, by omega, ?_⟩
  rw [show (7 * (bn : Int) + 4).toNat = 7 * bn + 4 by omega]
  exact tl_X5_setHeight (S := S.uB bn 4 vv) G (WF_uB4 hW hv) (MD_uB hM (by omega)) hq
def ct_X5_raise (A : Nat → Nat) (S : SS) : Ct := fun As h Q _ => sR As fun m r => sI r fun b r => sI r fun v r => s0 r (MD h m A S ∧ MC h A S ∧ (((0 ≤ b.toInt ∧ b.toInt < S.nb) ∧ S.bf (tn b) 6 = 1) ∧ (1 ≤ v.toInt ∧ v.toInt ≤ 9) → ∀ h', MFr (setIA (t0 h m) (A 5) (7 * tn b + 4) v) h' A → MC h' A (S.uB (tn b) 4 v.toInt) → Q (some (.int (i32 (S.bf (tn b) 4)))) h') ∧ (¬ ((0 ≤ b.toInt ∧ b.toInt < S.nb) ∧ S.bf (tn b) 6 = 1) → Q (some (.int (i32 0))) (tX h m 1)) ∧ (((0 ≤ b.toInt ∧ b.toInt < S.nb) ∧ S.bf (tn b) 6 = 1) ∧ ¬ (1 ≤ v.toInt ∧ v.toInt ≤ 9) → Q (some (.int (i32 0))) (tX h m 2)))
def ce_X5_raise (A : Nat → Nat) (S : SS) : CE := (0, yX5_raise, MX5_raise, 2, 8, 0, 0, ct_X5_raise A S)
set_option maxRecDepth 100000 in
set_option maxHeartbeats 4000000 in
theorem ok_X5_raise (G : GT) (A : Nat → Nat) (S : SS) (hW : WF S) : OKm G yX5_raise MX5_raise 8 0 0 (ct_X5_raise A S) := by
  refine mkOK (ini := false) (by decide) rfl (by first | exact fun _ => rfl | (intro hh; cases hh)) (fun As h Q QX hc => ?_)
  replace hc := sR_e hc; obtain ⟨m, r, rfl, hc⟩ := hc
  replace hc := sI_e hc; obtain ⟨b, r, rfl, hc⟩ := hc
  replace hc := sI_e hc; obtain ⟨p, r, rfl, hc⟩ := hc
  replace hc := s0_e hc; obtain ⟨rfl, hc⟩ := hc
  obtain ⟨lV, hlV, rfl⟩ := i32_all b
  obtain ⟨pV, hpV, rfl⟩ := i32_all p
  simp only [i32_toInt hlV, tn_i hlV, i32_toInt hpV] at hc
  obtain ⟨hM, hC, hv, hf⟩ := hc
  have hk := hM.1.1
  replace hM : MD (t0 h m) m A S := MD_s0 hM
  replace hC : MC (t0 h m) A S := hC
  refine ⟨Nat.le_of_ble_eq_true rfl, ?_⟩
  simp only [ent, entL, catN, List.length_cons, List.length_nil, List.replicate, List.cons_append, List.nil_append, reduceIte, Nat.reduceEqDiff,  Nat.reduceAdd, Nat.reduceSub, mnl_X5_raise]
  refine wpW (cs := [(54, ce_X5_stands A S), (67, ce_X5_fail), (39, ce_X5_isIn), (93, ce_X5_setHeight A S)]) (stop := [5]) (n := 200) (env_cons (ceV (by decide +kernel) ⟨by decide, by decide, by decide +kernel⟩ (by decide) rfl (ok_X5_stands G A S hW)) (env_cons (ceV (by decide +kernel) ⟨by decide, by decide, by decide +kernel⟩ (by decide) rfl (ok_X5_fail G)) (env_cons (ceS (by decide +kernel) ⟨by decide, by decide, by decide +kernel⟩ (by decide) (ok_X5_isIn G)) (env_cons (ceV (by decide +kernel) ⟨by decide, by decide, by decide +kernel⟩ (by decide) rfl (ok_X5_setHeight G A S hW)) (env_nil0 (env_hh rfl)))))) ?_
  simp only [↓wpN_S, ↓step_u, ↓stC_s, stC_s, ↓stF_u, stF_u, ↓stepI, lenI, ↓kN_u, isS, ↓gI_0, ↓gI_S, ↓gL_0, ↓gL_S, ↓gD_0, ↓gD_S, ↓gR_0, ↓gR_S, ↓sI_c, ↓sL_c, ↓sD_c, ↓sR_c, ↓s1_r, ↓s1_i, ↓vR_r, ↓vR_n, ↓s0_n, s0_n, ↓oR_u, ↓sP_u, ↓sPa_0, ↓sPa_S, ↓lkC_c, ↓callK_u, ↓cQ_s, ↓cQ_n, putL, putW, clr, kil, catS, catN, refF, booF, finF, nF, nmOf_0, nmOf_1, nmOf_2, nmOf_3, nmOf_4, nmOf_5, nmOf_6, nmOf_50, nmOf_51, nmOf_52, ↓reduceIte, reduceIte, Bool.false_eq_true, eq_self, true_or, or_true, true_and, and_true, false_or, or_false, Nat.reduceAdd, Nat.reduceSub, Nat.reduceEqDiff, Nat.reduceLT, Nat.reduceLeDiff, reduceCtorEq, true_implies, List.length_cons, List.length_nil, List.replicate, List.cons_append, List.nil_append, mrt_X5_raise, mhh_X5_raise, mow_X5_raise, mnl_X5_raise, DX5_raise_0, DX5_raise_1, DX5_raise_2, DX5_raise_5, DX5_raise_6, DX5_raise_7, DX5_raise_10, DX5_raise_13, DX5_raise_14, DX5_raise_15, DX5_raise_18, DX5_raise_19, DX5_raise_20, DX5_raise_21, DX5_raise_23, DX5_raise_26, DX5_raise_29, DX5_raise_30, DX5_raise_31, DX5_raise_32, DX5_raise_35, DX5_raise_38, DX5_raise_39, DX5_raise_40, DX5_raise_43, ce_X5_stands, ↓ct_X5_stands, ycl_X5_stands, ce_X5_fail, ↓ct_X5_fail, ycl_X5_fail, ce_X5_isIn, ↓ct_X5_isIn, ycl_X5_isIn, ce_X5_setHeight, ↓ct_X5_setHeight, ycl_X5_setHeight, cX_nil mhh_X5_raise]
  simp only [hk, true_and, false_implies]
  unfold tX at hf
  change Wp G MX5_raise false 8 Q QX 5 _ [] (t0 h m) _
  generalize t0 h m = g at *
  clear hk
  have hnb := hW.1
  have hnl := hW.2.1
  have hM0 := hM
  obtain ⟨⟨hk, hA, hJ⟩, fd, fe, fb, fl, hB, hL, hN, hG, hP⟩ := hM0
  obtain ⟨a5, k5, l5⟩ := hA 5 (by omega) (by omega)
  obtain ⟨a6, k6, l6⟩ := hA 6 (by omega) (by omega)
  obtain ⟨a7, k7, l7⟩ := hA 7 (by omega) (by omega)
  obtain ⟨a8, k8, l8⟩ := hA 8 (by omega) (by omega)
  obtain ⟨a9, k9, l9⟩ := hA 9 (by omega) (by omega)
  obtain ⟨a10, k10, l10⟩ := hA 10 (by omega) (by omega)
  obtain ⟨a11, k11, l11⟩ := hA 11 (by omega) (by omega)
  simp only [mLen] at l5 l6 l7 l8 l9 l10 l11
  refine wpW (cs := [(54, ce_X5_stands A S), (67, ce_X5_fail), (39, ce_X5_isIn), (93, ce_X5_setHeight A S)]) (stop := [5]) (n := 200) (env_cons (ceV (by decide +kernel) ⟨by decide, by decide, by decide +kernel⟩ (by decide) rfl (ok_X5_stands G A S hW)) (env_cons (ceV (by decide +kernel) ⟨by decide, by decide, by decide +kernel⟩ (by decide) rfl (ok_X5_fail G)) (env_cons (ceS (by decide +kernel) ⟨by decide, by decide, by decide +kernel⟩ (by decide) (ok_X5_isIn G)) (env_cons (ceV (by decide +kernel) ⟨by decide, by decide, by decide +kernel⟩ (by decide) rfl (ok_X5_setHeight G A S hW)) (env_nil0 (env_hh rfl)))))) ?_
  simp only [↓wpN_S, ↓step_u, ↓stC_s, stC_s, ↓stF_u, stF_u, ↓stepI, lenI, ↓kN_u, isS, ↓gI_0, ↓gI_S, ↓gL_0, ↓gL_S, ↓gD_0, ↓gD_S, ↓gR_0, ↓gR_S, ↓sI_c, ↓sL_c, ↓sD_c, ↓sR_c, ↓s1_r, ↓s1_i, ↓vR_r, ↓vR_n, ↓s0_n, s0_n, ↓oR_u, ↓sP_u, ↓sPa_0, ↓sPa_S, ↓lkC_c, ↓callK_u, ↓cQ_s, ↓cQ_n, putL, putW, clr, kil, catS, catN, refF, booF, finF, nF, nmOf_0, nmOf_1, nmOf_2, nmOf_3, nmOf_4, nmOf_5, nmOf_6, nmOf_50, nmOf_51, nmOf_52, ↓reduceIte, reduceIte, Bool.false_eq_true, eq_self, true_or, or_true, true_and, and_true, false_or, or_false, Nat.reduceAdd, Nat.reduceSub, Nat.reduceEqDiff, Nat.reduceLT, Nat.reduceLeDiff, reduceCtorEq, true_implies, List.length_cons, List.length_nil, List.replicate, List.cons_append, List.nil_append, mrt_X5_raise, mhh_X5_raise, mow_X5_raise, mnl_X5_raise, DX5_raise_0, DX5_raise_1, DX5_raise_2, DX5_raise_5, DX5_raise_6, DX5_raise_7, DX5_raise_10, DX5_raise_13, DX5_raise_14, DX5_raise_15, DX5_raise_18, DX5_raise_19, DX5_raise_20, DX5_raise_21, DX5_raise_23, DX5_raise_26, DX5_raise_29, DX5_raise_30, DX5_raise_31, DX5_raise_32, DX5_raise_35, DX5_raise_38, DX5_raise_39, DX5_raise_40, DX5_raise_43, ce_X5_stands, ↓ct_X5_stands, ycl_X5_stands, ce_X5_fail, ↓ct_X5_fail, ycl_X5_fail, ce_X5_isIn, ↓ct_X5_isIn, ycl_X5_isIn, ce_X5_setHeight, ↓ct_X5_setHeight, ycl_X5_setHeight, cX_nil mhh_X5_raise]
  simp (disch := omega) only [i32_lit, i32_neg, i32_add, i32_mul, i32_sub, i32_nI, i32_lt, i32_le, i32_eq, inR_i, i32_clamp, i32_div, i32_max, i32_min, ite_max, ite_min, b2i_0, b2i_1, b2i_01, i32_toInt, tn_i, Int.toNat_natCast, em_t, true_and, and_true, Int.reduceToNat, Int.reduceLE, Int.reduceLT, Int.reduceAdd, Int.reduceMul, Int.reduceSub, Int.reduceNeg, Int.reduceEq, true_implies, not_true_eq_false, false_implies, not_false_eq_true, hM, hk, fd, fe, fb, fl, a5, k5, l5, a6, k6, l6, a7, k7, l7, a8, k8, l8, a9, k9, l9, a10, k10, l10, a11, k11, l11, true_and, and_true, Option.some.injEq, exists_eq_left', nmOf_0, nmOf_1, nmOf_2, nmOf_3, nmOf_4, nmOf_5, nmOf_6, Nat.add_sub_cancel, Nat.reduceSub, Nat.reduceLT, Nat.reduceEqDiff, ne_eq, not_false_eq_true, hC]
  refine ⟨fun h1 => ?_, fun h1 => hf.1 h1⟩
  have h1 := Classical.not_not.mp h1
  exact ⟨fun h2 => hf.2 ⟨h1, h2⟩, fun h2 => ⟨h1.1, Classical.not_not.mp h2, hv ⟨h1, Classical.not_not.mp h2⟩⟩⟩
