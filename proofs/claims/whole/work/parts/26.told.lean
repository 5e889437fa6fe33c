/-! ===== the reference: what it tells of buildings, leases, hours; the public reads ===== -/
def ct_X5_isLease (A : Nat → Nat) (S : SS) : Ct := fun As h Q _ => sR As fun m r => sI r fun b r => s0 r (MD h m A S ∧ Q (some (.int (b2i (0 ≤ b.toInt ∧ b.toInt < S.nl)))) h)
def ce_X5_isLease (A : Nat → Nat) (S : SS) : CE := (0, yX5_isLease, MX5_isLease, 1, 1, 0, 0, ct_X5_isLease A S)
set_option maxRecDepth 100000 in
set_option maxHeartbeats 4000000 in
theorem ok_X5_isLease (G : GT) (A : Nat → Nat) (S : SS) (hW : WF S) : OKm G yX5_isLease MX5_isLease 1 0 0 (ct_X5_isLease A S) := by
  refine mkOK (ini := false) (by decide) rfl (by first | exact fun _ => rfl | (intro hh; cases hh)) (fun As h Q QX hc => ?_)
  replace hc := sR_e hc; obtain ⟨m, r, rfl, hc⟩ := hc
  replace hc := sI_e hc; obtain ⟨b, r, rfl, hc⟩ := hc
  replace hc := s0_e hc; obtain ⟨rfl, hc⟩ := hc
  obtain ⟨hM, hq⟩ := hc
  have hnl := hW.2.1
  obtain ⟨bv, hbv, rfl⟩ := i32_all b
  rw [i32_toInt hbv] at hq
  have hM0 := hM
  obtain ⟨⟨hk, hA, hJ⟩, fd, fe, fb, fl, hB, hL, hN, hG, hP⟩ := hM0
  obtain ⟨a5, k5, l5⟩ := hA 5 (by omega) (by omega)
  obtain ⟨a6, k6, l6⟩ := hA 6 (by omega) (by omega)
  obtain ⟨a7, k7, l7⟩ := hA 7 (by omega) (by omega)
  obtain ⟨a8, k8, l8⟩ := hA 8 (by omega) (by omega)
  obtain ⟨a9, k9, l9⟩ := hA 9 (by omega) (by omega)
  obtain ⟨a10, k10, l10⟩ := hA 10 (by omega) (by omega)
  obtain ⟨a11, k11, l11⟩ := hA 11 (by omega) (by omega)
  simp only [mLen] at l5 l6 l7 l8 l9 l10 l11
  refine ⟨Nat.le_of_ble_eq_true rfl, ?_⟩
  simp only [ent, entL, catN, List.length_cons, List.length_nil, List.replicate, List.cons_append, List.nil_append, reduceIte, Nat.reduceEqDiff,  Nat.reduceAdd, Nat.reduceSub, mnl_X5_isLease]
  refine wpW (cs := [(39, ce_X5_isIn)]) (stop := []) (n := 200) (env_cons (ceS (by decide +kernel) ⟨by decide, by decide, by decide +kernel⟩ (by decide) (ok_X5_isIn G)) (env_nil0 (env_hh rfl))) ?_
  simp only [↓wpN_S, ↓step_u, ↓stC_s, stC_s, ↓stF_u, stF_u, ↓stepI, lenI, ↓kN_u, isS, ↓gI_0, ↓gI_S, ↓gL_0, ↓gL_S, ↓gD_0, ↓gD_S, ↓gR_0, ↓gR_S, ↓sI_c, ↓sL_c, ↓sD_c, ↓sR_c, ↓s1_r, ↓s1_i, ↓vR_r, ↓vR_n, ↓s0_n, s0_n, ↓oR_u, ↓sP_u, ↓sPa_0, ↓sPa_S, ↓lkC_c, ↓callK_u, ↓cQ_s, ↓cQ_n, putL, putW, clr, kil, catS, catN, refF, booF, finF, nF, nmOf_0, nmOf_1, nmOf_2, nmOf_3, nmOf_4, nmOf_5, nmOf_6, nmOf_50, nmOf_51, nmOf_52, ↓reduceIte, reduceIte, Bool.false_eq_true, eq_self, true_or, or_true, true_and, and_true, false_or, or_false, Nat.reduceAdd, Nat.reduceSub, Nat.reduceEqDiff, Nat.reduceLT, Nat.reduceLeDiff, reduceCtorEq, true_implies, List.length_cons, List.length_nil, List.replicate, List.cons_append, List.nil_append, mrt_X5_isLease, mhh_X5_isLease, mow_X5_isLease, mnl_X5_isLease, DX5_isLease_0, DX5_isLease_1, DX5_isLease_2, DX5_isLease_3, DX5_isLease_6, DX5_isLease_7, DX5_isLease_8, DX5_isLease_11, ce_X5_isIn, ↓ct_X5_isIn, ycl_X5_isIn, cX_nil mhh_X5_isLease]
  simp (disch := omega) only [i32_lit, i32_neg, i32_add, i32_mul, i32_sub, i32_nI, i32_lt, i32_le, i32_eq, inR_i, i32_clamp, i32_div, i32_max, i32_min, ite_max, ite_min, b2i_0, b2i_1, b2i_01, i32_toInt, tn_i, Int.toNat_natCast, em_t, true_and, and_true, Int.reduceToNat, Int.reduceLE, Int.reduceLT, Int.reduceAdd, Int.reduceMul, Int.reduceSub, Int.reduceNeg, Int.reduceEq, true_implies, not_true_eq_false, false_implies, not_false_eq_true, hM, hk, fd, fe, fb, fl, a5, k5, l5, a6, k6, l6, a7, k7, l7, a8, k8, l8, a9, k9, l9, a10, k10, l10, a11, k11, l11, true_and, and_true, Option.some.injEq, exists_eq_left', nmOf_0, nmOf_1, nmOf_2, nmOf_3, nmOf_4, nmOf_5, nmOf_6, Nat.add_sub_cancel, Nat.reduceSub, Nat.reduceLT, Nat.reduceEqDiff, ne_eq, not_false_eq_true]
  rw [b2i_c (c' := 0 ≤ bv ∧ bv < S.nl) (by constructor <;> (rintro ⟨h1, h2⟩; omega))]
  exact hq
def ct_X5_buildingTold (A : Nat → Nat) (S : SS) : Ct := fun As h Q _ => sR As fun m r => sI r fun b r => sI r fun w r => s0 r (MD h m A S ∧ (0 ≤ b.toInt ∧ b.toInt < S.nb) ∧ (0 ≤ w.toInt ∧ w.toInt < 8) ∧ Q (some (.int (i32 (buT S (tn b) (tn w))))) h)
def ce_X5_buildingTold (A : Nat → Nat) (S : SS) : CE := (0, yX5_buildingTold, MX5_buildingTold, 2, 2, 0, 0, ct_X5_buildingTold A S)
set_option maxRecDepth 100000 in
set_option maxHeartbeats 4000000 in
theorem ok_X5_buildingTold (G : GT) (A : Nat → Nat) (S : SS) (hW : WF S) : OKm G yX5_buildingTold MX5_buildingTold 2 0 0 (ct_X5_buildingTold A S) := by
  refine mkOK (ini := false) (by decide) rfl (by first | exact fun _ => rfl | (intro hh; cases hh)) (fun As h Q QX hc => ?_)
  replace hc := sR_e hc; obtain ⟨m, r, rfl, hc⟩ := hc
  replace hc := sI_e hc; obtain ⟨b, r, rfl, hc⟩ := hc
  replace hc := sI_e hc; obtain ⟨w, r, rfl, hc⟩ := hc
  replace hc := s0_e hc; obtain ⟨rfl, hc⟩ := hc
  obtain ⟨hM, hb, hw, hq⟩ := hc
  have hnb := hW.1
  obtain ⟨bv, hbv, rfl⟩ := i32_all b
  obtain ⟨wv, hwv, rfl⟩ := i32_all w
  rw [i32_toInt hbv] at hb
  rw [i32_toInt hwv] at hw
  obtain ⟨bn, rfl⟩ := Int.eq_ofNat_of_zero_le hb.1
  obtain ⟨wn, rfl⟩ := Int.eq_ofNat_of_zero_le hw.1
  simp only [tn_i hbv, tn_i hwv, Int.toNat_natCast] at hq
  have hM0 := hM
  obtain ⟨⟨hk, hA, hJ⟩, fd, fe, fb, fl, hB, hL, hN, hG, hP⟩ := hM0
  obtain ⟨a5, k5, l5⟩ := hA 5 (by omega) (by omega)
  obtain ⟨a6, k6, l6⟩ := hA 6 (by omega) (by omega)
  obtain ⟨a7, k7, l7⟩ := hA 7 (by omega) (by omega)
  obtain ⟨a8, k8, l8⟩ := hA 8 (by omega) (by omega)
  obtain ⟨a9, k9, l9⟩ := hA 9 (by omega) (by omega)
  obtain ⟨a10, k10, l10⟩ := hA 10 (by omega) (by omega)
  obtain ⟨a11, k11, l11⟩ := hA 11 (by omega) (by omega)
  simp only [mLen] at l5 l6 l7 l8 l9 l10 l11
  refine ⟨Nat.le_of_ble_eq_true rfl, ?_⟩
  simp only [ent, entL, catN, List.length_cons, List.length_nil, List.replicate, List.cons_append, List.nil_append, reduceIte, Nat.reduceEqDiff,  Nat.reduceAdd, Nat.reduceSub, mnl_X5_buildingTold]
  refine wpW (cs := [(50, ce_X5_bu A S), (80, ce_X5_leasesOf A S)]) (stop := []) (n := 200) (env_cons (ceV (by decide +kernel) ⟨by decide, by decide, by decide +kernel⟩ (by decide) rfl (ok_X5_bu G A S hW)) (env_cons (ceV (by decide +kernel) ⟨by decide, by decide, by decide +kernel⟩ (by decide) rfl (ok_X5_leasesOf G A S hW)) (env_nil0 (env_hh rfl)))) ?_
  simp only [↓wpN_S, ↓step_u, ↓stC_s, stC_s, ↓stF_u, stF_u, ↓stepI, lenI, ↓kN_u, isS, ↓gI_0, ↓gI_S, ↓gL_0, ↓gL_S, ↓gD_0, ↓gD_S, ↓gR_0, ↓gR_S, ↓sI_c, ↓sL_c, ↓sD_c, ↓sR_c, ↓s1_r, ↓s1_i, ↓vR_r, ↓vR_n, ↓s0_n, s0_n, ↓oR_u, ↓sP_u, ↓sPa_0, ↓sPa_S, ↓lkC_c, ↓callK_u, ↓cQ_s, ↓cQ_n, putL, putW, clr, kil, catS, catN, refF, booF, finF, nF, nmOf_0, nmOf_1, nmOf_2, nmOf_3, nmOf_4, nmOf_5, nmOf_6, nmOf_50, nmOf_51, nmOf_52, ↓reduceIte, reduceIte, Bool.false_eq_true, eq_self, true_or, or_true, true_and, and_true, false_or, or_false, Nat.reduceAdd, Nat.reduceSub, Nat.reduceEqDiff, Nat.reduceLT, Nat.reduceLeDiff, reduceCtorEq, true_implies, List.length_cons, List.length_nil, List.replicate, List.cons_append, List.nil_append, mrt_X5_buildingTold, mhh_X5_buildingTold, mow_X5_buildingTold, mnl_X5_buildingTold, DX5_buildingTold_0, DX5_buildingTold_1, DX5_buildingTold_3, DX5_buildingTold_6, DX5_buildingTold_7, DX5_buildingTold_8, DX5_buildingTold_9, DX5_buildingTold_12, DX5_buildingTold_15, DX5_buildingTold_16, DX5_buildingTold_17, DX5_buildingTold_20, ce_X5_bu, ↓ct_X5_bu, ycl_X5_bu, ce_X5_leasesOf, ↓ct_X5_leasesOf, ycl_X5_leasesOf, cX_nil mhh_X5_buildingTold]
  simp (disch := omega) only [i32_lit, i32_neg, i32_add, i32_mul, i32_sub, i32_nI, i32_lt, i32_le, i32_eq, inR_i, i32_clamp, i32_div, i32_max, i32_min, ite_max, ite_min, b2i_0, b2i_1, b2i_01, i32_toInt, tn_i, Int.toNat_natCast, em_t, true_and, and_true, Int.reduceToNat, Int.reduceLE, Int.reduceLT, Int.reduceAdd, Int.reduceMul, Int.reduceSub, Int.reduceNeg, Int.reduceEq, true_implies, not_true_eq_false, false_implies, not_false_eq_true, hM, hk, fd, fe, fb, fl, a5, k5, l5, a6, k6, l6, a7, k7, l7, a8, k8, l8, a9, k9, l9, a10, k10, l10, a11, k11, l11, true_and, and_true, Option.some.injEq, exists_eq_left', nmOf_0, nmOf_1, nmOf_2, nmOf_3, nmOf_4, nmOf_5, nmOf_6, Nat.add_sub_cancel, Nat.reduceSub, Nat.reduceLT, Nat.reduceEqDiff, ne_eq, not_false_eq_true]
  unfold buT at hq
  refine ⟨fun h1 => ?_, fun h1 => ?_⟩
  · rw [if_neg (by omega)] at hq; exact hq
  · rw [if_pos (by omega)] at hq; repeat (refine ⟨by omega, ?_⟩)
    exact hq
def ct_X5_leaseTold (A : Nat → Nat) (S : SS) : Ct := fun As h Q _ => sR As fun m r => sI r fun l r => sI r fun w r => s0 r (MD h m A S ∧ MC h A S ∧ (0 ≤ l.toInt ∧ l.toInt < S.nl) ∧ (0 ≤ w.toInt ∧ w.toInt < 10) ∧ Q (some (.int (i32 (leT S (tn l) (tn w))))) h)
def ce_X5_leaseTold (A : Nat → Nat) (S : SS) : CE := (0, yX5_leaseTold, MX5_leaseTold, 2, 7, 0, 0, ct_X5_leaseTold A S)
set_option maxRecDepth 100000 in
set_option maxHeartbeats 4000000 in
theorem ok_X5_leaseTold (G : GT) (A : Nat → Nat) (S : SS) (hW : WF S) : OKm G yX5_leaseTold MX5_leaseTold 7 0 0 (ct_X5_leaseTold A S) := by
  refine mkOK (ini := false) (by decide) rfl (by first | exact fun _ => rfl | (intro hh; cases hh)) (fun As h Q QX hc => ?_)
  replace hc := sR_e hc; obtain ⟨m, r, rfl, hc⟩ := hc
  replace hc := sI_e hc; obtain ⟨b, r, rfl, hc⟩ := hc
  replace hc := sI_e hc; obtain ⟨w, r, rfl, hc⟩ := hc
  replace hc := s0_e hc; obtain ⟨rfl, hc⟩ := hc
  obtain ⟨hM, hC, hb, hw, hq⟩ := hc
  have hnb := hW.2.1
  obtain ⟨bv, hbv, rfl⟩ := i32_all b
  obtain ⟨wv, hwv, rfl⟩ := i32_all w
  rw [i32_toInt hbv] at hb
  rw [i32_toInt hwv] at hw
  obtain ⟨bn, rfl⟩ := Int.eq_ofNat_of_zero_le hb.1
  obtain ⟨wn, rfl⟩ := Int.eq_ofNat_of_zero_le hw.1
  simp only [tn_i hbv, tn_i hwv, Int.toNat_natCast] at hq
  have hM0 := hM
  obtain ⟨⟨hk, hA, hJ⟩, fd, fe, fb, fl, hB, hL, hN, hG, hP⟩ := hM0
  obtain ⟨a5, k5, l5⟩ := hA 5 (by omega) (by omega)
  obtain ⟨a6, k6, l6⟩ := hA 6 (by omega) (by omega)
  obtain ⟨a7, k7, l7⟩ := hA 7 (by omega) (by omega)
  obtain ⟨a8, k8, l8⟩ := hA 8 (by omega) (by omega)
  obtain ⟨a9, k9, l9⟩ := hA 9 (by omega) (by omega)
  obtain ⟨a10, k10, l10⟩ := hA 10 (by omega) (by omega)
  obtain ⟨a11, k11, l11⟩ := hA 11 (by omega) (by omega)
  simp only [mLen] at l5 l6 l7 l8 l9 l10 l11
  refine ⟨Nat.le_of_ble_eq_true rfl, ?_⟩
  simp only [ent, entL, catN, List.length_cons, List.length_nil, List.replicate, List.cons_append, List.nil_append, reduceIte, Nat.reduceEqDiff,  Nat.reduceAdd, Nat.reduceSub, mnl_X5_leaseTold]
  refine wpW (cs := [(86, ce_X5_get A S), (138, ce_X5_shortHours A S)]) (stop := []) (n := 200) (env_cons (ceV (by decide +kernel) ⟨by decide, by decide, by decide +kernel⟩ (by decide) rfl (ok_X5_get G A S hW)) (env_cons (ceV (by decide +kernel) ⟨by decide, by decide, by decide +kernel⟩ (by decide) rfl (ok_X5_shortHours G A S hW)) (env_nil0 (env_hh rfl)))) ?_
  simp only [↓wpN_S, ↓step_u, ↓stC_s, stC_s, ↓stF_u, stF_u, ↓stepI, lenI, ↓kN_u, isS, ↓gI_0, ↓gI_S, ↓gL_0, ↓gL_S, ↓gD_0, ↓gD_S, ↓gR_0, ↓gR_S, ↓sI_c, ↓sL_c, ↓sD_c, ↓sR_c, ↓s1_r, ↓s1_i, ↓vR_r, ↓vR_n, ↓s0_n, s0_n, ↓oR_u, ↓sP_u, ↓sPa_0, ↓sPa_S, ↓lkC_c, ↓callK_u, ↓cQ_s, ↓cQ_n, putL, putW, clr, kil, catS, catN, refF, booF, finF, nF, nmOf_0, nmOf_1, nmOf_2, nmOf_3, nmOf_4, nmOf_5, nmOf_6, nmOf_50, nmOf_51, nmOf_52, ↓reduceIte, reduceIte, Bool.false_eq_true, eq_self, true_or, or_true, true_and, and_true, false_or, or_false, Nat.reduceAdd, Nat.reduceSub, Nat.reduceEqDiff, Nat.reduceLT, Nat.reduceLeDiff, reduceCtorEq, true_implies, List.length_cons, List.length_nil, List.replicate, List.cons_append, List.nil_append, mrt_X5_leaseTold, mhh_X5_leaseTold, mow_X5_leaseTold, mnl_X5_leaseTold, DX5_leaseTold_0, DX5_leaseTold_1, DX5_leaseTold_3, DX5_leaseTold_6, DX5_leaseTold_7, DX5_leaseTold_8, DX5_leaseTold_9, DX5_leaseTold_12, DX5_leaseTold_15, DX5_leaseTold_16, DX5_leaseTold_17, DX5_leaseTold_20, ce_X5_get, ↓ct_X5_get, ycl_X5_get, ce_X5_shortHours, ↓ct_X5_shortHours, ycl_X5_shortHours, cX_nil mhh_X5_leaseTold]
  simp (disch := omega) only [i32_lit, i32_neg, i32_add, i32_mul, i32_sub, i32_nI, i32_lt, i32_le, i32_eq, inR_i, i32_clamp, i32_div, i32_max, i32_min, ite_max, ite_min, b2i_0, b2i_1, b2i_01, i32_toInt, tn_i, Int.toNat_natCast, em_t, true_and, and_true, Int.reduceToNat, Int.reduceLE, Int.reduceLT, Int.reduceAdd, Int.reduceMul, Int.reduceSub, Int.reduceNeg, Int.reduceEq, true_implies, not_true_eq_false, false_implies, not_false_eq_true, hM, hk, fd, fe, fb, fl, a5, k5, l5, a6, k6, l6, a7, k7, l7, a8, k8, l8, a9, k9, l9, a10, k10, l10, a11, k11, l11, true_and, and_true, Option.some.injEq, exists_eq_left', nmOf_0, nmOf_1, nmOf_2, nmOf_3, nmOf_4, nmOf_5, nmOf_6, Nat.add_sub_cancel, Nat.reduceSub, Nat.reduceLT, Nat.reduceEqDiff, ne_eq, not_false_eq_true, hC]
  unfold leT at hq
  refine ⟨fun h1 => ?_, fun h1 => ?_⟩
  · rw [if_neg (by omega)] at hq; repeat (refine ⟨by omega, ?_⟩)
    exact hq
  · rw [if_pos (by omega)] at hq; repeat (refine ⟨by omega, ?_⟩)
    exact hq
def ct_X5_hourTold (A : Nat → Nat) (S : SS) : Ct := fun As h Q _ => sR As fun m r => sI r fun hr r => sI r fun w r => s0 r (MD h m A S ∧ MC h A S ∧ (0 ≤ hr.toInt ∧ hr.toInt < 12) ∧ (0 ≤ w.toInt ∧ w.toInt < 4) ∧ Q (some (.int (i32 (hrT S (tn hr) (tn w))))) h)
def ce_X5_hourTold (A : Nat → Nat) (S : SS) : CE := (0, yX5_hourTold, MX5_hourTold, 2, 6, 0, 0, ct_X5_hourTold A S)
/-- the sum over the cells, for what < 2 -/
def hr5 (S : SS) (r w n : Nat) : Int := sumN (fun c => if w = 0 then (if 0 ≤ bel S r c then 1 else 0) else (if 1 < shd S r c then 1 else 0)) n
/-- the sum over the leases, for what > 1 -/
def hr80 (S : SS) (r w n : Nat) : Int := sumN (fun l => if w = 2 then gts S l r else (if isSh S l r = true then 1 else 0)) n
set_option maxRecDepth 100000 in
set_option maxHeartbeats 4000000 in
theorem lp_X5_hourTold80 (G : GT) {A : Nat → Nat} {S : SS} (hW : WF S) {h : Hp} {m r w : Nat} {Q : Option Value → Hp → Prop} {QX : String → Hp → Prop} (hr : r < 12) (hw : 2 ≤ w ∧ w < 4) (hM : MD h m A S) (hC : MC h A S) (hq : Q (some (.int (i32 (hr80 S r w S.nl)))) h) :
    ∀ k i : Nat, i + k = S.nl → Wp G MX5_hourTold false 6 Q QX 80 [some (.ref m), some (.int (i32 r)), some (.int (i32 w)), some (.int (i32 (hr80 S r w i))), some (.int (i32 i))] [] h (0, 0) := by
  have hnb := hW.1
  have hnl := hW.2.1
  have hM0 := hM
  obtain ⟨⟨hk, hA, hJ⟩, fd, fe, fb, fl, hB, hL, hN, hG, hP⟩ := hM0
  obtain ⟨a5, k5, l5⟩ := hA 5 (by omega) (by omega)
  obtain ⟨a6, k6, l6⟩ := hA 6 (by omega) (by omega)
  obtain ⟨a7, k7, l7⟩ := hA 7 (by omega) (by omega)
  obtain ⟨a8, k8, l8⟩ := hA 8 (by omega) (by omega)
  obtain ⟨a9, k9, l9⟩ := hA 9 (by omega) (by omega)
  obtain ⟨a10, k10, l10⟩ := hA 10 (by omega) (by omega)
  obtain ⟨a11, k11, l11⟩ := hA 11 (by omega) (by omega)
  simp only [mLen] at l5 l6 l7 l8 l9 l10 l11
  intro k
  induction k with
  | zero =>
    intro i hi
    refine wpW (cs := [(126, ce_X5_getsOf A S), (129, ce_X5_isShort A S)]) (stop := [5, 80]) (n := 200) (env_cons (ceV (by decide +kernel) ⟨by decide, by decide, by decide +kernel⟩ (by decide) rfl (ok_X5_getsOf G A S hW)) (env_cons (ceV (by decide +kernel) ⟨by decide, by decide, by decide +kernel⟩ (by decide) rfl (ok_X5_isShort G A S hW)) (env_nil0 (env_hh rfl)))) ?_
    simp only [↓wpN_S, ↓step_u, ↓stC_s, stC_s, ↓stF_u, stF_u, ↓stepI, lenI, ↓kN_u, isS, ↓gI_0, ↓gI_S, ↓gL_0, ↓gL_S, ↓gD_0, ↓gD_S, ↓gR_0, ↓gR_S, ↓sI_c, ↓sL_c, ↓sD_c, ↓sR_c, ↓s1_r, ↓s1_i, ↓vR_r, ↓vR_n, ↓s0_n, s0_n, ↓oR_u, ↓sP_u, ↓sPa_0, ↓sPa_S, ↓lkC_c, ↓callK_u, ↓cQ_s, ↓cQ_n, putL, putW, clr, kil, catS, catN, refF, booF, finF, nF, nmOf_0, nmOf_1, nmOf_2, nmOf_3, nmOf_4, nmOf_5, nmOf_6, nmOf_50, nmOf_51, nmOf_52, ↓reduceIte, reduceIte, Bool.false_eq_true, eq_self, true_or, or_true, true_and, and_true, false_or, or_false, Nat.reduceAdd, Nat.reduceSub, Nat.reduceEqDiff, Nat.reduceLT, Nat.reduceLeDiff, reduceCtorEq, true_implies, List.length_cons, List.length_nil, List.replicate, List.cons_append, List.nil_append, mrt_X5_hourTold, mhh_X5_hourTold, mow_X5_hourTold, mnl_X5_hourTold, DX5_hourTold_0, DX5_hourTold_1, DX5_hourTold_2, DX5_hourTold_3, DX5_hourTold_5, DX5_hourTold_7, DX5_hourTold_10, DX5_hourTold_13, DX5_hourTold_14, DX5_hourTold_15, DX5_hourTold_18, DX5_hourTold_19, DX5_hourTold_20, DX5_hourTold_23, DX5_hourTold_24, DX5_hourTold_27, DX5_hourTold_30, DX5_hourTold_31, DX5_hourTold_32, DX5_hourTold_34, DX5_hourTold_35, DX5_hourTold_36, DX5_hourTold_39, DX5_hourTold_40, DX5_hourTold_43, DX5_hourTold_44, DX5_hourTold_47, DX5_hourTold_48, DX5_hourTold_51, DX5_hourTold_54, DX5_hourTold_55, DX5_hourTold_56, DX5_hourTold_58, DX5_hourTold_59, DX5_hourTold_60, DX5_hourTold_61, DX5_hourTold_64, DX5_hourTold_65, DX5_hourTold_68, DX5_hourTold_69, DX5_hourTold_70, DX5_hourTold_71, DX5_hourTold_74, DX5_hourTold_77, DX5_hourTold_78, DX5_hourTold_80, DX5_hourTold_82, DX5_hourTold_83, DX5_hourTold_86, DX5_hourTold_89, DX5_hourTold_90, DX5_hourTold_91, DX5_hourTold_94, DX5_hourTold_95, DX5_hourTold_96, DX5_hourTold_97, DX5_hourTold_100, DX5_hourTold_101, DX5_hourTold_103, DX5_hourTold_104, DX5_hourTold_107, DX5_hourTold_110, DX5_hourTold_111, DX5_hourTold_113, DX5_hourTold_114, DX5_hourTold_117, DX5_hourTold_120, DX5_hourTold_121, DX5_hourTold_124, DX5_hourTold_125, DX5_hourTold_126, DX5_hourTold_127, DX5_hourTold_130, DX5_hourTold_133, DX5_hourTold_134, ce_X5_getsOf, ↓ct_X5_getsOf, ycl_X5_getsOf, ce_X5_isShort, ↓ct_X5_isShort, ycl_X5_isShort, cX_nil mhh_X5_hourTold]
    simp (disch := omega) only [i32_lit, i32_neg, i32_add, i32_mul, i32_sub, i32_nI, i32_lt, i32_le, i32_eq, inR_i, i32_clamp, i32_div, i32_max, i32_min, ite_max, ite_min, b2i_0, b2i_1, b2i_01, i32_toInt, tn_i, Int.toNat_natCast, em_t, true_and, and_true, Int.reduceToNat, Int.reduceLE, Int.reduceLT, Int.reduceAdd, Int.reduceMul, Int.reduceSub, Int.reduceNeg, Int.reduceEq, true_implies, not_true_eq_false, false_implies, not_false_eq_true, hM, hk, fd, fe, fb, fl, a5, k5, l5, a6, k6, l6, a7, k7, l7, a8, k8, l8, a9, k9, l9, a10, k10, l10, a11, k11, l11, true_and, and_true, Option.some.injEq, exists_eq_left', nmOf_0, nmOf_1, nmOf_2, nmOf_3, nmOf_4, nmOf_5, nmOf_6, Nat.add_sub_cancel, Nat.reduceSub, Nat.reduceLT, Nat.reduceEqDiff, ne_eq, not_false_eq_true, hC]
    refine ⟨fun _ => ?_, fun h2 => by omega⟩
    rw [show i = S.nl by omega]
    exact hq
  | succ k ih =>
    intro i hi
    have hs := ih (i + 1) (by omega)
    unfold hr80 at hs ⊢
    simp only [sumN] at hs
    have hg := gts_b (r := r) hW (show i < S.nl by omega)
    refine wpW (cs := [(126, ce_X5_getsOf A S), (129, ce_X5_isShort A S)]) (stop := [5, 80]) (n := 200) (env_cons (ceV (by decide +kernel) ⟨by decide, by decide, by decide +kernel⟩ (by decide) rfl (ok_X5_getsOf G A S hW)) (env_cons (ceV (by decide +kernel) ⟨by decide, by decide, by decide +kernel⟩ (by decide) rfl (ok_X5_isShort G A S hW)) (env_nil0 (env_hh rfl)))) ?_
    simp only [↓wpN_S, ↓step_u, ↓stC_s, stC_s, ↓stF_u, stF_u, ↓stepI, lenI, ↓kN_u, isS, ↓gI_0, ↓gI_S, ↓gL_0, ↓gL_S, ↓gD_0, ↓gD_S, ↓gR_0, ↓gR_S, ↓sI_c, ↓sL_c, ↓sD_c, ↓sR_c, ↓s1_r, ↓s1_i, ↓vR_r, ↓vR_n, ↓s0_n, s0_n, ↓oR_u, ↓sP_u, ↓sPa_0, ↓sPa_S, ↓lkC_c, ↓callK_u, ↓cQ_s, ↓cQ_n, putL, putW, clr, kil, catS, catN, refF, booF, finF, nF, nmOf_0, nmOf_1, nmOf_2, nmOf_3, nmOf_4, nmOf_5, nmOf_6, nmOf_50, nmOf_51, nmOf_52, ↓reduceIte, reduceIte, Bool.false_eq_true, eq_self, true_or, or_true, true_and, and_true, false_or, or_false, Nat.reduceAdd, Nat.reduceSub, Nat.reduceEqDiff, Nat.reduceLT, Nat.reduceLeDiff, reduceCtorEq, true_implies, List.length_cons, List.length_nil, List.replicate, List.cons_append, List.nil_append, mrt_X5_hourTold, mhh_X5_hourTold, mow_X5_hourTold, mnl_X5_hourTold, DX5_hourTold_0, DX5_hourTold_1, DX5_hourTold_2, DX5_hourTold_3, DX5_hourTold_5, DX5_hourTold_7, DX5_hourTold_10, DX5_hourTold_13, DX5_hourTold_14, DX5_hourTold_15, DX5_hourTold_18, DX5_hourTold_19, DX5_hourTold_20, DX5_hourTold_23, DX5_hourTold_24, DX5_hourTold_27, DX5_hourTold_30, DX5_hourTold_31, DX5_hourTold_32, DX5_hourTold_34, DX5_hourTold_35, DX5_hourTold_36, DX5_hourTold_39, DX5_hourTold_40, DX5_hourTold_43, DX5_hourTold_44, DX5_hourTold_47, DX5_hourTold_48, DX5_hourTold_51, DX5_hourTold_54, DX5_hourTold_55, DX5_hourTold_56, DX5_hourTold_58, DX5_hourTold_59, DX5_hourTold_60, DX5_hourTold_61, DX5_hourTold_64, DX5_hourTold_65, DX5_hourTold_68, DX5_hourTold_69, DX5_hourTold_70, DX5_hourTold_71, DX5_hourTold_74, DX5_hourTold_77, DX5_hourTold_78, DX5_hourTold_80, DX5_hourTold_82, DX5_hourTold_83, DX5_hourTold_86, DX5_hourTold_89, DX5_hourTold_90, DX5_hourTold_91, DX5_hourTold_94, DX5_hourTold_95, DX5_hourTold_96, DX5_hourTold_97, DX5_hourTold_100, DX5_hourTold_101, DX5_hourTold_103, DX5_hourTold_104, DX5_hourTold_107, DX5_hourTold_110, DX5_hourTold_111, DX5_hourTold_113, DX5_hourTold_114, DX5_hourTold_117, DX5_hourTold_120, DX5_hourTold_121, DX5_hourTold_124, DX5_hourTold_125, DX5_hourTold_126, DX5_hourTold_127, DX5_hourTold_130, DX5_hourTold_133, DX5_hourTold_134, ce_X5_getsOf, ↓ct_X5_getsOf, ycl_X5_getsOf, ce_X5_isShort, ↓ct_X5_isShort, ycl_X5_isShort, cX_nil mhh_X5_hourTold]
    simp (disch := omega) only [i32_lit, i32_neg, i32_add, i32_mul, i32_sub, i32_nI, i32_lt, i32_le, i32_eq, inR_i, i32_clamp, i32_div, i32_max, i32_min, ite_max, ite_min, b2i_0, b2i_1, b2i_01, i32_toInt, tn_i, Int.toNat_natCast, em_t, true_and, and_true, Int.reduceToNat, Int.reduceLE, Int.reduceLT, Int.reduceAdd, Int.reduceMul, Int.reduceSub, Int.reduceNeg, Int.reduceEq, true_implies, not_true_eq_false, false_implies, not_false_eq_true, hM, hk, fd, fe, fb, fl, a5, k5, l5, a6, k6, l6, a7, k7, l7, a8, k8, l8, a9, k9, l9, a10, k10, l10, a11, k11, l11, true_and, and_true, Option.some.injEq, exists_eq_left', nmOf_0, nmOf_1, nmOf_2, nmOf_3, nmOf_4, nmOf_5, nmOf_6, Nat.add_sub_cancel, Nat.reduceSub, Nat.reduceLT, Nat.reduceEqDiff, ne_eq, not_false_eq_true, hC]
    refine ⟨fun h2 => by omega, fun h2 => ⟨fun h3 => by omega, fun h3 => ⟨fun h4 => ?_, fun h4 => ?_⟩⟩⟩
    · repeat (refine ⟨by omega, ?_⟩)
      rw [if_neg (show ¬ w = 2 by omega)] at hs
      refine ⟨fun h5 => ?_, fun h5 => ?_⟩
      · rw [if_neg h5] at hs; exact hs
      · rw [if_pos (Classical.not_not.mp h5)] at hs; exact hs
    · repeat (refine ⟨by omega, ?_⟩)
      rw [if_pos (show w = 2 by omega)] at hs
      exact hs
set_option maxRecDepth 100000 in
set_option maxHeartbeats 4000000 in
theorem lp_X5_hourTold5 (G : GT) {A : Nat → Nat} {S : SS} (hW : WF S) {h : Hp} {m r w : Nat} {Q : Option Value → Hp → Prop} {QX : String → Hp → Prop} (hr : r < 12) (hw : w < 2) (hM : MD h m A S) (hC : MC h A S) (hq : Q (some (.int (i32 (hr5 S r w 256)))) h) :
    ∀ k i : Nat, i + k = 256 → Wp G MX5_hourTold false 6 Q QX 5 [some (.ref m), some (.int (i32 r)), some (.int (i32 w)), some (.int (i32 (hr5 S r w i))), some (.int (i32 i))] [] h (0, 0) := by
  have hnb := hW.1
  have hnl := hW.2.1
  have hM0 := hM
  obtain ⟨⟨hk, hA, hJ⟩, fd, fe, fb, fl, hB, hL, hN, hG, hP⟩ := hM0
  obtain ⟨a5, k5, l5⟩ := hA 5 (by omega) (by omega)
  obtain ⟨a6, k6, l6⟩ := hA 6 (by omega) (by omega)
  obtain ⟨a7, k7, l7⟩ := hA 7 (by omega) (by omega)
  obtain ⟨a8, k8, l8⟩ := hA 8 (by omega) (by omega)
  obtain ⟨a9, k9, l9⟩ := hA 9 (by omega) (by omega)
  obtain ⟨a10, k10, l10⟩ := hA 10 (by omega) (by omega)
  obtain ⟨a11, k11, l11⟩ := hA 11 (by omega) (by omega)
  simp only [mLen] at l5 l6 l7 l8 l9 l10 l11
  intro k
  induction k with
  | zero =>
    intro i hi
    have e : i = 256 := by omega
    subst e
    refine wpW (cs := [(126, ce_X5_getsOf A S), (129, ce_X5_isShort A S)]) (stop := [5, 80]) (n := 200) (env_cons (ceV (by decide +kernel) ⟨by decide, by decide, by decide +kernel⟩ (by decide) rfl (ok_X5_getsOf G A S hW)) (env_cons (ceV (by decide +kernel) ⟨by decide, by decide, by decide +kernel⟩ (by decide) rfl (ok_X5_isShort G A S hW)) (env_nil0 (env_hh rfl)))) ?_
    simp only [↓wpN_S, ↓step_u, ↓stC_s, stC_s, ↓stF_u, stF_u, ↓stepI, lenI, ↓kN_u, isS, ↓gI_0, ↓gI_S, ↓gL_0, ↓gL_S, ↓gD_0, ↓gD_S, ↓gR_0, ↓gR_S, ↓sI_c, ↓sL_c, ↓sD_c, ↓sR_c, ↓s1_r, ↓s1_i, ↓vR_r, ↓vR_n, ↓s0_n, s0_n, ↓oR_u, ↓sP_u, ↓sPa_0, ↓sPa_S, ↓lkC_c, ↓callK_u, ↓cQ_s, ↓cQ_n, putL, putW, clr, kil, catS, catN, refF, booF, finF, nF, nmOf_0, nmOf_1, nmOf_2, nmOf_3, nmOf_4, nmOf_5, nmOf_6, nmOf_50, nmOf_51, nmOf_52, ↓reduceIte, reduceIte, Bool.false_eq_true, eq_self, true_or, or_true, true_and, and_true, false_or, or_false, Nat.reduceAdd, Nat.reduceSub, Nat.reduceEqDiff, Nat.reduceLT, Nat.reduceLeDiff, reduceCtorEq, true_implies, List.length_cons, List.length_nil, List.replicate, List.cons_append, List.nil_append, mrt_X5_hourTold, mhh_X5_hourTold, mow_X5_hourTold, mnl_X5_hourTold, DX5_hourTold_0, DX5_hourTold_1, DX5_hourTold_2, DX5_hourTold_3, DX5_hourTold_5, DX5_hourTold_7, DX5_hourTold_10, DX5_hourTold_13, DX5_hourTold_14, DX5_hourTold_15, DX5_hourTold_18, DX5_hourTold_19, DX5_hourTold_20, DX5_hourTold_23, DX5_hourTold_24, DX5_hourTold_27, DX5_hourTold_30, DX5_hourTold_31, DX5_hourTold_32, DX5_hourTold_34, DX5_hourTold_35, DX5_hourTold_36, DX5_hourTold_39, DX5_hourTold_40, DX5_hourTold_43, DX5_hourTold_44, DX5_hourTold_47, DX5_hourTold_48, DX5_hourTold_51, DX5_hourTold_54, DX5_hourTold_55, DX5_hourTold_56, DX5_hourTold_58, DX5_hourTold_59, DX5_hourTold_60, DX5_hourTold_61, DX5_hourTold_64, DX5_hourTold_65, DX5_hourTold_68, DX5_hourTold_69, DX5_hourTold_70, DX5_hourTold_71, DX5_hourTold_74, DX5_hourTold_77, DX5_hourTold_78, DX5_hourTold_80, DX5_hourTold_82, DX5_hourTold_83, DX5_hourTold_86, DX5_hourTold_89, DX5_hourTold_90, DX5_hourTold_91, DX5_hourTold_94, DX5_hourTold_95, DX5_hourTold_96, DX5_hourTold_97, DX5_hourTold_100, DX5_hourTold_101, DX5_hourTold_103, DX5_hourTold_104, DX5_hourTold_107, DX5_hourTold_110, DX5_hourTold_111, DX5_hourTold_113, DX5_hourTold_114, DX5_hourTold_117, DX5_hourTold_120, DX5_hourTold_121, DX5_hourTold_124, DX5_hourTold_125, DX5_hourTold_126, DX5_hourTold_127, DX5_hourTold_130, DX5_hourTold_133, DX5_hourTold_134, ce_X5_getsOf, ↓ct_X5_getsOf, ycl_X5_getsOf, ce_X5_isShort, ↓ct_X5_isShort, ycl_X5_isShort, cX_nil mhh_X5_hourTold]
    simp (disch := omega) only [i32_lit, i32_neg, i32_add, i32_mul, i32_sub, i32_nI, i32_lt, i32_le, i32_eq, inR_i, i32_clamp, i32_div, i32_max, i32_min, ite_max, ite_min, b2i_0, b2i_1, b2i_01, i32_toInt, tn_i, Int.toNat_natCast, em_t, true_and, and_true, Int.reduceToNat, Int.reduceLE, Int.reduceLT, Int.reduceAdd, Int.reduceMul, Int.reduceSub, Int.reduceNeg, Int.reduceEq, true_implies, not_true_eq_false, false_implies, not_false_eq_true, hM, hk, fd, fe, fb, fl, a5, k5, l5, a6, k6, l6, a7, k7, l7, a8, k8, l8, a9, k9, l9, a10, k10, l10, a11, k11, l11, true_and, and_true, Option.some.injEq, exists_eq_left', nmOf_0, nmOf_1, nmOf_2, nmOf_3, nmOf_4, nmOf_5, nmOf_6, Nat.add_sub_cancel, Nat.reduceSub, Nat.reduceLT, Nat.reduceEqDiff, ne_eq, not_false_eq_true, hC]
    refine ⟨fun _ => ?_, fun h2 => by omega⟩
    refine wpW (cs := [(126, ce_X5_getsOf A S), (129, ce_X5_isShort A S)]) (stop := [5, 80]) (n := 200) (env_cons (ceV (by decide +kernel) ⟨by decide, by decide, by decide +kernel⟩ (by decide) rfl (ok_X5_getsOf G A S hW)) (env_cons (ceV (by decide +kernel) ⟨by decide, by decide, by decide +kernel⟩ (by decide) rfl (ok_X5_isShort G A S hW)) (env_nil0 (env_hh rfl)))) ?_
    simp only [↓wpN_S, ↓step_u, ↓stC_s, stC_s, ↓stF_u, stF_u, ↓stepI, lenI, ↓kN_u, isS, ↓gI_0, ↓gI_S, ↓gL_0, ↓gL_S, ↓gD_0, ↓gD_S, ↓gR_0, ↓gR_S, ↓sI_c, ↓sL_c, ↓sD_c, ↓sR_c, ↓s1_r, ↓s1_i, ↓vR_r, ↓vR_n, ↓s0_n, s0_n, ↓oR_u, ↓sP_u, ↓sPa_0, ↓sPa_S, ↓lkC_c, ↓callK_u, ↓cQ_s, ↓cQ_n, putL, putW, clr, kil, catS, catN, refF, booF, finF, nF, nmOf_0, nmOf_1, nmOf_2, nmOf_3, nmOf_4, nmOf_5, nmOf_6, nmOf_50, nmOf_51, nmOf_52, ↓reduceIte, reduceIte, Bool.false_eq_true, eq_self, true_or, or_true, true_and, and_true, false_or, or_false, Nat.reduceAdd, Nat.reduceSub, Nat.reduceEqDiff, Nat.reduceLT, Nat.reduceLeDiff, reduceCtorEq, true_implies, List.length_cons, List.length_nil, List.replicate, List.cons_append, List.nil_append, mrt_X5_hourTold, mhh_X5_hourTold, mow_X5_hourTold, mnl_X5_hourTold, DX5_hourTold_0, DX5_hourTold_1, DX5_hourTold_2, DX5_hourTold_3, DX5_hourTold_5, DX5_hourTold_7, DX5_hourTold_10, DX5_hourTold_13, DX5_hourTold_14, DX5_hourTold_15, DX5_hourTold_18, DX5_hourTold_19, DX5_hourTold_20, DX5_hourTold_23, DX5_hourTold_24, DX5_hourTold_27, DX5_hourTold_30, DX5_hourTold_31, DX5_hourTold_32, DX5_hourTold_34, DX5_hourTold_35, DX5_hourTold_36, DX5_hourTold_39, DX5_hourTold_40, DX5_hourTold_43, DX5_hourTold_44, DX5_hourTold_47, DX5_hourTold_48, DX5_hourTold_51, DX5_hourTold_54, DX5_hourTold_55, DX5_hourTold_56, DX5_hourTold_58, DX5_hourTold_59, DX5_hourTold_60, DX5_hourTold_61, DX5_hourTold_64, DX5_hourTold_65, DX5_hourTold_68, DX5_hourTold_69, DX5_hourTold_70, DX5_hourTold_71, DX5_hourTold_74, DX5_hourTold_77, DX5_hourTold_78, DX5_hourTold_80, DX5_hourTold_82, DX5_hourTold_83, DX5_hourTold_86, DX5_hourTold_89, DX5_hourTold_90, DX5_hourTold_91, DX5_hourTold_94, DX5_hourTold_95, DX5_hourTold_96, DX5_hourTold_97, DX5_hourTold_100, DX5_hourTold_101, DX5_hourTold_103, DX5_hourTold_104, DX5_hourTold_107, DX5_hourTold_110, DX5_hourTold_111, DX5_hourTold_113, DX5_hourTold_114, DX5_hourTold_117, DX5_hourTold_120, DX5_hourTold_121, DX5_hourTold_124, DX5_hourTold_125, DX5_hourTold_126, DX5_hourTold_127, DX5_hourTold_130, DX5_hourTold_133, DX5_hourTold_134, ce_X5_getsOf, ↓ct_X5_getsOf, ycl_X5_getsOf, ce_X5_isShort, ↓ct_X5_isShort, ycl_X5_isShort, cX_nil mhh_X5_hourTold]
    simp (disch := omega) only [i32_lit, i32_neg, i32_add, i32_mul, i32_sub, i32_nI, i32_lt, i32_le, i32_eq, inR_i, i32_clamp, i32_div, i32_max, i32_min, ite_max, ite_min, b2i_0, b2i_1, b2i_01, i32_toInt, tn_i, Int.toNat_natCast, em_t, true_and, and_true, Int.reduceToNat, Int.reduceLE, Int.reduceLT, Int.reduceAdd, Int.reduceMul, Int.reduceSub, Int.reduceNeg, Int.reduceEq, true_implies, not_true_eq_false, false_implies, not_false_eq_true, hM, hk, fd, fe, fb, fl, a5, k5, l5, a6, k6, l6, a7, k7, l7, a8, k8, l8, a9, k9, l9, a10, k10, l10, a11, k11, l11, true_and, and_true, Option.some.injEq, exists_eq_left', nmOf_0, nmOf_1, nmOf_2, nmOf_3, nmOf_4, nmOf_5, nmOf_6, Nat.add_sub_cancel, Nat.reduceSub, Nat.reduceLT, Nat.reduceEqDiff, ne_eq, not_false_eq_true, hC]
    refine ⟨fun _ => hq, fun _ => ⟨fun _ => hq, fun h3 => by omega⟩⟩
  | succ k ih =>
    intro i hi
    have hs := ih (i + 1) (by omega)
    unfold hr5 at hs ⊢
    simp only [sumN] at hs
    have hb := bel_b S r i
    have hd := shd_b S r i
    refine wpW (cs := [(126, ce_X5_getsOf A S), (129, ce_X5_isShort A S)]) (stop := [5, 80]) (n := 200) (env_cons (ceV (by decide +kernel) ⟨by decide, by decide, by decide +kernel⟩ (by decide) rfl (ok_X5_getsOf G A S hW)) (env_cons (ceV (by decide +kernel) ⟨by decide, by decide, by decide +kernel⟩ (by decide) rfl (ok_X5_isShort G A S hW)) (env_nil0 (env_hh rfl)))) ?_
    simp only [↓wpN_S, ↓step_u, ↓stC_s, stC_s, ↓stF_u, stF_u, ↓stepI, lenI, ↓kN_u, isS, ↓gI_0, ↓gI_S, ↓gL_0, ↓gL_S, ↓gD_0, ↓gD_S, ↓gR_0, ↓gR_S, ↓sI_c, ↓sL_c, ↓sD_c, ↓sR_c, ↓s1_r, ↓s1_i, ↓vR_r, ↓vR_n, ↓s0_n, s0_n, ↓oR_u, ↓sP_u, ↓sPa_0, ↓sPa_S, ↓lkC_c, ↓callK_u, ↓cQ_s, ↓cQ_n, putL, putW, clr, kil, catS, catN, refF, booF, finF, nF, nmOf_0, nmOf_1, nmOf_2, nmOf_3, nmOf_4, nmOf_5, nmOf_6, nmOf_50, nmOf_51, nmOf_52, ↓reduceIte, reduceIte, Bool.false_eq_true, eq_self, true_or, or_true, true_and, and_true, false_or, or_false, Nat.reduceAdd, Nat.reduceSub, Nat.reduceEqDiff, Nat.reduceLT, Nat.reduceLeDiff, reduceCtorEq, true_implies, List.length_cons, List.length_nil, List.replicate, List.cons_append, List.nil_append, mrt_X5_hourTold, mhh_X5_hourTold, mow_X5_hourTold, mnl_X5_hourTold, DX5_hourTold_0, DX5_hourTold_1, DX5_hourTold_2, DX5_hourTold_3, DX5_hourTold_5, DX5_hourTold_7, DX5_hourTold_10, DX5_hourTold_13, DX5_hourTold_14, DX5_hourTold_15, DX5_hourTold_18, DX5_hourTold_19, DX5_hourTold_20, DX5_hourTold_23, DX5_hourTold_24, DX5_hourTold_27, DX5_hourTold_30, DX5_hourTold_31, DX5_hourTold_32, DX5_hourTold_34, DX5_hourTold_35, DX5_hourTold_36, DX5_hourTold_39, DX5_hourTold_40, DX5_hourTold_43, DX5_hourTold_44, DX5_hourTold_47, DX5_hourTold_48, DX5_hourTold_51, DX5_hourTold_54, DX5_hourTold_55, DX5_hourTold_56, DX5_hourTold_58, DX5_hourTold_59, DX5_hourTold_60, DX5_hourTold_61, DX5_hourTold_64, DX5_hourTold_65, DX5_hourTold_68, DX5_hourTold_69, DX5_hourTold_70, DX5_hourTold_71, DX5_hourTold_74, DX5_hourTold_77, DX5_hourTold_78, DX5_hourTold_80, DX5_hourTold_82, DX5_hourTold_83, DX5_hourTold_86, DX5_hourTold_89, DX5_hourTold_90, DX5_hourTold_91, DX5_hourTold_94, DX5_hourTold_95, DX5_hourTold_96, DX5_hourTold_97, DX5_hourTold_100, DX5_hourTold_101, DX5_hourTold_103, DX5_hourTold_104, DX5_hourTold_107, DX5_hourTold_110, DX5_hourTold_111, DX5_hourTold_113, DX5_hourTold_114, DX5_hourTold_117, DX5_hourTold_120, DX5_hourTold_121, DX5_hourTold_124, DX5_hourTold_125, DX5_hourTold_126, DX5_hourTold_127, DX5_hourTold_130, DX5_hourTold_133, DX5_hourTold_134, ce_X5_getsOf, ↓ct_X5_getsOf, ycl_X5_getsOf, ce_X5_isShort, ↓ct_X5_isShort, ycl_X5_isShort, cX_nil mhh_X5_hourTold]
    simp (disch := omega) only [i32_lit, i32_neg, i32_add, i32_mul, i32_sub, i32_nI, i32_lt, i32_le, i32_eq, inR_i, i32_clamp, i32_div, i32_max, i32_min, ite_max, ite_min, b2i_0, b2i_1, b2i_01, i32_toInt, tn_i, Int.toNat_natCast, em_t, true_and, and_true, Int.reduceToNat, Int.reduceLE, Int.reduceLT, Int.reduceAdd, Int.reduceMul, Int.reduceSub, Int.reduceNeg, Int.reduceEq, true_implies, not_true_eq_false, false_implies, not_false_eq_true, hM, hk, fd, fe, fb, fl, a5, k5, l5, a6, k6, l6, a7, k7, l7, a8, k8, l8, a9, k9, l9, a10, k10, l10, a11, k11, l11, true_and, and_true, Option.some.injEq, exists_eq_left', nmOf_0, nmOf_1, nmOf_2, nmOf_3, nmOf_4, nmOf_5, nmOf_6, Nat.add_sub_cancel, Nat.reduceSub, Nat.reduceLT, Nat.reduceEqDiff, ne_eq, not_false_eq_true, hC]
    refine ⟨fun h2 => by omega, fun h2 => ⟨fun h3 => by omega, fun h3 => ⟨fun h4 => ?_, fun h4 => ?_⟩⟩⟩
    · repeat (refine ⟨by omega, ?_⟩)
      rw [if_neg (show ¬ w = 0 by omega)] at hs
      rw [show (256 * (r : Int) + i).toNat = 256 * r + i by omega, (hC r i hr (by omega)).2]
      simp (disch := omega) only [i32_lit, i32_neg, i32_add, i32_mul, i32_sub, i32_nI, i32_lt, i32_le, i32_eq, inR_i, i32_clamp, i32_div, i32_max, i32_min, ite_max, ite_min, b2i_0, b2i_1, b2i_01, i32_toInt, tn_i, Int.toNat_natCast, em_t, true_and, and_true, Int.reduceToNat, Int.reduceLE, Int.reduceLT, Int.reduceAdd, Int.reduceMul, Int.reduceSub, Int.reduceNeg, Int.reduceEq, true_implies, not_true_eq_false, false_implies, not_false_eq_true]
      refine ⟨fun h5 => ?_, fun h5 => ?_⟩
      · rw [if_neg (by omega)] at hs; exact hs
      · rw [if_pos (by omega)] at hs; exact hs
    · repeat (refine ⟨by omega, ?_⟩)
      rw [if_pos (show w = 0 by omega)] at hs
      rw [show (256 * (r : Int) + i).toNat = 256 * r + i by omega, (hC r i hr (by omega)).1]
      simp (disch := omega) only [i32_lit, i32_neg, i32_add, i32_mul, i32_sub, i32_nI, i32_lt, i32_le, i32_eq, inR_i, i32_clamp, i32_div, i32_max, i32_min, ite_max, ite_min, b2i_0, b2i_1, b2i_01, i32_toInt, tn_i, Int.toNat_natCast, em_t, true_and, and_true, Int.reduceToNat, Int.reduceLE, Int.reduceLT, Int.reduceAdd, Int.reduceMul, Int.reduceSub, Int.reduceNeg, Int.reduceEq, true_implies, not_true_eq_false, false_implies, not_false_eq_true]
      refine ⟨fun h5 => ?_, fun h5 => ?_⟩
      · rw [if_neg (by omega)] at hs; exact hs
      · rw [if_pos (by omega)] at hs; exact hs
set_option maxRecDepth 100000 in
set_option maxHeartbeats 4000000 in
theorem ok_X5_hourTold (G : GT) (A : Nat → Nat) (S : SS) (hW : WF S) : OKm G yX5_hourTold MX5_hourTold 6 0 0 (ct_X5_hourTold A S) := by
  refine mkOK (ini := false) (by decide) rfl (by first | exact fun _ => rfl | (intro hh; cases hh)) (fun As h Q QX hc => ?_)
  replace hc := sR_e hc; obtain ⟨m, r, rfl, hc⟩ := hc
  replace hc := sI_e hc; obtain ⟨hr, r, rfl, hc⟩ := hc
  replace hc := sI_e hc; obtain ⟨w, r, rfl, hc⟩ := hc
  replace hc := s0_e hc; obtain ⟨rfl, hc⟩ := hc
  obtain ⟨hM, hC, hh, hw, hq⟩ := hc
  obtain ⟨rv, hrv, rfl⟩ := i32_all hr
  obtain ⟨wv, hwv, rfl⟩ := i32_all w
  rw [i32_toInt hrv] at hh
  rw [i32_toInt hwv] at hw
  obtain ⟨rn, rfl⟩ := Int.eq_ofNat_of_zero_le hh.1
  obtain ⟨wn, rfl⟩ := Int.eq_ofNat_of_zero_le hw.1
  simp only [tn_i hrv, tn_i hwv, Int.toNat_natCast] at hq
  have hnl := hW.2.1
  have hM0 := hM
  obtain ⟨⟨hk, hA, hJ⟩, fd, fe, fb, fl, hB, hL, hN, hG, hP⟩ := hM0
  obtain ⟨a5, k5, l5⟩ := hA 5 (by omega) (by omega)
  obtain ⟨a6, k6, l6⟩ := hA 6 (by omega) (by omega)
  obtain ⟨a7, k7, l7⟩ := hA 7 (by omega) (by omega)
  obtain ⟨a8, k8, l8⟩ := hA 8 (by omega) (by omega)
  obtain ⟨a9, k9, l9⟩ := hA 9 (by omega) (by omega)
  obtain ⟨a10, k10, l10⟩ := hA 10 (by omega) (by omega)
  obtain ⟨a11, k11, l11⟩ := hA 11 (by omega) (by omega)
  simp only [mLen] at l5 l6 l7 l8 l9 l10 l11
  refine ⟨Nat.le_of_ble_eq_true rfl, ?_⟩
  simp only [ent, entL, catN, List.length_cons, List.length_nil, List.replicate, List.cons_append, List.nil_append, reduceIte, Nat.reduceEqDiff,  Nat.reduceAdd, Nat.reduceSub, mnl_X5_hourTold]
  refine wpW (cs := [(126, ce_X5_getsOf A S), (129, ce_X5_isShort A S)]) (stop := [5, 80]) (n := 200) (env_cons (ceV (by decide +kernel) ⟨by decide, by decide, by decide +kernel⟩ (by decide) rfl (ok_X5_getsOf G A S hW)) (env_cons (ceV (by decide +kernel) ⟨by decide, by decide, by decide +kernel⟩ (by decide) rfl (ok_X5_isShort G A S hW)) (env_nil0 (env_hh rfl)))) ?_
  simp only [↓wpN_S, ↓step_u, ↓stC_s, stC_s, ↓stF_u, stF_u, ↓stepI, lenI, ↓kN_u, isS, ↓gI_0, ↓gI_S, ↓gL_0, ↓gL_S, ↓gD_0, ↓gD_S, ↓gR_0, ↓gR_S, ↓sI_c, ↓sL_c, ↓sD_c, ↓sR_c, ↓s1_r, ↓s1_i, ↓vR_r, ↓vR_n, ↓s0_n, s0_n, ↓oR_u, ↓sP_u, ↓sPa_0, ↓sPa_S, ↓lkC_c, ↓callK_u, ↓cQ_s, ↓cQ_n, putL, putW, clr, kil, catS, catN, refF, booF, finF, nF, nmOf_0, nmOf_1, nmOf_2, nmOf_3, nmOf_4, nmOf_5, nmOf_6, nmOf_50, nmOf_51, nmOf_52, ↓reduceIte, reduceIte, Bool.false_eq_true, eq_self, true_or, or_true, true_and, and_true, false_or, or_false, Nat.reduceAdd, Nat.reduceSub, Nat.reduceEqDiff, Nat.reduceLT, Nat.reduceLeDiff, reduceCtorEq, true_implies, List.length_cons, List.length_nil, List.replicate, List.cons_append, List.nil_append, mrt_X5_hourTold, mhh_X5_hourTold, mow_X5_hourTold, mnl_X5_hourTold, DX5_hourTold_0, DX5_hourTold_1, DX5_hourTold_2, DX5_hourTold_3, DX5_hourTold_5, DX5_hourTold_7, DX5_hourTold_10, DX5_hourTold_13, DX5_hourTold_14, DX5_hourTold_15, DX5_hourTold_18, DX5_hourTold_19, DX5_hourTold_20, DX5_hourTold_23, DX5_hourTold_24, DX5_hourTold_27, DX5_hourTold_30, DX5_hourTold_31, DX5_hourTold_32, DX5_hourTold_34, DX5_hourTold_35, DX5_hourTold_36, DX5_hourTold_39, DX5_hourTold_40, DX5_hourTold_43, DX5_hourTold_44, DX5_hourTold_47, DX5_hourTold_48, DX5_hourTold_51, DX5_hourTold_54, DX5_hourTold_55, DX5_hourTold_56, DX5_hourTold_58, DX5_hourTold_59, DX5_hourTold_60, DX5_hourTold_61, DX5_hourTold_64, DX5_hourTold_65, DX5_hourTold_68, DX5_hourTold_69, DX5_hourTold_70, DX5_hourTold_71, DX5_hourTold_74, DX5_hourTold_77, DX5_hourTold_78, DX5_hourTold_80, DX5_hourTold_82, DX5_hourTold_83, DX5_hourTold_86, DX5_hourTold_89, DX5_hourTold_90, DX5_hourTold_91, DX5_hourTold_94, DX5_hourTold_95, DX5_hourTold_96, DX5_hourTold_97, DX5_hourTold_100, DX5_hourTold_101, DX5_hourTold_103, DX5_hourTold_104, DX5_hourTold_107, DX5_hourTold_110, DX5_hourTold_111, DX5_hourTold_113, DX5_hourTold_114, DX5_hourTold_117, DX5_hourTold_120, DX5_hourTold_121, DX5_hourTold_124, DX5_hourTold_125, DX5_hourTold_126, DX5_hourTold_127, DX5_hourTold_130, DX5_hourTold_133, DX5_hourTold_134, ce_X5_getsOf, ↓ct_X5_getsOf, ycl_X5_getsOf, ce_X5_isShort, ↓ct_X5_isShort, ycl_X5_isShort, cX_nil mhh_X5_hourTold]
  by_cases h2 : wn < 2
  · refine lp_X5_hourTold5 G hW (by omega) h2 hM hC ?_ 256 0 (by omega)
    rcases (show wn = 0 ∨ wn = 1 by omega) with rfl | rfl <;> exact hq
  · refine wpW (cs := [(126, ce_X5_getsOf A S), (129, ce_X5_isShort A S)]) (stop := [5, 80]) (n := 200) (env_cons (ceV (by decide +kernel) ⟨by decide, by decide, by decide +kernel⟩ (by decide) rfl (ok_X5_getsOf G A S hW)) (env_cons (ceV (by decide +kernel) ⟨by decide, by decide, by decide +kernel⟩ (by decide) rfl (ok_X5_isShort G A S hW)) (env_nil0 (env_hh rfl)))) ?_
    simp only [↓wpN_S, ↓step_u, ↓stC_s, stC_s, ↓stF_u, stF_u, ↓stepI, lenI, ↓kN_u, isS, ↓gI_0, ↓gI_S, ↓gL_0, ↓gL_S, ↓gD_0, ↓gD_S, ↓gR_0, ↓gR_S, ↓sI_c, ↓sL_c, ↓sD_c, ↓sR_c, ↓s1_r, ↓s1_i, ↓vR_r, ↓vR_n, ↓s0_n, s0_n, ↓oR_u, ↓sP_u, ↓sPa_0, ↓sPa_S, ↓lkC_c, ↓callK_u, ↓cQ_s, ↓cQ_n, putL, putW, clr, kil, catS, catN, refF, booF, finF, nF, nmOf_0, nmOf_1, nmOf_2, nmOf_3, nmOf_4, nmOf_5, nmOf_6, nmOf_50, nmOf_51, nmOf_52, ↓reduceIte, reduceIte, Bool.false_eq_true, eq_self, true_or, or_true, true_and, and_true, false_or, or_false, Nat.reduceAdd, Nat.reduceSub, Nat.reduceEqDiff, Nat.reduceLT, Nat.reduceLeDiff, reduceCtorEq, true_implies, List.length_cons, List.length_nil, List.replicate, List.cons_append, List.nil_append, mrt_X5_hourTold, mhh_X5_hourTold, mow_X5_hourTold, mnl_X5_hourTold, DX5_hourTold_0, DX5_hourTold_1, DX5_hourTold_2, DX5_hourTold_3, DX5_hourTold_5, DX5_hourTold_7, DX5_hourTold_10, DX5_hourTold_13, DX5_hourTold_14, DX5_hourTold_15, DX5_hourTold_18, DX5_hourTold_19, DX5_hourTold_20, DX5_hourTold_23, DX5_hourTold_24, DX5_hourTold_27, DX5_hourTold_30, DX5_hourTold_31, DX5_hourTold_32, DX5_hourTold_34, DX5_hourTold_35, DX5_hourTold_36, DX5_hourTold_39, DX5_hourTold_40, DX5_hourTold_43, DX5_hourTold_44, DX5_hourTold_47, DX5_hourTold_48, DX5_hourTold_51, DX5_hourTold_54, DX5_hourTold_55, DX5_hourTold_56, DX5_hourTold_58, DX5_hourTold_59, DX5_hourTold_60, DX5_hourTold_61, DX5_hourTold_64, DX5_hourTold_65, DX5_hourTold_68, DX5_hourTold_69, DX5_hourTold_70, DX5_hourTold_71, DX5_hourTold_74, DX5_hourTold_77, DX5_hourTold_78, DX5_hourTold_80, DX5_hourTold_82, DX5_hourTold_83, DX5_hourTold_86, DX5_hourTold_89, DX5_hourTold_90, DX5_hourTold_91, DX5_hourTold_94, DX5_hourTold_95, DX5_hourTold_96, DX5_hourTold_97, DX5_hourTold_100, DX5_hourTold_101, DX5_hourTold_103, DX5_hourTold_104, DX5_hourTold_107, DX5_hourTold_110, DX5_hourTold_111, DX5_hourTold_113, DX5_hourTold_114, DX5_hourTold_117, DX5_hourTold_120, DX5_hourTold_121, DX5_hourTold_124, DX5_hourTold_125, DX5_hourTold_126, DX5_hourTold_127, DX5_hourTold_130, DX5_hourTold_133, DX5_hourTold_134, ce_X5_getsOf, ↓ct_X5_getsOf, ycl_X5_getsOf, ce_X5_isShort, ↓ct_X5_isShort, ycl_X5_isShort, cX_nil mhh_X5_hourTold]
    simp (disch := omega) only [i32_lit, i32_neg, i32_add, i32_mul, i32_sub, i32_nI, i32_lt, i32_le, i32_eq, inR_i, i32_clamp, i32_div, i32_max, i32_min, ite_max, ite_min, b2i_0, b2i_1, b2i_01, i32_toInt, tn_i, Int.toNat_natCast, em_t, true_and, and_true, Int.reduceToNat, Int.reduceLE, Int.reduceLT, Int.reduceAdd, Int.reduceMul, Int.reduceSub, Int.reduceNeg, Int.reduceEq, true_implies, not_true_eq_false, false_implies, not_false_eq_true, hM, hk, fd, fe, fb, fl, a5, k5, l5, a6, k6, l6, a7, k7, l7, a8, k8, l8, a9, k9, l9, a10, k10, l10, a11, k11, l11, true_and, and_true, Option.some.injEq, exists_eq_left', nmOf_0, nmOf_1, nmOf_2, nmOf_3, nmOf_4, nmOf_5, nmOf_6, Nat.add_sub_cancel, Nat.reduceSub, Nat.reduceLT, Nat.reduceEqDiff, ne_eq, not_false_eq_true, hC]
    refine ⟨fun _ => ?_, fun h3 => by omega⟩
    refine lp_X5_hourTold80 G hW (by omega) ⟨by omega, by omega⟩ hM hC ?_ S.nl 0 (by omega)
    rcases (show wn = 2 ∨ wn = 3 by omega) with rfl | rfl <;> exact hq
