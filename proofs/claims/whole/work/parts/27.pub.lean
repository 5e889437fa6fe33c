/-! ===== the reference: its public reads ===== -/
/-- no exception, exception v -/
def t0 (h : Hp) (m : Nat) : Hp := setI h 6 0 m 0
def tX (h : Hp) (m : Nat) (v : Int) : Hp := setI (t0 h m) 6 0 m (i32 v)
theorem MD_s0 {h : Hp} {m : Nat} {A : Nat → Nat} {S : SS} {v : Int32} (hM : MD h m A S) : MD (setI h 6 0 m v) m A S := by
  simpa [MD, MA, kd_setI, fi_setI, fr_setI, ln_setI, ia_setI, ja_setI, ra_setI, kd_setR, fi_setR, fr_setR, ln_setR, ia_setR, ja_setR, ra_setR, kd_setIA, fi_setIA, fr_setIA, ln_setIA, ia_setIA, ja_setIA, ra_setIA, kd_setLA, fi_setLA, fr_setLA, ln_setLA, ia_setLA, ja_setLA, ra_setLA, kd_setRA, fi_setRA, fr_setRA, ln_setRA, ia_setRA, ja_setRA, ra_setRA, kd_cpRA, fi_cpRA, fr_cpRA, ln_cpRA, ia_cpRA, ja_cpRA, ra_cpRA, kd_cpIA, fi_cpIA, fr_cpIA, ln_cpIA, ia_cpIA, ja_cpIA, ra_cpIA, kd_newO, fi_newO, fr_newO, ln_newO, ia_newO, ja_newO, ra_newO, kd_newA, fi_newA, fr_newA, ln_newA, ia_newA, ja_newA, ra_newA] using hM
theorem MC_s0 {h : Hp} {m : Nat} {A : Nat → Nat} {S : SS} {v : Int32} (hC : MC h A S) : MC (setI h 6 0 m v) A S := hC
theorem k_s0 {h : Hp} {m : Nat} {v : Int32} : kd (setI h 6 0 m v) m = kd h m := rfl
def ct_X5_building (A : Nat → Nat) (S : SS) : Ct := fun As h Q _ => sR As fun m r => sI r fun b r => sI r fun w r => s0 r (MD h m A S ∧ MC h A S ∧ ((0 ≤ b.toInt ∧ b.toInt < S.nb) ∧ (0 ≤ w.toInt ∧ w.toInt ≤ 7) → Q (some (.int (i32 (buT S (tn b) (tn w))))) (t0 h m)) ∧ (¬ ((0 ≤ b.toInt ∧ b.toInt < S.nb) ∧ (0 ≤ w.toInt ∧ w.toInt ≤ 7)) → Q (some (.int (i32 0))) (tX h m 1)))
def ce_X5_building (A : Nat → Nat) (S : SS) : CE := (0, yX5_building, MX5_building, 2, 3, 0, 0, ct_X5_building A S)
set_option maxRecDepth 100000 in
set_option maxHeartbeats 4000000 in
theorem ok_X5_building (G : GT) (A : Nat → Nat) (S : SS) (hW : WF S) : OKm G yX5_building MX5_building 3 0 0 (ct_X5_building A S) := by
  refine mkOK (ini := false) (by decide) rfl (by first | exact fun _ => rfl | (intro hh; cases hh)) (fun As h Q QX hc => ?_)
  replace hc := sR_e hc; obtain ⟨m, r, rfl, hc⟩ := hc
  replace hc := sI_e hc; obtain ⟨b, r, rfl, hc⟩ := hc
  replace hc := sI_e hc; obtain ⟨w, r, rfl, hc⟩ := hc
  replace hc := s0_e hc; obtain ⟨rfl, hc⟩ := hc
  obtain ⟨bV, hbV, rfl⟩ := i32_all b
  obtain ⟨wV, hwV, rfl⟩ := i32_all w
  simp only [i32_toInt hbV, tn_i hbV, i32_toInt hwV, tn_i hwV] at hc
  obtain ⟨hM, hC, hv, hf⟩ := hc
  have hk := hM.1.1
  replace hM : MD (t0 h m) m A S := MD_s0 hM
  replace hC : MC (t0 h m) A S := hC
  refine ⟨Nat.le_of_ble_eq_true rfl, ?_⟩
  simp only [ent, entL, catN, List.length_cons, List.length_nil, List.replicate, List.cons_append, List.nil_append, reduceIte, Nat.reduceEqDiff,  Nat.reduceAdd, Nat.reduceSub, mnl_X5_building]
  refine wpW (cs := [(46, ce_X5_isBuilding A S), (39, ce_X5_isIn), (99, ce_X5_buildingTold A S), (67, ce_X5_fail)]) (stop := [5]) (n := 200) (env_cons (ceV (by decide +kernel) ⟨by decide, by decide, by decide +kernel⟩ (by decide) rfl (ok_X5_isBuilding G A S hW)) (env_cons (ceS (by decide +kernel) ⟨by decide, by decide, by decide +kernel⟩ (by decide) (ok_X5_isIn G)) (env_cons (ceV (by decide +kernel) ⟨by decide, by decide, by decide +kernel⟩ (by decide) rfl (ok_X5_buildingTold G A S hW)) (env_cons (ceV (by decide +kernel) ⟨by decide, by decide, by decide +kernel⟩ (by decide) rfl (ok_X5_fail G)) (env_nil0 (env_hh rfl)))))) ?_
  simp only [↓wpN_S, ↓step_u, ↓stC_s, stC_s, ↓stF_u, stF_u, ↓stepI, lenI, ↓kN_u, isS, ↓gI_0, ↓gI_S, ↓gL_0, ↓gL_S, ↓gD_0, ↓gD_S, ↓gR_0, ↓gR_S, ↓sI_c, ↓sL_c, ↓sD_c, ↓sR_c, ↓s1_r, ↓s1_i, ↓vR_r, ↓vR_n, ↓s0_n, s0_n, ↓oR_u, ↓sP_u, ↓sPa_0, ↓sPa_S, ↓lkC_c, ↓callK_u, ↓cQ_s, ↓cQ_n, putL, putW, clr, kil, catS, catN, refF, booF, finF, nF, nmOf_0, nmOf_1, nmOf_2, nmOf_3, nmOf_4, nmOf_5, nmOf_6, nmOf_50, nmOf_51, nmOf_52, ↓reduceIte, reduceIte, Bool.false_eq_true, eq_self, true_or, or_true, true_and, and_true, false_or, or_false, Nat.reduceAdd, Nat.reduceSub, Nat.reduceEqDiff, Nat.reduceLT, Nat.reduceLeDiff, reduceCtorEq, true_implies, List.length_cons, List.length_nil, List.replicate, List.cons_append, List.nil_append, mrt_X5_building, mhh_X5_building, mow_X5_building, mnl_X5_building, DX5_building_0, DX5_building_1, DX5_building_2, DX5_building_5, DX5_building_6, DX5_building_7, DX5_building_10, DX5_building_13, DX5_building_14, DX5_building_15, DX5_building_17, DX5_building_20, DX5_building_23, DX5_building_24, DX5_building_25, DX5_building_26, DX5_building_29, DX5_building_32, DX5_building_33, DX5_building_34, DX5_building_37, ce_X5_isBuilding, ↓ct_X5_isBuilding, ycl_X5_isBuilding, ce_X5_isIn, ↓ct_X5_isIn, ycl_X5_isIn, ce_X5_buildingTold, ↓ct_X5_buildingTold, ycl_X5_buildingTold, ce_X5_fail, ↓ct_X5_fail, ycl_X5_fail, cX_nil mhh_X5_building]
  simp only [hk, true_and, false_implies]
  unfold tX at hf
  change Wp G MX5_building false 3 Q QX 5 _ [] (t0 h m) _
  generalize t0 h m = g at *
  clear hk
  have hnb := hW.1
  have hnl := hW.2.1
  have hM0 := hM
  obtain ⟨⟨hk, hA, hJ⟩, fd, fe, fb, fl, hB, hL, hN, hG, hP⟩ := hM0
  obtain ⟨a5, k5, l5⟩ := hA 5 (by omega) (by omega)
  obtain ⟨a6, k6, l6⟩ := hA 6 (by omega) (by omega)
  obtain ⟨a7, k7, l7⟩ := hA 7 (by omega) (by omega)
  obtain ⟨a8, k8, l8⟩ := hA 8 (by omega) (by omega)
  obtain ⟨a9, k9, l9⟩ := hA 9 (by omega) (by omega)
  obtain ⟨a10, k10, l10⟩ := hA 10 (by omega) (by omega)
  obtain ⟨a11, k11, l11⟩ := hA 11 (by omega) (by omega)
  simp only [mLen] at l5 l6 l7 l8 l9 l10 l11
  refine wpW (cs := [(46, ce_X5_isBuilding A S), (39, ce_X5_isIn), (99, ce_X5_buildingTold A S), (67, ce_X5_fail)]) (stop := [5]) (n := 200) (env_cons (ceV (by decide +kernel) ⟨by decide, by decide, by decide +kernel⟩ (by decide) rfl (ok_X5_isBuilding G A S hW)) (env_cons (ceS (by decide +kernel) ⟨by decide, by decide, by decide +kernel⟩ (by decide) (ok_X5_isIn G)) (env_cons (ceV (by decide +kernel) ⟨by decide, by decide, by decide +kernel⟩ (by decide) rfl (ok_X5_buildingTold G A S hW)) (env_cons (ceV (by decide +kernel) ⟨by decide, by decide, by decide +kernel⟩ (by decide) rfl (ok_X5_fail G)) (env_nil0 (env_hh rfl)))))) ?_
  simp only [↓wpN_S, ↓step_u, ↓stC_s, stC_s, ↓stF_u, stF_u, ↓stepI, lenI, ↓kN_u, isS, ↓gI_0, ↓gI_S, ↓gL_0, ↓gL_S, ↓gD_0, ↓gD_S, ↓gR_0, ↓gR_S, ↓sI_c, ↓sL_c, ↓sD_c, ↓sR_c, ↓s1_r, ↓s1_i, ↓vR_r, ↓vR_n, ↓s0_n, s0_n, ↓oR_u, ↓sP_u, ↓sPa_0, ↓sPa_S, ↓lkC_c, ↓callK_u, ↓cQ_s, ↓cQ_n, putL, putW, clr, kil, catS, catN, refF, booF, finF, nF, nmOf_0, nmOf_1, nmOf_2, nmOf_3, nmOf_4, nmOf_5, nmOf_6, nmOf_50, nmOf_51, nmOf_52, ↓reduceIte, reduceIte, Bool.false_eq_true, eq_self, true_or, or_true, true_and, and_true, false_or, or_false, Nat.reduceAdd, Nat.reduceSub, Nat.reduceEqDiff, Nat.reduceLT, Nat.reduceLeDiff, reduceCtorEq, true_implies, List.length_cons, List.length_nil, List.replicate, List.cons_append, List.nil_append, mrt_X5_building, mhh_X5_building, mow_X5_building, mnl_X5_building, DX5_building_0, DX5_building_1, DX5_building_2, DX5_building_5, DX5_building_6, DX5_building_7, DX5_building_10, DX5_building_13, DX5_building_14, DX5_building_15, DX5_building_17, DX5_building_20, DX5_building_23, DX5_building_24, DX5_building_25, DX5_building_26, DX5_building_29, DX5_building_32, DX5_building_33, DX5_building_34, DX5_building_37, ce_X5_isBuilding, ↓ct_X5_isBuilding, ycl_X5_isBuilding, ce_X5_isIn, ↓ct_X5_isIn, ycl_X5_isIn, ce_X5_buildingTold, ↓ct_X5_buildingTold, ycl_X5_buildingTold, ce_X5_fail, ↓ct_X5_fail, ycl_X5_fail, cX_nil mhh_X5_building]
  simp (disch := omega) only [i32_lit, i32_neg, i32_add, i32_mul, i32_sub, i32_nI, i32_lt, i32_le, i32_eq, inR_i, i32_clamp, i32_div, i32_max, i32_min, ite_max, ite_min, b2i_0, b2i_1, b2i_01, i32_toInt, tn_i, Int.toNat_natCast, em_t, true_and, and_true, Int.reduceToNat, Int.reduceLE, Int.reduceLT, Int.reduceAdd, Int.reduceMul, Int.reduceSub, Int.reduceNeg, Int.reduceEq, true_implies, not_true_eq_false, false_implies, not_false_eq_true, hM, hk, fd, fe, fb, fl, a5, k5, l5, a6, k6, l6, a7, k7, l7, a8, k8, l8, a9, k9, l9, a10, k10, l10, a11, k11, l11, true_and, and_true, Option.some.injEq, exists_eq_left', nmOf_0, nmOf_1, nmOf_2, nmOf_3, nmOf_4, nmOf_5, nmOf_6, Nat.add_sub_cancel, Nat.reduceSub, Nat.reduceLT, Nat.reduceEqDiff, ne_eq, not_false_eq_true, hC]
  refine ⟨fun h1 => hf (fun q => h1 q.1), fun h1 => ⟨fun h2 => hf (fun q => h2 q.2), fun h2 => ⟨by omega, by omega, hv ⟨by omega, by omega⟩⟩⟩⟩
def ct_X5_isCell : Ct := fun As h Q _ => sI As fun hr r => sI r fun x r => sI r fun y r => s0 r (Q (some (.int (b2i ((0 ≤ hr.toInt ∧ hr.toInt ≤ 11) ∧ (0 ≤ x.toInt ∧ x.toInt ≤ 15) ∧ (0 ≤ y.toInt ∧ y.toInt ≤ 15))))) h)
def ce_X5_isCell : CE := (1, yX5_isCell, MX5_isCell, 3, 2, 0, 0, ct_X5_isCell)
set_option maxRecDepth 100000 in
set_option maxHeartbeats 4000000 in
theorem ok_X5_isCell (G : GT) : OKm G yX5_isCell MX5_isCell 2 0 0 ct_X5_isCell := by
  refine mkOK (ini := false) (by decide) rfl (by first | exact fun _ => rfl | (intro hh; cases hh)) (fun As h Q QX hc => ?_)
  replace hc := sI_e hc; obtain ⟨hr, r, rfl, hc⟩ := hc
  replace hc := sI_e hc; obtain ⟨x, r, rfl, hc⟩ := hc
  replace hc := sI_e hc; obtain ⟨y, r, rfl, hc⟩ := hc
  replace hc := s0_e hc; obtain ⟨rfl, hc⟩ := hc
  obtain ⟨hrV, hhr, rfl⟩ := i32_all hr
  obtain ⟨xV, hx, rfl⟩ := i32_all x
  obtain ⟨yV, hy, rfl⟩ := i32_all y
  simp only [i32_toInt hhr, i32_toInt hx, i32_toInt hy] at hc
  refine ⟨Nat.le_of_ble_eq_true rfl, ?_⟩
  simp only [ent, entL, catN, List.length_cons, List.length_nil, List.replicate, List.cons_append, List.nil_append, reduceIte, Nat.reduceEqDiff,  Nat.reduceAdd, Nat.reduceSub, mnl_X5_isCell]
  refine wpW (cs := [(96, ce_X5_isHour), (39, ce_X5_isIn)]) (stop := []) (n := 200) (env_cons (ceS (by decide +kernel) ⟨by decide, by decide, by decide +kernel⟩ (by decide) (ok_X5_isHour G)) (env_cons (ceS (by decide +kernel) ⟨by decide, by decide, by decide +kernel⟩ (by decide) (ok_X5_isIn G)) (env_nil0 (env_hh rfl)))) ?_
  simp only [↓wpN_S, ↓step_u, ↓stC_s, stC_s, ↓stF_u, stF_u, ↓stepI, lenI, ↓kN_u, isS, ↓gI_0, ↓gI_S, ↓gL_0, ↓gL_S, ↓gD_0, ↓gD_S, ↓gR_0, ↓gR_S, ↓sI_c, ↓sL_c, ↓sD_c, ↓sR_c, ↓s1_r, ↓s1_i, ↓vR_r, ↓vR_n, ↓s0_n, s0_n, ↓oR_u, ↓sP_u, ↓sPa_0, ↓sPa_S, ↓lkC_c, ↓callK_u, ↓cQ_s, ↓cQ_n, putL, putW, clr, kil, catS, catN, refF, booF, finF, nF, nmOf_0, nmOf_1, nmOf_2, nmOf_3, nmOf_4, nmOf_5, nmOf_6, nmOf_50, nmOf_51, nmOf_52, ↓reduceIte, reduceIte, Bool.false_eq_true, eq_self, true_or, or_true, true_and, and_true, false_or, or_false, Nat.reduceAdd, Nat.reduceSub, Nat.reduceEqDiff, Nat.reduceLT, Nat.reduceLeDiff, reduceCtorEq, true_implies, List.length_cons, List.length_nil, List.replicate, List.cons_append, List.nil_append, mrt_X5_isCell, mhh_X5_isCell, mow_X5_isCell, mnl_X5_isCell, DX5_isCell_0, DX5_isCell_1, DX5_isCell_4, DX5_isCell_7, DX5_isCell_8, DX5_isCell_9, DX5_isCell_11, DX5_isCell_14, DX5_isCell_17, DX5_isCell_18, DX5_isCell_19, DX5_isCell_21, DX5_isCell_24, DX5_isCell_27, DX5_isCell_28, DX5_isCell_31, DX5_isCell_32, ce_X5_isHour, ↓ct_X5_isHour, ycl_X5_isHour, ce_X5_isIn, ↓ct_X5_isIn, ycl_X5_isIn, cX_nil mhh_X5_isCell]
  simp (disch := omega) only [i32_lit, i32_neg, i32_add, i32_mul, i32_sub, i32_nI, i32_lt, i32_le, i32_eq, inR_i, i32_clamp, i32_div, i32_max, i32_min, ite_max, ite_min, b2i_0, b2i_1, b2i_01, i32_toInt, tn_i, Int.toNat_natCast, em_t, true_and, and_true, Int.reduceToNat, Int.reduceLE, Int.reduceLT, Int.reduceAdd, Int.reduceMul, Int.reduceSub, Int.reduceNeg, Int.reduceEq, true_implies, not_true_eq_false, false_implies, not_false_eq_true]
  refine ⟨fun h1 => Qb0 hc (fun q => h1 q.1), fun h1 => ⟨fun h2 => Qb0 hc (fun q => h2 q.2.1), fun h2 => ⟨fun h3 => Qb0 hc (fun q => h3 q.2.2), fun h3 => Qb1 hc ⟨by omega, by omega, by omega⟩⟩⟩⟩
def ct_X5_shade (A : Nat → Nat) (S : SS) : Ct := fun As h Q _ => sR As fun m r => sI r fun hr r => sI r fun x r => sI r fun y r => s0 r (MD h m A S ∧ MC h A S ∧ ((0 ≤ hr.toInt ∧ hr.toInt ≤ 11) ∧ (0 ≤ x.toInt ∧ x.toInt ≤ 15) ∧ (0 ≤ y.toInt ∧ y.toInt ≤ 15) → Q (some (.int (i32 (bel S (tn hr) (x.toInt + 16 * y.toInt).toNat)))) (t0 h m)) ∧ (¬ ((0 ≤ hr.toInt ∧ hr.toInt ≤ 11) ∧ (0 ≤ x.toInt ∧ x.toInt ≤ 15) ∧ (0 ≤ y.toInt ∧ y.toInt ≤ 15)) → Q (some (.int (i32 0))) (tX h m 1)))
def ce_X5_shade (A : Nat → Nat) (S : SS) : CE := (0, yX5_shade, MX5_shade, 3, 3, 0, 0, ct_X5_shade A S)
set_option maxRecDepth 100000 in
set_option maxHeartbeats 4000000 in
theorem ok_X5_shade (G : GT) (A : Nat → Nat) (S : SS) (hW : WF S) : OKm G yX5_shade MX5_shade 3 0 0 (ct_X5_shade A S) := by
  refine mkOK (ini := false) (by decide) rfl (by first | exact fun _ => rfl | (intro hh; cases hh)) (fun As h Q QX hc => ?_)
  replace hc := sR_e hc; obtain ⟨m, r, rfl, hc⟩ := hc
  replace hc := sI_e hc; obtain ⟨hr, r, rfl, hc⟩ := hc
  replace hc := sI_e hc; obtain ⟨x, r, rfl, hc⟩ := hc
  replace hc := sI_e hc; obtain ⟨y, r, rfl, hc⟩ := hc
  replace hc := s0_e hc; obtain ⟨rfl, hc⟩ := hc
  obtain ⟨hrV, hhrV, rfl⟩ := i32_all hr
  obtain ⟨xV, hxV, rfl⟩ := i32_all x
  obtain ⟨yV, hyV, rfl⟩ := i32_all y
  simp only [i32_toInt hhrV, tn_i hhrV, i32_toInt hxV, tn_i hxV, i32_toInt hyV, tn_i hyV] at hc
  obtain ⟨hM, hC, hv, hf⟩ := hc
  have hk := hM.1.1
  replace hM : MD (t0 h m) m A S := MD_s0 hM
  replace hC : MC (t0 h m) A S := hC
  refine ⟨Nat.le_of_ble_eq_true rfl, ?_⟩
  simp only [ent, entL, catN, List.length_cons, List.length_nil, List.replicate, List.cons_append, List.nil_append, reduceIte, Nat.reduceEqDiff,  Nat.reduceAdd, Nat.reduceSub, mnl_X5_shade]
  refine wpW (cs := [(102, ce_X5_isCell), (67, ce_X5_fail)]) (stop := [5]) (n := 200) (env_cons (ceS (by decide +kernel) ⟨by decide, by decide, by decide +kernel⟩ (by decide) (ok_X5_isCell G)) (env_cons (ceV (by decide +kernel) ⟨by decide, by decide, by decide +kernel⟩ (by decide) rfl (ok_X5_fail G)) (env_nil0 (env_hh rfl)))) ?_
  simp only [↓wpN_S, ↓step_u, ↓stC_s, stC_s, ↓stF_u, stF_u, ↓stepI, lenI, ↓kN_u, isS, ↓gI_0, ↓gI_S, ↓gL_0, ↓gL_S, ↓gD_0, ↓gD_S, ↓gR_0, ↓gR_S, ↓sI_c, ↓sL_c, ↓sD_c, ↓sR_c, ↓s1_r, ↓s1_i, ↓vR_r, ↓vR_n, ↓s0_n, s0_n, ↓oR_u, ↓sP_u, ↓sPa_0, ↓sPa_S, ↓lkC_c, ↓callK_u, ↓cQ_s, ↓cQ_n, putL, putW, clr, kil, catS, catN, refF, booF, finF, nF, nmOf_0, nmOf_1, nmOf_2, nmOf_3, nmOf_4, nmOf_5, nmOf_6, nmOf_50, nmOf_51, nmOf_52, ↓reduceIte, reduceIte, Bool.false_eq_true, eq_self, true_or, or_true, true_and, and_true, false_or, or_false, Nat.reduceAdd, Nat.reduceSub, Nat.reduceEqDiff, Nat.reduceLT, Nat.reduceLeDiff, reduceCtorEq, true_implies, List.length_cons, List.length_nil, List.replicate, List.cons_append, List.nil_append, mrt_X5_shade, mhh_X5_shade, mow_X5_shade, mnl_X5_shade, DX5_shade_0, DX5_shade_1, DX5_shade_2, DX5_shade_5, DX5_shade_6, DX5_shade_7, DX5_shade_8, DX5_shade_11, DX5_shade_14, DX5_shade_15, DX5_shade_18, DX5_shade_21, DX5_shade_22, DX5_shade_23, DX5_shade_25, DX5_shade_26, DX5_shade_27, DX5_shade_28, DX5_shade_29, DX5_shade_30, DX5_shade_31, DX5_shade_34, DX5_shade_35, DX5_shade_36, DX5_shade_39, ce_X5_isCell, ↓ct_X5_isCell, ycl_X5_isCell, ce_X5_fail, ↓ct_X5_fail, ycl_X5_fail, cX_nil mhh_X5_shade]
  simp only [hk, true_and, false_implies]
  unfold tX at hf
  change Wp G MX5_shade false 3 Q QX 5 _ [] (t0 h m) _
  generalize t0 h m = g at *
  clear hk
  have hnb := hW.1
  have hnl := hW.2.1
  have hM0 := hM
  obtain ⟨⟨hk, hA, hJ⟩, fd, fe, fb, fl, hB, hL, hN, hG, hP⟩ := hM0
  obtain ⟨a5, k5, l5⟩ := hA 5 (by omega) (by omega)
  obtain ⟨a6, k6, l6⟩ := hA 6 (by omega) (by omega)
  obtain ⟨a7, k7, l7⟩ := hA 7 (by omega) (by omega)
  obtain ⟨a8, k8, l8⟩ := hA 8 (by omega) (by omega)
  obtain ⟨a9, k9, l9⟩ := hA 9 (by omega) (by omega)
  obtain ⟨a10, k10, l10⟩ := hA 10 (by omega) (by omega)
  obtain ⟨a11, k11, l11⟩ := hA 11 (by omega) (by omega)
  simp only [mLen] at l5 l6 l7 l8 l9 l10 l11
  refine wpW (cs := [(102, ce_X5_isCell), (67, ce_X5_fail)]) (stop := [5]) (n := 200) (env_cons (ceS (by decide +kernel) ⟨by decide, by decide, by decide +kernel⟩ (by decide) (ok_X5_isCell G)) (env_cons (ceV (by decide +kernel) ⟨by decide, by decide, by decide +kernel⟩ (by decide) rfl (ok_X5_fail G)) (env_nil0 (env_hh rfl)))) ?_
  simp only [↓wpN_S, ↓step_u, ↓stC_s, stC_s, ↓stF_u, stF_u, ↓stepI, lenI, ↓kN_u, isS, ↓gI_0, ↓gI_S, ↓gL_0, ↓gL_S, ↓gD_0, ↓gD_S, ↓gR_0, ↓gR_S, ↓sI_c, ↓sL_c, ↓sD_c, ↓sR_c, ↓s1_r, ↓s1_i, ↓vR_r, ↓vR_n, ↓s0_n, s0_n, ↓oR_u, ↓sP_u, ↓sPa_0, ↓sPa_S, ↓lkC_c, ↓callK_u, ↓cQ_s, ↓cQ_n, putL, putW, clr, kil, catS, catN, refF, booF, finF, nF, nmOf_0, nmOf_1, nmOf_2, nmOf_3, nmOf_4, nmOf_5, nmOf_6, nmOf_50, nmOf_51, nmOf_52, ↓reduceIte, reduceIte, Bool.false_eq_true, eq_self, true_or, or_true, true_and, and_true, false_or, or_false, Nat.reduceAdd, Nat.reduceSub, Nat.reduceEqDiff, Nat.reduceLT, Nat.reduceLeDiff, reduceCtorEq, true_implies, List.length_cons, List.length_nil, List.replicate, List.cons_append, List.nil_append, mrt_X5_shade, mhh_X5_shade, mow_X5_shade, mnl_X5_shade, DX5_shade_0, DX5_shade_1, DX5_shade_2, DX5_shade_5, DX5_shade_6, DX5_shade_7, DX5_shade_8, DX5_shade_11, DX5_shade_14, DX5_shade_15, DX5_shade_18, DX5_shade_21, DX5_shade_22, DX5_shade_23, DX5_shade_25, DX5_shade_26, DX5_shade_27, DX5_shade_28, DX5_shade_29, DX5_shade_30, DX5_shade_31, DX5_shade_34, DX5_shade_35, DX5_shade_36, DX5_shade_39, ce_X5_isCell, ↓ct_X5_isCell, ycl_X5_isCell, ce_X5_fail, ↓ct_X5_fail, ycl_X5_fail, cX_nil mhh_X5_shade]
  simp (disch := omega) only [i32_lit, i32_neg, i32_add, i32_mul, i32_sub, i32_nI, i32_lt, i32_le, i32_eq, inR_i, i32_clamp, i32_div, i32_max, i32_min, ite_max, ite_min, b2i_0, b2i_1, b2i_01, i32_toInt, tn_i, Int.toNat_natCast, em_t, true_and, and_true, Int.reduceToNat, Int.reduceLE, Int.reduceLT, Int.reduceAdd, Int.reduceMul, Int.reduceSub, Int.reduceNeg, Int.reduceEq, true_implies, not_true_eq_false, false_implies, not_false_eq_true, hM, hk, fd, fe, fb, fl, a5, k5, l5, a6, k6, l6, a7, k7, l7, a8, k8, l8, a9, k9, l9, a10, k10, l10, a11, k11, l11, true_and, and_true, Option.some.injEq, exists_eq_left', nmOf_0, nmOf_1, nmOf_2, nmOf_3, nmOf_4, nmOf_5, nmOf_6, Nat.add_sub_cancel, Nat.reduceSub, Nat.reduceLT, Nat.reduceEqDiff, ne_eq, not_false_eq_true, hC]
  refine ⟨fun h1 => hf h1, fun h1 => ?_⟩
  have h1 := Classical.not_not.mp h1
  simp (disch := omega) only [i32_lit, i32_neg, i32_add, i32_mul, i32_sub, i32_nI, i32_lt, i32_le, i32_eq, inR_i, i32_clamp, i32_div, i32_max, i32_min, ite_max, ite_min, b2i_0, b2i_1, b2i_01, i32_toInt, tn_i, Int.toNat_natCast, em_t, true_and, and_true, Int.reduceToNat, Int.reduceLE, Int.reduceLT, Int.reduceAdd, Int.reduceMul, Int.reduceSub, Int.reduceNeg, Int.reduceEq, true_implies, not_true_eq_false, false_implies, not_false_eq_true, hM, hk, fd, fe, fb, fl, a5, k5, l5, a6, k6, l6, a7, k7, l7, a8, k8, l8, a9, k9, l9, a10, k10, l10, a11, k11, l11, true_and, and_true, Option.some.injEq, exists_eq_left', nmOf_0, nmOf_1, nmOf_2, nmOf_3, nmOf_4, nmOf_5, nmOf_6, Nat.add_sub_cancel, Nat.reduceSub, Nat.reduceLT, Nat.reduceEqDiff, ne_eq, not_false_eq_true, hC]
  repeat (refine ⟨by omega, ?_⟩)
  rw [show (256 * hrV + 16 * yV + xV).toNat = 256 * hrV.toNat + (xV + 16 * yV).toNat by omega, (hC hrV.toNat _ (by omega) (by omega)).1]
  exact hv h1
def ct_X5_shades (A : Nat → Nat) (S : SS) : Ct := fun As h Q _ => sR As fun m r => sI r fun hr r => sI r fun x r => sI r fun y r => s0 r (MD h m A S ∧ MC h A S ∧ ((0 ≤ hr.toInt ∧ hr.toInt ≤ 11) ∧ (0 ≤ x.toInt ∧ x.toInt ≤ 15) ∧ (0 ≤ y.toInt ∧ y.toInt ≤ 15) → Q (some (.int (i32 (shd S (tn hr) (x.toInt + 16 * y.toInt).toNat)))) (t0 h m)) ∧ (¬ ((0 ≤ hr.toInt ∧ hr.toInt ≤ 11) ∧ (0 ≤ x.toInt ∧ x.toInt ≤ 15) ∧ (0 ≤ y.toInt ∧ y.toInt ≤ 15)) → Q (some (.int (i32 0))) (tX h m 1)))
def ce_X5_shades (A : Nat → Nat) (S : SS) : CE := (0, yX5_shades, MX5_shades, 3, 3, 0, 0, ct_X5_shades A S)
set_option maxRecDepth 100000 in
set_option maxHeartbeats 4000000 in
theorem ok_X5_shades (G : GT) (A : Nat → Nat) (S : SS) (hW : WF S) : OKm G yX5_shades MX5_shades 3 0 0 (ct_X5_shades A S) := by
  refine mkOK (ini := false) (by decide) rfl (by first | exact fun _ => rfl | (intro hh; cases hh)) (fun As h Q QX hc => ?_)
  replace hc := sR_e hc; obtain ⟨m, r, rfl, hc⟩ := hc
  replace hc := sI_e hc; obtain ⟨hr, r, rfl, hc⟩ := hc
  replace hc := sI_e hc; obtain ⟨x, r, rfl, hc⟩ := hc
  replace hc := sI_e hc; obtain ⟨y, r, rfl, hc⟩ := hc
  replace hc := s0_e hc; obtain ⟨rfl, hc⟩ := hc
  obtain ⟨hrV, hhrV, rfl⟩ := i32_all hr
  obtain ⟨xV, hxV, rfl⟩ := i32_all x
  obtain ⟨yV, hyV, rfl⟩ := i32_all y
  simp only [i32_toInt hhrV, tn_i hhrV, i32_toInt hxV, tn_i hxV, i32_toInt hyV, tn_i hyV] at hc
  obtain ⟨hM, hC, hv, hf⟩ := hc
  have hk := hM.1.1
  replace hM : MD (t0 h m) m A S := MD_s0 hM
  replace hC : MC (t0 h m) A S := hC
  refine ⟨Nat.le_of_ble_eq_true rfl, ?_⟩
  simp only [ent, entL, catN, List.length_cons, List.length_nil, List.replicate, List.cons_append, List.nil_append, reduceIte, Nat.reduceEqDiff,  Nat.reduceAdd, Nat.reduceSub, mnl_X5_shades]
  refine wpW (cs := [(102, ce_X5_isCell), (67, ce_X5_fail)]) (stop := [5]) (n := 200) (env_cons (ceS (by decide +kernel) ⟨by decide, by decide, by decide +kernel⟩ (by decide) (ok_X5_isCell G)) (env_cons (ceV (by decide +kernel) ⟨by decide, by decide, by decide +kernel⟩ (by decide) rfl (ok_X5_fail G)) (env_nil0 (env_hh rfl)))) ?_
  simp only [↓wpN_S, ↓step_u, ↓stC_s, stC_s, ↓stF_u, stF_u, ↓stepI, lenI, ↓kN_u, isS, ↓gI_0, ↓gI_S, ↓gL_0, ↓gL_S, ↓gD_0, ↓gD_S, ↓gR_0, ↓gR_S, ↓sI_c, ↓sL_c, ↓sD_c, ↓sR_c, ↓s1_r, ↓s1_i, ↓vR_r, ↓vR_n, ↓s0_n, s0_n, ↓oR_u, ↓sP_u, ↓sPa_0, ↓sPa_S, ↓lkC_c, ↓callK_u, ↓cQ_s, ↓cQ_n, putL, putW, clr, kil, catS, catN, refF, booF, finF, nF, nmOf_0, nmOf_1, nmOf_2, nmOf_3, nmOf_4, nmOf_5, nmOf_6, nmOf_50, nmOf_51, nmOf_52, ↓reduceIte, reduceIte, Bool.false_eq_true, eq_self, true_or, or_true, true_and, and_true, false_or, or_false, Nat.reduceAdd, Nat.reduceSub, Nat.reduceEqDiff, Nat.reduceLT, Nat.reduceLeDiff, reduceCtorEq, true_implies, List.length_cons, List.length_nil, List.replicate, List.cons_append, List.nil_append, mrt_X5_shades, mhh_X5_shades, mow_X5_shades, mnl_X5_shades, DX5_shades_0, DX5_shades_1, DX5_shades_2, DX5_shades_5, DX5_shades_6, DX5_shades_7, DX5_shades_8, DX5_shades_11, DX5_shades_14, DX5_shades_15, DX5_shades_18, DX5_shades_21, DX5_shades_22, DX5_shades_23, DX5_shades_25, DX5_shades_26, DX5_shades_27, DX5_shades_28, DX5_shades_29, DX5_shades_30, DX5_shades_31, DX5_shades_34, DX5_shades_35, DX5_shades_36, DX5_shades_39, ce_X5_isCell, ↓ct_X5_isCell, ycl_X5_isCell, ce_X5_fail, ↓ct_X5_fail, ycl_X5_fail, cX_nil mhh_X5_shades]
  simp only [hk, true_and, false_implies]
  unfold tX at hf
  change Wp G MX5_shades false 3 Q QX 5 _ [] (t0 h m) _
  generalize t0 h m = g at *
  clear hk
  have hnb := hW.1
  have hnl := hW.2.1
  have hM0 := hM
  obtain ⟨⟨hk, hA, hJ⟩, fd, fe, fb, fl, hB, hL, hN, hG, hP⟩ := hM0
  obtain ⟨a5, k5, l5⟩ := hA 5 (by omega) (by omega)
  obtain ⟨a6, k6, l6⟩ := hA 6 (by omega) (by omega)
  obtain ⟨a7, k7, l7⟩ := hA 7 (by omega) (by omega)
  obtain ⟨a8, k8, l8⟩ := hA 8 (by omega) (by omega)
  obtain ⟨a9, k9, l9⟩ := hA 9 (by omega) (by omega)
  obtain ⟨a10, k10, l10⟩ := hA 10 (by omega) (by omega)
  obtain ⟨a11, k11, l11⟩ := hA 11 (by omega) (by omega)
  simp only [mLen] at l5 l6 l7 l8 l9 l10 l11
  refine wpW (cs := [(102, ce_X5_isCell), (67, ce_X5_fail)]) (stop := [5]) (n := 200) (env_cons (ceS (by decide +kernel) ⟨by decide, by decide, by decide +kernel⟩ (by decide) (ok_X5_isCell G)) (env_cons (ceV (by decide +kernel) ⟨by decide, by decide, by decide +kernel⟩ (by decide) rfl (ok_X5_fail G)) (env_nil0 (env_hh rfl)))) ?_
  simp only [↓wpN_S, ↓step_u, ↓stC_s, stC_s, ↓stF_u, stF_u, ↓stepI, lenI, ↓kN_u, isS, ↓gI_0, ↓gI_S, ↓gL_0, ↓gL_S, ↓gD_0, ↓gD_S, ↓gR_0, ↓gR_S, ↓sI_c, ↓sL_c, ↓sD_c, ↓sR_c, ↓s1_r, ↓s1_i, ↓vR_r, ↓vR_n, ↓s0_n, s0_n, ↓oR_u, ↓sP_u, ↓sPa_0, ↓sPa_S, ↓lkC_c, ↓callK_u, ↓cQ_s, ↓cQ_n, putL, putW, clr, kil, catS, catN, refF, booF, finF, nF, nmOf_0, nmOf_1, nmOf_2, nmOf_3, nmOf_4, nmOf_5, nmOf_6, nmOf_50, nmOf_51, nmOf_52, ↓reduceIte, reduceIte, Bool.false_eq_true, eq_self, true_or, or_true, true_and, and_true, false_or, or_false, Nat.reduceAdd, Nat.reduceSub, Nat.reduceEqDiff, Nat.reduceLT, Nat.reduceLeDiff, reduceCtorEq, true_implies, List.length_cons, List.length_nil, List.replicate, List.cons_append, List.nil_append, mrt_X5_shades, mhh_X5_shades, mow_X5_shades, mnl_X5_shades, DX5_shades_0, DX5_shades_1, DX5_shades_2, DX5_shades_5, DX5_shades_6, DX5_shades_7, DX5_shades_8, DX5_shades_11, DX5_shades_14, DX5_shades_15, DX5_shades_18, DX5_shades_21, DX5_shades_22, DX5_shades_23, DX5_shades_25, DX5_shades_26, DX5_shades_27, DX5_shades_28, DX5_shades_29, DX5_shades_30, DX5_shades_31, DX5_shades_34, DX5_shades_35, DX5_shades_36, DX5_shades_39, ce_X5_isCell, ↓ct_X5_isCell, ycl_X5_isCell, ce_X5_fail, ↓ct_X5_fail, ycl_X5_fail, cX_nil mhh_X5_shades]
  simp (disch := omega) only [i32_lit, i32_neg, i32_add, i32_mul, i32_sub, i32_nI, i32_lt, i32_le, i32_eq, inR_i, i32_clamp, i32_div, i32_max, i32_min, ite_max, ite_min, b2i_0, b2i_1, b2i_01, i32_toInt, tn_i, Int.toNat_natCast, em_t, true_and, and_true, Int.reduceToNat, Int.reduceLE, Int.reduceLT, Int.reduceAdd, Int.reduceMul, Int.reduceSub, Int.reduceNeg, Int.reduceEq, true_implies, not_true_eq_false, false_implies, not_false_eq_true, hM, hk, fd, fe, fb, fl, a5, k5, l5, a6, k6, l6, a7, k7, l7, a8, k8, l8, a9, k9, l9, a10, k10, l10, a11, k11, l11, true_and, and_true, Option.some.injEq, exists_eq_left', nmOf_0, nmOf_1, nmOf_2, nmOf_3, nmOf_4, nmOf_5, nmOf_6, Nat.add_sub_cancel, Nat.reduceSub, Nat.reduceLT, Nat.reduceEqDiff, ne_eq, not_false_eq_true, hC]
  refine ⟨fun h1 => hf h1, fun h1 => ?_⟩
  have h1 := Classical.not_not.mp h1
  simp (disch := omega) only [i32_lit, i32_neg, i32_add, i32_mul, i32_sub, i32_nI, i32_lt, i32_le, i32_eq, inR_i, i32_clamp, i32_div, i32_max, i32_min, ite_max, ite_min, b2i_0, b2i_1, b2i_01, i32_toInt, tn_i, Int.toNat_natCast, em_t, true_and, and_true, Int.reduceToNat, Int.reduceLE, Int.reduceLT, Int.reduceAdd, Int.reduceMul, Int.reduceSub, Int.reduceNeg, Int.reduceEq, true_implies, not_true_eq_false, false_implies, not_false_eq_true, hM, hk, fd, fe, fb, fl, a5, k5, l5, a6, k6, l6, a7, k7, l7, a8, k8, l8, a9, k9, l9, a10, k10, l10, a11, k11, l11, true_and, and_true, Option.some.injEq, exists_eq_left', nmOf_0, nmOf_1, nmOf_2, nmOf_3, nmOf_4, nmOf_5, nmOf_6, Nat.add_sub_cancel, Nat.reduceSub, Nat.reduceLT, Nat.reduceEqDiff, ne_eq, not_false_eq_true, hC]
  repeat (refine ⟨by omega, ?_⟩)
  rw [show (256 * hrV + 16 * yV + xV).toNat = 256 * hrV.toNat + (xV + 16 * yV).toNat by omega, (hC hrV.toNat _ (by omega) (by omega)).2]
  exact hv h1
def ct_X5_area (A : Nat → Nat) (S : SS) : Ct := fun As h Q _ => sR As fun m r => sI r fun b r => sI r fun hr r => s0 r (MD h m A S ∧ MC h A S ∧ ((0 ≤ b.toInt ∧ b.toInt < S.nb) ∧ (0 ≤ hr.toInt ∧ hr.toInt ≤ 11) → Q (some (.int (i32 (area S b.toInt (tn hr))))) (t0 h m)) ∧ (¬ ((0 ≤ b.toInt ∧ b.toInt < S.nb) ∧ (0 ≤ hr.toInt ∧ hr.toInt ≤ 11)) → Q (some (.int (i32 0))) (tX h m 1)))
def ce_X5_area (A : Nat → Nat) (S : SS) : CE := (0, yX5_area, MX5_area, 2, 2, 0, 0, ct_X5_area A S)
set_option maxRecDepth 100000 in
set_option maxHeartbeats 4000000 in
theorem ok_X5_area (G : GT) (A : Nat → Nat) (S : SS) (hW : WF S) : OKm G yX5_area MX5_area 2 0 0 (ct_X5_area A S) := by
  refine mkOK (ini := false) (by decide) rfl (by first | exact fun _ => rfl | (intro hh; cases hh)) (fun As h Q QX hc => ?_)
  replace hc := sR_e hc; obtain ⟨m, r, rfl, hc⟩ := hc
  replace hc := sI_e hc; obtain ⟨b, r, rfl, hc⟩ := hc
  replace hc := sI_e hc; obtain ⟨hr, r, rfl, hc⟩ := hc
  replace hc := s0_e hc; obtain ⟨rfl, hc⟩ := hc
  obtain ⟨bV, hbV, rfl⟩ := i32_all b
  obtain ⟨hrV, hhrV, rfl⟩ := i32_all hr
  simp only [i32_toInt hbV, tn_i hbV, i32_toInt hhrV, tn_i hhrV] at hc
  obtain ⟨hM, hC, hv, hf⟩ := hc
  have hk := hM.1.1
  replace hM : MD (t0 h m) m A S := MD_s0 hM
  replace hC : MC (t0 h m) A S := hC
  refine ⟨Nat.le_of_ble_eq_true rfl, ?_⟩
  simp only [ent, entL, catN, List.length_cons, List.length_nil, List.replicate, List.cons_append, List.nil_append, reduceIte, Nat.reduceEqDiff,  Nat.reduceAdd, Nat.reduceSub, mnl_X5_area]
  refine wpW (cs := [(46, ce_X5_isBuilding A S), (96, ce_X5_isHour), (105, ce_X5_areaOf A S), (67, ce_X5_fail)]) (stop := [5]) (n := 200) (env_cons (ceV (by decide +kernel) ⟨by decide, by decide, by decide +kernel⟩ (by decide) rfl (ok_X5_isBuilding G A S hW)) (env_cons (ceS (by decide +kernel) ⟨by decide, by decide, by decide +kernel⟩ (by decide) (ok_X5_isHour G)) (env_cons (ceV (by decide +kernel) ⟨by decide, by decide, by decide +kernel⟩ (by decide) rfl (ok_X5_areaOf G A S hW)) (env_cons (ceV (by decide +kernel) ⟨by decide, by decide, by decide +kernel⟩ (by decide) rfl (ok_X5_fail G)) (env_nil0 (env_hh rfl)))))) ?_
  simp only [↓wpN_S, ↓step_u, ↓stC_s, stC_s, ↓stF_u, stF_u, ↓stepI, lenI, ↓kN_u, isS, ↓gI_0, ↓gI_S, ↓gL_0, ↓gL_S, ↓gD_0, ↓gD_S, ↓gR_0, ↓gR_S, ↓sI_c, ↓sL_c, ↓sD_c, ↓sR_c, ↓s1_r, ↓s1_i, ↓vR_r, ↓vR_n, ↓s0_n, s0_n, ↓oR_u, ↓sP_u, ↓sPa_0, ↓sPa_S, ↓lkC_c, ↓callK_u, ↓cQ_s, ↓cQ_n, putL, putW, clr, kil, catS, catN, refF, booF, finF, nF, nmOf_0, nmOf_1, nmOf_2, nmOf_3, nmOf_4, nmOf_5, nmOf_6, nmOf_50, nmOf_51, nmOf_52, ↓reduceIte, reduceIte, Bool.false_eq_true, eq_self, true_or, or_true, true_and, and_true, false_or, or_false, Nat.reduceAdd, Nat.reduceSub, Nat.reduceEqDiff, Nat.reduceLT, Nat.reduceLeDiff, reduceCtorEq, true_implies, List.length_cons, List.length_nil, List.replicate, List.cons_append, List.nil_append, mrt_X5_area, mhh_X5_area, mow_X5_area, mnl_X5_area, DX5_area_0, DX5_area_1, DX5_area_2, DX5_area_5, DX5_area_6, DX5_area_7, DX5_area_10, DX5_area_13, DX5_area_14, DX5_area_17, DX5_area_20, DX5_area_21, DX5_area_22, DX5_area_23, DX5_area_26, DX5_area_29, DX5_area_30, DX5_area_31, DX5_area_34, ce_X5_isBuilding, ↓ct_X5_isBuilding, ycl_X5_isBuilding, ce_X5_isHour, ↓ct_X5_isHour, ycl_X5_isHour, ce_X5_areaOf, ↓ct_X5_areaOf, ycl_X5_areaOf, ce_X5_fail, ↓ct_X5_fail, ycl_X5_fail, cX_nil mhh_X5_area]
  simp only [hk, true_and, false_implies]
  unfold tX at hf
  change Wp G MX5_area false 2 Q QX 5 _ [] (t0 h m) _
  generalize t0 h m = g at *
  clear hk
  have hnb := hW.1
  have hnl := hW.2.1
  have hM0 := hM
  obtain ⟨⟨hk, hA, hJ⟩, fd, fe, fb, fl, hB, hL, hN, hG, hP⟩ := hM0
  obtain ⟨a5, k5, l5⟩ := hA 5 (by omega) (by omega)
  obtain ⟨a6, k6, l6⟩ := hA 6 (by omega) (by omega)
  obtain ⟨a7, k7, l7⟩ := hA 7 (by omega) (by omega)
  obtain ⟨a8, k8, l8⟩ := hA 8 (by omega) (by omega)
  obtain ⟨a9, k9, l9⟩ := hA 9 (by omega) (by omega)
  obtain ⟨a10, k10, l10⟩ := hA 10 (by omega) (by omega)
  obtain ⟨a11, k11, l11⟩ := hA 11 (by omega) (by omega)
  simp only [mLen] at l5 l6 l7 l8 l9 l10 l11
  refine wpW (cs := [(46, ce_X5_isBuilding A S), (96, ce_X5_isHour), (105, ce_X5_areaOf A S), (67, ce_X5_fail)]) (stop := [5]) (n := 200) (env_cons (ceV (by decide +kernel) ⟨by decide, by decide, by decide +kernel⟩ (by decide) rfl (ok_X5_isBuilding G A S hW)) (env_cons (ceS (by decide +kernel) ⟨by decide, by decide, by decide +kernel⟩ (by decide) (ok_X5_isHour G)) (env_cons (ceV (by decide +kernel) ⟨by decide, by decide, by decide +kernel⟩ (by decide) rfl (ok_X5_areaOf G A S hW)) (env_cons (ceV (by decide +kernel) ⟨by decide, by decide, by decide +kernel⟩ (by decide) rfl (ok_X5_fail G)) (env_nil0 (env_hh rfl)))))) ?_
  simp only [↓wpN_S, ↓step_u, ↓stC_s, stC_s, ↓stF_u, stF_u, ↓stepI, lenI, ↓kN_u, isS, ↓gI_0, ↓gI_S, ↓gL_0, ↓gL_S, ↓gD_0, ↓gD_S, ↓gR_0, ↓gR_S, ↓sI_c, ↓sL_c, ↓sD_c, ↓sR_c, ↓s1_r, ↓s1_i, ↓vR_r, ↓vR_n, ↓s0_n, s0_n, ↓oR_u, ↓sP_u, ↓sPa_0, ↓sPa_S, ↓lkC_c, ↓callK_u, ↓cQ_s, ↓cQ_n, putL, putW, clr, kil, catS, catN, refF, booF, finF, nF, nmOf_0, nmOf_1, nmOf_2, nmOf_3, nmOf_4, nmOf_5, nmOf_6, nmOf_50, nmOf_51, nmOf_52, ↓reduceIte, reduceIte, Bool.false_eq_true, eq_self, true_or, or_true, true_and, and_true, false_or, or_false, Nat.reduceAdd, Nat.reduceSub, Nat.reduceEqDiff, Nat.reduceLT, Nat.reduceLeDiff, reduceCtorEq, true_implies, List.length_cons, List.length_nil, List.replicate, List.cons_append, List.nil_append, mrt_X5_area, mhh_X5_area, mow_X5_area, mnl_X5_area, DX5_area_0, DX5_area_1, DX5_area_2, DX5_area_5, DX5_area_6, DX5_area_7, DX5_area_10, DX5_area_13, DX5_area_14, DX5_area_17, DX5_area_20, DX5_area_21, DX5_area_22, DX5_area_23, DX5_area_26, DX5_area_29, DX5_area_30, DX5_area_31, DX5_area_34, ce_X5_isBuilding, ↓ct_X5_isBuilding, ycl_X5_isBuilding, ce_X5_isHour, ↓ct_X5_isHour, ycl_X5_isHour, ce_X5_areaOf, ↓ct_X5_areaOf, ycl_X5_areaOf, ce_X5_fail, ↓ct_X5_fail, ycl_X5_fail, cX_nil mhh_X5_area]
  simp (disch := omega) only [i32_lit, i32_neg, i32_add, i32_mul, i32_sub, i32_nI, i32_lt, i32_le, i32_eq, inR_i, i32_clamp, i32_div, i32_max, i32_min, ite_max, ite_min, b2i_0, b2i_1, b2i_01, i32_toInt, tn_i, Int.toNat_natCast, em_t, true_and, and_true, Int.reduceToNat, Int.reduceLE, Int.reduceLT, Int.reduceAdd, Int.reduceMul, Int.reduceSub, Int.reduceNeg, Int.reduceEq, true_implies, not_true_eq_false, false_implies, not_false_eq_true, hM, hk, fd, fe, fb, fl, a5, k5, l5, a6, k6, l6, a7, k7, l7, a8, k8, l8, a9, k9, l9, a10, k10, l10, a11, k11, l11, true_and, and_true, Option.some.injEq, exists_eq_left', nmOf_0, nmOf_1, nmOf_2, nmOf_3, nmOf_4, nmOf_5, nmOf_6, Nat.add_sub_cancel, Nat.reduceSub, Nat.reduceLT, Nat.reduceEqDiff, ne_eq, not_false_eq_true, hC]
  refine ⟨fun h1 => hf (fun q => h1 q.1), fun h1 => ⟨fun h2 => hf (fun q => h2 q.2), fun h2 => ⟨by omega, hv ⟨by omega, by omega⟩⟩⟩⟩
def ct_X5_inHour (A : Nat → Nat) (S : SS) : Ct := fun As h Q _ => sR As fun m r => sI r fun hr r => sI r fun w r => s0 r (MD h m A S ∧ MC h A S ∧ ((0 ≤ hr.toInt ∧ hr.toInt ≤ 11) ∧ (0 ≤ w.toInt ∧ w.toInt ≤ 3) → Q (some (.int (i32 (hrT S (tn hr) (tn w))))) (t0 h m)) ∧ (¬ ((0 ≤ hr.toInt ∧ hr.toInt ≤ 11) ∧ (0 ≤ w.toInt ∧ w.toInt ≤ 3)) → Q (some (.int (i32 0))) (tX h m 1)))
def ce_X5_inHour (A : Nat → Nat) (S : SS) : CE := (0, yX5_inHour, MX5_inHour, 2, 7, 0, 0, ct_X5_inHour A S)
set_option maxRecDepth 100000 in
set_option maxHeartbeats 4000000 in
theorem ok_X5_inHour (G : GT) (A : Nat → Nat) (S : SS) (hW : WF S) : OKm G yX5_inHour MX5_inHour 7 0 0 (ct_X5_inHour A S) := by
  refine mkOK (ini := false) (by decide) rfl (by first | exact fun _ => rfl | (intro hh; cases hh)) (fun As h Q QX hc => ?_)
  replace hc := sR_e hc; obtain ⟨m, r, rfl, hc⟩ := hc
  replace hc := sI_e hc; obtain ⟨hr, r, rfl, hc⟩ := hc
  replace hc := sI_e hc; obtain ⟨w, r, rfl, hc⟩ := hc
  replace hc := s0_e hc; obtain ⟨rfl, hc⟩ := hc
  obtain ⟨hrV, hhrV, rfl⟩ := i32_all hr
  obtain ⟨wV, hwV, rfl⟩ := i32_all w
  simp only [i32_toInt hhrV, tn_i hhrV, i32_toInt hwV, tn_i hwV] at hc
  obtain ⟨hM, hC, hv, hf⟩ := hc
  have hk := hM.1.1
  replace hM : MD (t0 h m) m A S := MD_s0 hM
  replace hC : MC (t0 h m) A S := hC
  refine ⟨Nat.le_of_ble_eq_true rfl, ?_⟩
  simp only [ent, entL, catN, List.length_cons, List.length_nil, List.replicate, List.cons_append, List.nil_append, reduceIte, Nat.reduceEqDiff,  Nat.reduceAdd, Nat.reduceSub, mnl_X5_inHour]
  refine wpW (cs := [(96, ce_X5_isHour), (39, ce_X5_isIn), (132, ce_X5_hourTold A S), (67, ce_X5_fail)]) (stop := [5]) (n := 200) (env_cons (ceS (by decide +kernel) ⟨by decide, by decide, by decide +kernel⟩ (by decide) (ok_X5_isHour G)) (env_cons (ceS (by decide +kernel) ⟨by decide, by decide, by decide +kernel⟩ (by decide) (ok_X5_isIn G)) (env_cons (ceV (by decide +kernel) ⟨by decide, by decide, by decide +kernel⟩ (by decide) rfl (ok_X5_hourTold G A S hW)) (env_cons (ceV (by decide +kernel) ⟨by decide, by decide, by decide +kernel⟩ (by decide) rfl (ok_X5_fail G)) (env_nil0 (env_hh rfl)))))) ?_
  simp only [↓wpN_S, ↓step_u, ↓stC_s, stC_s, ↓stF_u, stF_u, ↓stepI, lenI, ↓kN_u, isS, ↓gI_0, ↓gI_S, ↓gL_0, ↓gL_S, ↓gD_0, ↓gD_S, ↓gR_0, ↓gR_S, ↓sI_c, ↓sL_c, ↓sD_c, ↓sR_c, ↓s1_r, ↓s1_i, ↓vR_r, ↓vR_n, ↓s0_n, s0_n, ↓oR_u, ↓sP_u, ↓sPa_0, ↓sPa_S, ↓lkC_c, ↓callK_u, ↓cQ_s, ↓cQ_n, putL, putW, clr, kil, catS, catN, refF, booF, finF, nF, nmOf_0, nmOf_1, nmOf_2, nmOf_3, nmOf_4, nmOf_5, nmOf_6, nmOf_50, nmOf_51, nmOf_52, ↓reduceIte, reduceIte, Bool.false_eq_true, eq_self, true_or, or_true, true_and, and_true, false_or, or_false, Nat.reduceAdd, Nat.reduceSub, Nat.reduceEqDiff, Nat.reduceLT, Nat.reduceLeDiff, reduceCtorEq, true_implies, List.length_cons, List.length_nil, List.replicate, List.cons_append, List.nil_append, mrt_X5_inHour, mhh_X5_inHour, mow_X5_inHour, mnl_X5_inHour, DX5_inHour_0, DX5_inHour_1, DX5_inHour_2, DX5_inHour_5, DX5_inHour_6, DX5_inHour_9, DX5_inHour_12, DX5_inHour_13, DX5_inHour_14, DX5_inHour_15, DX5_inHour_18, DX5_inHour_21, DX5_inHour_22, DX5_inHour_23, DX5_inHour_24, DX5_inHour_27, DX5_inHour_30, DX5_inHour_31, DX5_inHour_32, DX5_inHour_35, ce_X5_isHour, ↓ct_X5_isHour, ycl_X5_isHour, ce_X5_isIn, ↓ct_X5_isIn, ycl_X5_isIn, ce_X5_hourTold, ↓ct_X5_hourTold, ycl_X5_hourTold, ce_X5_fail, ↓ct_X5_fail, ycl_X5_fail, cX_nil mhh_X5_inHour]
  simp only [hk, true_and, false_implies]
  unfold tX at hf
  change Wp G MX5_inHour false 7 Q QX 5 _ [] (t0 h m) _
  generalize t0 h m = g at *
  clear hk
  have hnb := hW.1
  have hnl := hW.2.1
  have hM0 := hM
  obtain ⟨⟨hk, hA, hJ⟩, fd, fe, fb, fl, hB, hL, hN, hG, hP⟩ := hM0
  obtain ⟨a5, k5, l5⟩ := hA 5 (by omega) (by omega)
  obtain ⟨a6, k6, l6⟩ := hA 6 (by omega) (by omega)
  obtain ⟨a7, k7, l7⟩ := hA 7 (by omega) (by omega)
  obtain ⟨a8, k8, l8⟩ := hA 8 (by omega) (by omega)
  obtain ⟨a9, k9, l9⟩ := hA 9 (by omega) (by omega)
  obtain ⟨a10, k10, l10⟩ := hA 10 (by omega) (by omega)
  obtain ⟨a11, k11, l11⟩ := hA 11 (by omega) (by omega)
  simp only [mLen] at l5 l6 l7 l8 l9 l10 l11
  refine wpW (cs := [(96, ce_X5_isHour), (39, ce_X5_isIn), (132, ce_X5_hourTold A S), (67, ce_X5_fail)]) (stop := [5]) (n := 200) (env_cons (ceS (by decide +kernel) ⟨by decide, by decide, by decide +kernel⟩ (by decide) (ok_X5_isHour G)) (env_cons (ceS (by decide +kernel) ⟨by decide, by decide, by decide +kernel⟩ (by decide) (ok_X5_isIn G)) (env_cons (ceV (by decide +kernel) ⟨by decide, by decide, by decide +kernel⟩ (by decide) rfl (ok_X5_hourTold G A S hW)) (env_cons (ceV (by decide +kernel) ⟨by decide, by decide, by decide +kernel⟩ (by decide) rfl (ok_X5_fail G)) (env_nil0 (env_hh rfl)))))) ?_
  simp only [↓wpN_S, ↓step_u, ↓stC_s, stC_s, ↓stF_u, stF_u, ↓stepI, lenI, ↓kN_u, isS, ↓gI_0, ↓gI_S, ↓gL_0, ↓gL_S, ↓gD_0, ↓gD_S, ↓gR_0, ↓gR_S, ↓sI_c, ↓sL_c, ↓sD_c, ↓sR_c, ↓s1_r, ↓s1_i, ↓vR_r, ↓vR_n, ↓s0_n, s0_n, ↓oR_u, ↓sP_u, ↓sPa_0, ↓sPa_S, ↓lkC_c, ↓callK_u, ↓cQ_s, ↓cQ_n, putL, putW, clr, kil, catS, catN, refF, booF, finF, nF, nmOf_0, nmOf_1, nmOf_2, nmOf_3, nmOf_4, nmOf_5, nmOf_6, nmOf_50, nmOf_51, nmOf_52, ↓reduceIte, reduceIte, Bool.false_eq_true, eq_self, true_or, or_true, true_and, and_true, false_or, or_false, Nat.reduceAdd, Nat.reduceSub, Nat.reduceEqDiff, Nat.reduceLT, Nat.reduceLeDiff, reduceCtorEq, true_implies, List.length_cons, List.length_nil, List.replicate, List.cons_append, List.nil_append, mrt_X5_inHour, mhh_X5_inHour, mow_X5_inHour, mnl_X5_inHour, DX5_inHour_0, DX5_inHour_1, DX5_inHour_2, DX5_inHour_5, DX5_inHour_6, DX5_inHour_9, DX5_inHour_12, DX5_inHour_13, DX5_inHour_14, DX5_inHour_15, DX5_inHour_18, DX5_inHour_21, DX5_inHour_22, DX5_inHour_23, DX5_inHour_24, DX5_inHour_27, DX5_inHour_30, DX5_inHour_31, DX5_inHour_32, DX5_inHour_35, ce_X5_isHour, ↓ct_X5_isHour, ycl_X5_isHour, ce_X5_isIn, ↓ct_X5_isIn, ycl_X5_isIn, ce_X5_hourTold, ↓ct_X5_hourTold, ycl_X5_hourTold, ce_X5_fail, ↓ct_X5_fail, ycl_X5_fail, cX_nil mhh_X5_inHour]
  simp (disch := omega) only [i32_lit, i32_neg, i32_add, i32_mul, i32_sub, i32_nI, i32_lt, i32_le, i32_eq, inR_i, i32_clamp, i32_div, i32_max, i32_min, ite_max, ite_min, b2i_0, b2i_1, b2i_01, i32_toInt, tn_i, Int.toNat_natCast, em_t, true_and, and_true, Int.reduceToNat, Int.reduceLE, Int.reduceLT, Int.reduceAdd, Int.reduceMul, Int.reduceSub, Int.reduceNeg, Int.reduceEq, true_implies, not_true_eq_false, false_implies, not_false_eq_true, hM, hk, fd, fe, fb, fl, a5, k5, l5, a6, k6, l6, a7, k7, l7, a8, k8, l8, a9, k9, l9, a10, k10, l10, a11, k11, l11, true_and, and_true, Option.some.injEq, exists_eq_left', nmOf_0, nmOf_1, nmOf_2, nmOf_3, nmOf_4, nmOf_5, nmOf_6, Nat.add_sub_cancel, Nat.reduceSub, Nat.reduceLT, Nat.reduceEqDiff, ne_eq, not_false_eq_true, hC]
  refine ⟨fun h1 => hf (fun q => h1 q.1), fun h1 => ⟨fun h2 => hf (fun q => h2 q.2), fun h2 => ⟨by omega, by omega, hv ⟨by omega, by omega⟩⟩⟩⟩
def ct_X5_lease (A : Nat → Nat) (S : SS) : Ct := fun As h Q _ => sR As fun m r => sI r fun l r => sI r fun w r => s0 r (MD h m A S ∧ MC h A S ∧ ((0 ≤ l.toInt ∧ l.toInt < S.nl) ∧ (0 ≤ w.toInt ∧ w.toInt ≤ 9) → Q (some (.int (i32 (leT S (tn l) (tn w))))) (t0 h m)) ∧ (¬ ((0 ≤ l.toInt ∧ l.toInt < S.nl) ∧ (0 ≤ w.toInt ∧ w.toInt ≤ 9)) → Q (some (.int (i32 0))) (tX h m 1)))
def ce_X5_lease (A : Nat → Nat) (S : SS) : CE := (0, yX5_lease, MX5_lease, 2, 8, 0, 0, ct_X5_lease A S)
set_option maxRecDepth 100000 in
set_option maxHeartbeats 4000000 in
theorem ok_X5_lease (G : GT) (A : Nat → Nat) (S : SS) (hW : WF S) : OKm G yX5_lease MX5_lease 8 0 0 (ct_X5_lease A S) := by
  refine mkOK (ini := false) (by decide) rfl (by first | exact fun _ => rfl | (intro hh; cases hh)) (fun As h Q QX hc => ?_)
  replace hc := sR_e hc; obtain ⟨m, r, rfl, hc⟩ := hc
  replace hc := sI_e hc; obtain ⟨l, r, rfl, hc⟩ := hc
  replace hc := sI_e hc; obtain ⟨w, r, rfl, hc⟩ := hc
  replace hc := s0_e hc; obtain ⟨rfl, hc⟩ := hc
  obtain ⟨lV, hlV, rfl⟩ := i32_all l
  obtain ⟨wV, hwV, rfl⟩ := i32_all w
  simp only [i32_toInt hlV, tn_i hlV, i32_toInt hwV, tn_i hwV] at hc
  obtain ⟨hM, hC, hv, hf⟩ := hc
  have hk := hM.1.1
  replace hM : MD (t0 h m) m A S := MD_s0 hM
  replace hC : MC (t0 h m) A S := hC
  refine ⟨Nat.le_of_ble_eq_true rfl, ?_⟩
  simp only [ent, entL, catN, List.length_cons, List.length_nil, List.replicate, List.cons_append, List.nil_append, reduceIte, Nat.reduceEqDiff,  Nat.reduceAdd, Nat.reduceSub, mnl_X5_lease]
  refine wpW (cs := [(135, ce_X5_isLease A S), (39, ce_X5_isIn), (141, ce_X5_leaseTold A S), (67, ce_X5_fail)]) (stop := [5]) (n := 200) (env_cons (ceV (by decide +kernel) ⟨by decide, by decide, by decide +kernel⟩ (by decide) rfl (ok_X5_isLease G A S hW)) (env_cons (ceS (by decide +kernel) ⟨by decide, by decide, by decide +kernel⟩ (by decide) (ok_X5_isIn G)) (env_cons (ceV (by decide +kernel) ⟨by decide, by decide, by decide +kernel⟩ (by decide) rfl (ok_X5_leaseTold G A S hW)) (env_cons (ceV (by decide +kernel) ⟨by decide, by decide, by decide +kernel⟩ (by decide) rfl (ok_X5_fail G)) (env_nil0 (env_hh rfl)))))) ?_
  simp only [↓wpN_S, ↓step_u, ↓stC_s, stC_s, ↓stF_u, stF_u, ↓stepI, lenI, ↓kN_u, isS, ↓gI_0, ↓gI_S, ↓gL_0, ↓gL_S, ↓gD_0, ↓gD_S, ↓gR_0, ↓gR_S, ↓sI_c, ↓sL_c, ↓sD_c, ↓sR_c, ↓s1_r, ↓s1_i, ↓vR_r, ↓vR_n, ↓s0_n, s0_n, ↓oR_u, ↓sP_u, ↓sPa_0, ↓sPa_S, ↓lkC_c, ↓callK_u, ↓cQ_s, ↓cQ_n, putL, putW, clr, kil, catS, catN, refF, booF, finF, nF, nmOf_0, nmOf_1, nmOf_2, nmOf_3, nmOf_4, nmOf_5, nmOf_6, nmOf_50, nmOf_51, nmOf_52, ↓reduceIte, reduceIte, Bool.false_eq_true, eq_self, true_or, or_true, true_and, and_true, false_or, or_false, Nat.reduceAdd, Nat.reduceSub, Nat.reduceEqDiff, Nat.reduceLT, Nat.reduceLeDiff, reduceCtorEq, true_implies, List.length_cons, List.length_nil, List.replicate, List.cons_append, List.nil_append, mrt_X5_lease, mhh_X5_lease, mow_X5_lease, mnl_X5_lease, DX5_lease_0, DX5_lease_1, DX5_lease_2, DX5_lease_5, DX5_lease_6, DX5_lease_7, DX5_lease_10, DX5_lease_13, DX5_lease_14, DX5_lease_15, DX5_lease_17, DX5_lease_20, DX5_lease_23, DX5_lease_24, DX5_lease_25, DX5_lease_26, DX5_lease_29, DX5_lease_32, DX5_lease_33, DX5_lease_34, DX5_lease_37, ce_X5_isLease, ↓ct_X5_isLease, ycl_X5_isLease, ce_X5_isIn, ↓ct_X5_isIn, ycl_X5_isIn, ce_X5_leaseTold, ↓ct_X5_leaseTold, ycl_X5_leaseTold, ce_X5_fail, ↓ct_X5_fail, ycl_X5_fail, cX_nil mhh_X5_lease]
  simp only [hk, true_and, false_implies]
  unfold tX at hf
  change Wp G MX5_lease false 8 Q QX 5 _ [] (t0 h m) _
  generalize t0 h m = g at *
  clear hk
  have hnb := hW.1
  have hnl := hW.2.1
  have hM0 := hM
  obtain ⟨⟨hk, hA, hJ⟩, fd, fe, fb, fl, hB, hL, hN, hG, hP⟩ := hM0
  obtain ⟨a5, k5, l5⟩ := hA 5 (by omega) (by omega)
  obtain ⟨a6, k6, l6⟩ := hA 6 (by omega) (by omega)
  obtain ⟨a7, k7, l7⟩ := hA 7 (by omega) (by omega)
  obtain ⟨a8, k8, l8⟩ := hA 8 (by omega) (by omega)
  obtain ⟨a9, k9, l9⟩ := hA 9 (by omega) (by omega)
  obtain ⟨a10, k10, l10⟩ := hA 10 (by omega) (by omega)
  obtain ⟨a11, k11, l11⟩ := hA 11 (by omega) (by omega)
  simp only [mLen] at l5 l6 l7 l8 l9 l10 l11
  refine wpW (cs := [(135, ce_X5_isLease A S), (39, ce_X5_isIn), (141, ce_X5_leaseTold A S), (67, ce_X5_fail)]) (stop := [5]) (n := 200) (env_cons (ceV (by decide +kernel) ⟨by decide, by decide, by decide +kernel⟩ (by decide) rfl (ok_X5_isLease G A S hW)) (env_cons (ceS (by decide +kernel) ⟨by decide, by decide, by decide +kernel⟩ (by decide) (ok_X5_isIn G)) (env_cons (ceV (by decide +kernel) ⟨by decide, by decide, by decide +kernel⟩ (by decide) rfl (ok_X5_leaseTold G A S hW)) (env_cons (ceV (by decide +kernel) ⟨by decide, by decide, by decide +kernel⟩ (by decide) rfl (ok_X5_fail G)) (env_nil0 (env_hh rfl)))))) ?_
  simp only [↓wpN_S, ↓step_u, ↓stC_s, stC_s, ↓stF_u, stF_u, ↓stepI, lenI, ↓kN_u, isS, ↓gI_0, ↓gI_S, ↓gL_0, ↓gL_S, ↓gD_0, ↓gD_S, ↓gR_0, ↓gR_S, ↓sI_c, ↓sL_c, ↓sD_c, ↓sR_c, ↓s1_r, ↓s1_i, ↓vR_r, ↓vR_n, ↓s0_n, s0_n, ↓oR_u, ↓sP_u, ↓sPa_0, ↓sPa_S, ↓lkC_c, ↓callK_u, ↓cQ_s, ↓cQ_n, putL, putW, clr, kil, catS, catN, refF, booF, finF, nF, nmOf_0, nmOf_1, nmOf_2, nmOf_3, nmOf_4, nmOf_5, nmOf_6, nmOf_50, nmOf_51, nmOf_52, ↓reduceIte, reduceIte, Bool.false_eq_true, eq_self, true_or, or_true, true_and, and_true, false_or, or_false, Nat.reduceAdd, Nat.reduceSub, Nat.reduceEqDiff, Nat.reduceLT, Nat.reduceLeDiff, reduceCtorEq, true_implies, List.length_cons, List.length_nil, List.replicate, List.cons_append, List.nil_append, mrt_X5_lease, mhh_X5_lease, mow_X5_lease, mnl_X5_lease, DX5_lease_0, DX5_lease_1, DX5_lease_2, DX5_lease_5, DX5_lease_6, DX5_lease_7, DX5_lease_10, DX5_lease_13, DX5_lease_14, DX5_lease_15, DX5_lease_17, DX5_lease_20, DX5_lease_23, DX5_lease_24, DX5_lease_25, DX5_lease_26, DX5_lease_29, DX5_lease_32, DX5_lease_33, DX5_lease_34, DX5_lease_37, ce_X5_isLease, ↓ct_X5_isLease, ycl_X5_isLease, ce_X5_isIn, ↓ct_X5_isIn, ycl_X5_isIn, ce_X5_leaseTold, ↓ct_X5_leaseTold, ycl_X5_leaseTold, ce_X5_fail, ↓ct_X5_fail, ycl_X5_fail, cX_nil mhh_X5_lease]
  simp (disch := omega) only [i32_lit, i32_neg, i32_add, i32_mul, i32_sub, i32_nI, i32_lt, i32_le, i32_eq, inR_i, i32_clamp, i32_div, i32_max, i32_min, ite_max, ite_min, b2i_0, b2i_1, b2i_01, i32_toInt, tn_i, Int.toNat_natCast, em_t, true_and, and_true, Int.reduceToNat, Int.reduceLE, Int.reduceLT, Int.reduceAdd, Int.reduceMul, Int.reduceSub, Int.reduceNeg, Int.reduceEq, true_implies, not_true_eq_false, false_implies, not_false_eq_true, hM, hk, fd, fe, fb, fl, a5, k5, l5, a6, k6, l6, a7, k7, l7, a8, k8, l8, a9, k9, l9, a10, k10, l10, a11, k11, l11, true_and, and_true, Option.some.injEq, exists_eq_left', nmOf_0, nmOf_1, nmOf_2, nmOf_3, nmOf_4, nmOf_5, nmOf_6, Nat.add_sub_cancel, Nat.reduceSub, Nat.reduceLT, Nat.reduceEqDiff, ne_eq, not_false_eq_true, hC]
  refine ⟨fun h1 => hf (fun q => h1 q.1), fun h1 => ⟨fun h2 => hf (fun q => h2 q.2), fun h2 => ⟨by omega, by omega, hv ⟨by omega, by omega⟩⟩⟩⟩
def ct_X5_gets (A : Nat → Nat) (S : SS) : Ct := fun As h Q _ => sR As fun m r => sI r fun l r => sI r fun hr r => s0 r (MD h m A S ∧ MC h A S ∧ ((0 ≤ l.toInt ∧ l.toInt < S.nl) ∧ (0 ≤ hr.toInt ∧ hr.toInt ≤ 11) → Q (some (.int (i32 (gts S (tn l) (tn hr))))) (t0 h m)) ∧ (¬ ((0 ≤ l.toInt ∧ l.toInt < S.nl) ∧ (0 ≤ hr.toInt ∧ hr.toInt ≤ 11)) → Q (some (.int (i32 0))) (tX h m 1)))
def ce_X5_gets (A : Nat → Nat) (S : SS) : CE := (0, yX5_gets, MX5_gets, 2, 5, 0, 0, ct_X5_gets A S)
set_option maxRecDepth 100000 in
set_option maxHeartbeats 4000000 in
theorem ok_X5_gets (G : GT) (A : Nat → Nat) (S : SS) (hW : WF S) : OKm G yX5_gets MX5_gets 5 0 0 (ct_X5_gets A S) := by
  refine mkOK (ini := false) (by decide) rfl (by first | exact fun _ => rfl | (intro hh; cases hh)) (fun As h Q QX hc => ?_)
  replace hc := sR_e hc; obtain ⟨m, r, rfl, hc⟩ := hc
  replace hc := sI_e hc; obtain ⟨l, r, rfl, hc⟩ := hc
  replace hc := sI_e hc; obtain ⟨hr, r, rfl, hc⟩ := hc
  replace hc := s0_e hc; obtain ⟨rfl, hc⟩ := hc
  obtain ⟨lV, hlV, rfl⟩ := i32_all l
  obtain ⟨hrV, hhrV, rfl⟩ := i32_all hr
  simp only [i32_toInt hlV, tn_i hlV, i32_toInt hhrV, tn_i hhrV] at hc
  obtain ⟨hM, hC, hv, hf⟩ := hc
  have hk := hM.1.1
  replace hM : MD (t0 h m) m A S := MD_s0 hM
  replace hC : MC (t0 h m) A S := hC
  refine ⟨Nat.le_of_ble_eq_true rfl, ?_⟩
  simp only [ent, entL, catN, List.length_cons, List.length_nil, List.replicate, List.cons_append, List.nil_append, reduceIte, Nat.reduceEqDiff,  Nat.reduceAdd, Nat.reduceSub, mnl_X5_gets]
  refine wpW (cs := [(135, ce_X5_isLease A S), (96, ce_X5_isHour), (126, ce_X5_getsOf A S), (67, ce_X5_fail)]) (stop := [5]) (n := 200) (env_cons (ceV (by decide +kernel) ⟨by decide, by decide, by decide +kernel⟩ (by decide) rfl (ok_X5_isLease G A S hW)) (env_cons (ceS (by decide +kernel) ⟨by decide, by decide, by decide +kernel⟩ (by decide) (ok_X5_isHour G)) (env_cons (ceV (by decide +kernel) ⟨by decide, by decide, by decide +kernel⟩ (by decide) rfl (ok_X5_getsOf G A S hW)) (env_cons (ceV (by decide +kernel) ⟨by decide, by decide, by decide +kernel⟩ (by decide) rfl (ok_X5_fail G)) (env_nil0 (env_hh rfl)))))) ?_
  simp only [↓wpN_S, ↓step_u, ↓stC_s, stC_s, ↓stF_u, stF_u, ↓stepI, lenI, ↓kN_u, isS, ↓gI_0, ↓gI_S, ↓gL_0, ↓gL_S, ↓gD_0, ↓gD_S, ↓gR_0, ↓gR_S, ↓sI_c, ↓sL_c, ↓sD_c, ↓sR_c, ↓s1_r, ↓s1_i, ↓vR_r, ↓vR_n, ↓s0_n, s0_n, ↓oR_u, ↓sP_u, ↓sPa_0, ↓sPa_S, ↓lkC_c, ↓callK_u, ↓cQ_s, ↓cQ_n, putL, putW, clr, kil, catS, catN, refF, booF, finF, nF, nmOf_0, nmOf_1, nmOf_2, nmOf_3, nmOf_4, nmOf_5, nmOf_6, nmOf_50, nmOf_51, nmOf_52, ↓reduceIte, reduceIte, Bool.false_eq_true, eq_self, true_or, or_true, true_and, and_true, false_or, or_false, Nat.reduceAdd, Nat.reduceSub, Nat.reduceEqDiff, Nat.reduceLT, Nat.reduceLeDiff, reduceCtorEq, true_implies, List.length_cons, List.length_nil, List.replicate, List.cons_append, List.nil_append, mrt_X5_gets, mhh_X5_gets, mow_X5_gets, mnl_X5_gets, DX5_gets_0, DX5_gets_1, DX5_gets_2, DX5_gets_5, DX5_gets_6, DX5_gets_7, DX5_gets_10, DX5_gets_13, DX5_gets_14, DX5_gets_17, DX5_gets_20, DX5_gets_21, DX5_gets_22, DX5_gets_23, DX5_gets_26, DX5_gets_29, DX5_gets_30, DX5_gets_31, DX5_gets_34, ce_X5_isLease, ↓ct_X5_isLease, ycl_X5_isLease, ce_X5_isHour, ↓ct_X5_isHour, ycl_X5_isHour, ce_X5_getsOf, ↓ct_X5_getsOf, ycl_X5_getsOf, ce_X5_fail, ↓ct_X5_fail, ycl_X5_fail, cX_nil mhh_X5_gets]
  simp only [hk, true_and, false_implies]
  unfold tX at hf
  change Wp G MX5_gets false 5 Q QX 5 _ [] (t0 h m) _
  generalize t0 h m = g at *
  clear hk
  have hnb := hW.1
  have hnl := hW.2.1
  have hM0 := hM
  obtain ⟨⟨hk, hA, hJ⟩, fd, fe, fb, fl, hB, hL, hN, hG, hP⟩ := hM0
  obtain ⟨a5, k5, l5⟩ := hA 5 (by omega) (by omega)
  obtain ⟨a6, k6, l6⟩ := hA 6 (by omega) (by omega)
  obtain ⟨a7, k7, l7⟩ := hA 7 (by omega) (by omega)
  obtain ⟨a8, k8, l8⟩ := hA 8 (by omega) (by omega)
  obtain ⟨a9, k9, l9⟩ := hA 9 (by omega) (by omega)
  obtain ⟨a10, k10, l10⟩ := hA 10 (by omega) (by omega)
  obtain ⟨a11, k11, l11⟩ := hA 11 (by omega) (by omega)
  simp only [mLen] at l5 l6 l7 l8 l9 l10 l11
  refine wpW (cs := [(135, ce_X5_isLease A S), (96, ce_X5_isHour), (126, ce_X5_getsOf A S), (67, ce_X5_fail)]) (stop := [5]) (n := 200) (env_cons (ceV (by decide +kernel) ⟨by decide, by decide, by decide +kernel⟩ (by decide) rfl (ok_X5_isLease G A S hW)) (env_cons (ceS (by decide +kernel) ⟨by decide, by decide, by decide +kernel⟩ (by decide) (ok_X5_isHour G)) (env_cons (ceV (by decide +kernel) ⟨by decide, by decide, by decide +kernel⟩ (by decide) rfl (ok_X5_getsOf G A S hW)) (env_cons (ceV (by decide +kernel) ⟨by decide, by decide, by decide +kernel⟩ (by decide) rfl (ok_X5_fail G)) (env_nil0 (env_hh rfl)))))) ?_
  simp only [↓wpN_S, ↓step_u, ↓stC_s, stC_s, ↓stF_u, stF_u, ↓stepI, lenI, ↓kN_u, isS, ↓gI_0, ↓gI_S, ↓gL_0, ↓gL_S, ↓gD_0, ↓gD_S, ↓gR_0, ↓gR_S, ↓sI_c, ↓sL_c, ↓sD_c, ↓sR_c, ↓s1_r, ↓s1_i, ↓vR_r, ↓vR_n, ↓s0_n, s0_n, ↓oR_u, ↓sP_u, ↓sPa_0, ↓sPa_S, ↓lkC_c, ↓callK_u, ↓cQ_s, ↓cQ_n, putL, putW, clr, kil, catS, catN, refF, booF, finF, nF, nmOf_0, nmOf_1, nmOf_2, nmOf_3, nmOf_4, nmOf_5, nmOf_6, nmOf_50, nmOf_51, nmOf_52, ↓reduceIte, reduceIte, Bool.false_eq_true, eq_self, true_or, or_true, true_and, and_true, false_or, or_false, Nat.reduceAdd, Nat.reduceSub, Nat.reduceEqDiff, Nat.reduceLT, Nat.reduceLeDiff, reduceCtorEq, true_implies, List.length_cons, List.length_nil, List.replicate, List.cons_append, List.nil_append, mrt_X5_gets, mhh_X5_gets, mow_X5_gets, mnl_X5_gets, DX5_gets_0, DX5_gets_1, DX5_gets_2, DX5_gets_5, DX5_gets_6, DX5_gets_7, DX5_gets_10, DX5_gets_13, DX5_gets_14, DX5_gets_17, DX5_gets_20, DX5_gets_21, DX5_gets_22, DX5_gets_23, DX5_gets_26, DX5_gets_29, DX5_gets_30, DX5_gets_31, DX5_gets_34, ce_X5_isLease, ↓ct_X5_isLease, ycl_X5_isLease, ce_X5_isHour, ↓ct_X5_isHour, ycl_X5_isHour, ce_X5_getsOf, ↓ct_X5_getsOf, ycl_X5_getsOf, ce_X5_fail, ↓ct_X5_fail, ycl_X5_fail, cX_nil mhh_X5_gets]
  simp (disch := omega) only [i32_lit, i32_neg, i32_add, i32_mul, i32_sub, i32_nI, i32_lt, i32_le, i32_eq, inR_i, i32_clamp, i32_div, i32_max, i32_min, ite_max, ite_min, b2i_0, b2i_1, b2i_01, i32_toInt, tn_i, Int.toNat_natCast, em_t, true_and, and_true, Int.reduceToNat, Int.reduceLE, Int.reduceLT, Int.reduceAdd, Int.reduceMul, Int.reduceSub, Int.reduceNeg, Int.reduceEq, true_implies, not_true_eq_false, false_implies, not_false_eq_true, hM, hk, fd, fe, fb, fl, a5, k5, l5, a6, k6, l6, a7, k7, l7, a8, k8, l8, a9, k9, l9, a10, k10, l10, a11, k11, l11, true_and, and_true, Option.some.injEq, exists_eq_left', nmOf_0, nmOf_1, nmOf_2, nmOf_3, nmOf_4, nmOf_5, nmOf_6, Nat.add_sub_cancel, Nat.reduceSub, Nat.reduceLT, Nat.reduceEqDiff, ne_eq, not_false_eq_true, hC]
  refine ⟨fun h1 => hf (fun q => h1 q.1), fun h1 => ⟨fun h2 => hf (fun q => h2 q.2), fun h2 => ⟨by omega, by omega, hv ⟨by omega, by omega⟩⟩⟩⟩
def ct_X5_got (A : Nat → Nat) (S : SS) : Ct := fun As h Q _ => sR As fun m r => sI r fun o r => s0 r (MD h m A S ∧ MC h A S ∧ (0 ≤ o.toInt ∧ o.toInt ≤ 7 → Q (some (.int (i32 (S.gt (tn o))))) (t0 h m)) ∧ (¬ (0 ≤ o.toInt ∧ o.toInt ≤ 7) → Q (some (.int (i32 0))) (tX h m 1)))
def ce_X5_got (A : Nat → Nat) (S : SS) : CE := (0, yX5_got, MX5_got, 1, 1, 0, 0, ct_X5_got A S)
set_option maxRecDepth 100000 in
set_option maxHeartbeats 4000000 in
theorem ok_X5_got (G : GT) (A : Nat → Nat) (S : SS) (hW : WF S) : OKm G yX5_got MX5_got 1 0 0 (ct_X5_got A S) := by
  refine mkOK (ini := false) (by decide) rfl (by first | exact fun _ => rfl | (intro hh; cases hh)) (fun As h Q QX hc => ?_)
  replace hc := sR_e hc; obtain ⟨m, r, rfl, hc⟩ := hc
  replace hc := sI_e hc; obtain ⟨o, r, rfl, hc⟩ := hc
  replace hc := s0_e hc; obtain ⟨rfl, hc⟩ := hc
  obtain ⟨oV, hoV, rfl⟩ := i32_all o
  simp only [i32_toInt hoV, tn_i hoV] at hc
  obtain ⟨hM, hC, hv, hf⟩ := hc
  have hk := hM.1.1
  replace hM : MD (t0 h m) m A S := MD_s0 hM
  replace hC : MC (t0 h m) A S := hC
  refine ⟨Nat.le_of_ble_eq_true rfl, ?_⟩
  simp only [ent, entL, catN, List.length_cons, List.length_nil, List.replicate, List.cons_append, List.nil_append, reduceIte, Nat.reduceEqDiff,  Nat.reduceAdd, Nat.reduceSub, mnl_X5_got]
  refine wpW (cs := [(39, ce_X5_isIn), (67, ce_X5_fail)]) (stop := [5]) (n := 200) (env_cons (ceS (by decide +kernel) ⟨by decide, by decide, by decide +kernel⟩ (by decide) (ok_X5_isIn G)) (env_cons (ceV (by decide +kernel) ⟨by decide, by decide, by decide +kernel⟩ (by decide) rfl (ok_X5_fail G)) (env_nil0 (env_hh rfl)))) ?_
  simp only [↓wpN_S, ↓step_u, ↓stC_s, stC_s, ↓stF_u, stF_u, ↓stepI, lenI, ↓kN_u, isS, ↓gI_0, ↓gI_S, ↓gL_0, ↓gL_S, ↓gD_0, ↓gD_S, ↓gR_0, ↓gR_S, ↓sI_c, ↓sL_c, ↓sD_c, ↓sR_c, ↓s1_r, ↓s1_i, ↓vR_r, ↓vR_n, ↓s0_n, s0_n, ↓oR_u, ↓sP_u, ↓sPa_0, ↓sPa_S, ↓lkC_c, ↓callK_u, ↓cQ_s, ↓cQ_n, putL, putW, clr, kil, catS, catN, refF, booF, finF, nF, nmOf_0, nmOf_1, nmOf_2, nmOf_3, nmOf_4, nmOf_5, nmOf_6, nmOf_50, nmOf_51, nmOf_52, ↓reduceIte, reduceIte, Bool.false_eq_true, eq_self, true_or, or_true, true_and, and_true, false_or, or_false, Nat.reduceAdd, Nat.reduceSub, Nat.reduceEqDiff, Nat.reduceLT, Nat.reduceLeDiff, reduceCtorEq, true_implies, List.length_cons, List.length_nil, List.replicate, List.cons_append, List.nil_append, mrt_X5_got, mhh_X5_got, mow_X5_got, mnl_X5_got, DX5_got_0, DX5_got_1, DX5_got_2, DX5_got_5, DX5_got_6, DX5_got_7, DX5_got_9, DX5_got_12, DX5_got_15, DX5_got_16, DX5_got_19, DX5_got_20, DX5_got_21, DX5_got_24, DX5_got_25, DX5_got_26, DX5_got_29, ce_X5_isIn, ↓ct_X5_isIn, ycl_X5_isIn, ce_X5_fail, ↓ct_X5_fail, ycl_X5_fail, cX_nil mhh_X5_got]
  simp only [hk, true_and, false_implies]
  unfold tX at hf
  change Wp G MX5_got false 1 Q QX 5 _ [] (t0 h m) _
  generalize t0 h m = g at *
  clear hk
  have hnb := hW.1
  have hnl := hW.2.1
  have hM0 := hM
  obtain ⟨⟨hk, hA, hJ⟩, fd, fe, fb, fl, hB, hL, hN, hG, hP⟩ := hM0
  obtain ⟨a5, k5, l5⟩ := hA 5 (by omega) (by omega)
  obtain ⟨a6, k6, l6⟩ := hA 6 (by omega) (by omega)
  obtain ⟨a7, k7, l7⟩ := hA 7 (by omega) (by omega)
  obtain ⟨a8, k8, l8⟩ := hA 8 (by omega) (by omega)
  obtain ⟨a9, k9, l9⟩ := hA 9 (by omega) (by omega)
  obtain ⟨a10, k10, l10⟩ := hA 10 (by omega) (by omega)
  obtain ⟨a11, k11, l11⟩ := hA 11 (by omega) (by omega)
  simp only [mLen] at l5 l6 l7 l8 l9 l10 l11
  refine wpW (cs := [(39, ce_X5_isIn), (67, ce_X5_fail)]) (stop := [5]) (n := 200) (env_cons (ceS (by decide +kernel) ⟨by decide, by decide, by decide +kernel⟩ (by decide) (ok_X5_isIn G)) (env_cons (ceV (by decide +kernel) ⟨by decide, by decide, by decide +kernel⟩ (by decide) rfl (ok_X5_fail G)) (env_nil0 (env_hh rfl)))) ?_
  simp only [↓wpN_S, ↓step_u, ↓stC_s, stC_s, ↓stF_u, stF_u, ↓stepI, lenI, ↓kN_u, isS, ↓gI_0, ↓gI_S, ↓gL_0, ↓gL_S, ↓gD_0, ↓gD_S, ↓gR_0, ↓gR_S, ↓sI_c, ↓sL_c, ↓sD_c, ↓sR_c, ↓s1_r, ↓s1_i, ↓vR_r, ↓vR_n, ↓s0_n, s0_n, ↓oR_u, ↓sP_u, ↓sPa_0, ↓sPa_S, ↓lkC_c, ↓callK_u, ↓cQ_s, ↓cQ_n, putL, putW, clr, kil, catS, catN, refF, booF, finF, nF, nmOf_0, nmOf_1, nmOf_2, nmOf_3, nmOf_4, nmOf_5, nmOf_6, nmOf_50, nmOf_51, nmOf_52, ↓reduceIte, reduceIte, Bool.false_eq_true, eq_self, true_or, or_true, true_and, and_true, false_or, or_false, Nat.reduceAdd, Nat.reduceSub, Nat.reduceEqDiff, Nat.reduceLT, Nat.reduceLeDiff, reduceCtorEq, true_implies, List.length_cons, List.length_nil, List.replicate, List.cons_append, List.nil_append, mrt_X5_got, mhh_X5_got, mow_X5_got, mnl_X5_got, DX5_got_0, DX5_got_1, DX5_got_2, DX5_got_5, DX5_got_6, DX5_got_7, DX5_got_9, DX5_got_12, DX5_got_15, DX5_got_16, DX5_got_19, DX5_got_20, DX5_got_21, DX5_got_24, DX5_got_25, DX5_got_26, DX5_got_29, ce_X5_isIn, ↓ct_X5_isIn, ycl_X5_isIn, ce_X5_fail, ↓ct_X5_fail, ycl_X5_fail, cX_nil mhh_X5_got]
  simp (disch := omega) only [i32_lit, i32_neg, i32_add, i32_mul, i32_sub, i32_nI, i32_lt, i32_le, i32_eq, inR_i, i32_clamp, i32_div, i32_max, i32_min, ite_max, ite_min, b2i_0, b2i_1, b2i_01, i32_toInt, tn_i, Int.toNat_natCast, em_t, true_and, and_true, Int.reduceToNat, Int.reduceLE, Int.reduceLT, Int.reduceAdd, Int.reduceMul, Int.reduceSub, Int.reduceNeg, Int.reduceEq, true_implies, not_true_eq_false, false_implies, not_false_eq_true, hM, hk, fd, fe, fb, fl, a5, k5, l5, a6, k6, l6, a7, k7, l7, a8, k8, l8, a9, k9, l9, a10, k10, l10, a11, k11, l11, true_and, and_true, Option.some.injEq, exists_eq_left', nmOf_0, nmOf_1, nmOf_2, nmOf_3, nmOf_4, nmOf_5, nmOf_6, Nat.add_sub_cancel, Nat.reduceSub, Nat.reduceLT, Nat.reduceEqDiff, ne_eq, not_false_eq_true, hC]
  refine ⟨fun h1 => hf h1, fun h1 => ?_⟩
  have h1 := Classical.not_not.mp h1
  simp (disch := omega) only [i32_lit, i32_neg, i32_add, i32_mul, i32_sub, i32_nI, i32_lt, i32_le, i32_eq, inR_i, i32_clamp, i32_div, i32_max, i32_min, ite_max, ite_min, b2i_0, b2i_1, b2i_01, i32_toInt, tn_i, Int.toNat_natCast, em_t, true_and, and_true, Int.reduceToNat, Int.reduceLE, Int.reduceLT, Int.reduceAdd, Int.reduceMul, Int.reduceSub, Int.reduceNeg, Int.reduceEq, true_implies, not_true_eq_false, false_implies, not_false_eq_true, hM, hk, fd, fe, fb, fl, a5, k5, l5, a6, k6, l6, a7, k7, l7, a8, k8, l8, a9, k9, l9, a10, k10, l10, a11, k11, l11, true_and, and_true, Option.some.injEq, exists_eq_left', nmOf_0, nmOf_1, nmOf_2, nmOf_3, nmOf_4, nmOf_5, nmOf_6, Nat.add_sub_cancel, Nat.reduceSub, Nat.reduceLT, Nat.reduceEqDiff, ne_eq, not_false_eq_true, hC]
  repeat (refine ⟨by omega, ?_⟩)
  rw [hG oV.toNat (by omega)]
  exact hv h1
def ct_X5_paid (A : Nat → Nat) (S : SS) : Ct := fun As h Q _ => sR As fun m r => sI r fun o r => s0 r (MD h m A S ∧ MC h A S ∧ (0 ≤ o.toInt ∧ o.toInt ≤ 15 → Q (some (.int (i32 (S.pd (tn o))))) (t0 h m)) ∧ (¬ (0 ≤ o.toInt ∧ o.toInt ≤ 15) → Q (some (.int (i32 0))) (tX h m 1)))
def ce_X5_paid (A : Nat → Nat) (S : SS) : CE := (0, yX5_paid, MX5_paid, 1, 1, 0, 0, ct_X5_paid A S)
set_option maxRecDepth 100000 in
set_option maxHeartbeats 4000000 in
theorem ok_X5_paid (G : GT) (A : Nat → Nat) (S : SS) (hW : WF S) : OKm G yX5_paid MX5_paid 1 0 0 (ct_X5_paid A S) := by
  refine mkOK (ini := false) (by decide) rfl (by first | exact fun _ => rfl | (intro hh; cases hh)) (fun As h Q QX hc => ?_)
  replace hc := sR_e hc; obtain ⟨m, r, rfl, hc⟩ := hc
  replace hc := sI_e hc; obtain ⟨o, r, rfl, hc⟩ := hc
  replace hc := s0_e hc; obtain ⟨rfl, hc⟩ := hc
  obtain ⟨oV, hoV, rfl⟩ := i32_all o
  simp only [i32_toInt hoV, tn_i hoV] at hc
  obtain ⟨hM, hC, hv, hf⟩ := hc
  have hk := hM.1.1
  replace hM : MD (t0 h m) m A S := MD_s0 hM
  replace hC : MC (t0 h m) A S := hC
  refine ⟨Nat.le_of_ble_eq_true rfl, ?_⟩
  simp only [ent, entL, catN, List.length_cons, List.length_nil, List.replicate, List.cons_append, List.nil_append, reduceIte, Nat.reduceEqDiff,  Nat.reduceAdd, Nat.reduceSub, mnl_X5_paid]
  refine wpW (cs := [(39, ce_X5_isIn), (67, ce_X5_fail)]) (stop := [5]) (n := 200) (env_cons (ceS (by decide +kernel) ⟨by decide, by decide, by decide +kernel⟩ (by decide) (ok_X5_isIn G)) (env_cons (ceV (by decide +kernel) ⟨by decide, by decide, by decide +kernel⟩ (by decide) rfl (ok_X5_fail G)) (env_nil0 (env_hh rfl)))) ?_
  simp only [↓wpN_S, ↓step_u, ↓stC_s, stC_s, ↓stF_u, stF_u, ↓stepI, lenI, ↓kN_u, isS, ↓gI_0, ↓gI_S, ↓gL_0, ↓gL_S, ↓gD_0, ↓gD_S, ↓gR_0, ↓gR_S, ↓sI_c, ↓sL_c, ↓sD_c, ↓sR_c, ↓s1_r, ↓s1_i, ↓vR_r, ↓vR_n, ↓s0_n, s0_n, ↓oR_u, ↓sP_u, ↓sPa_0, ↓sPa_S, ↓lkC_c, ↓callK_u, ↓cQ_s, ↓cQ_n, putL, putW, clr, kil, catS, catN, refF, booF, finF, nF, nmOf_0, nmOf_1, nmOf_2, nmOf_3, nmOf_4, nmOf_5, nmOf_6, nmOf_50, nmOf_51, nmOf_52, ↓reduceIte, reduceIte, Bool.false_eq_true, eq_self, true_or, or_true, true_and, and_true, false_or, or_false, Nat.reduceAdd, Nat.reduceSub, Nat.reduceEqDiff, Nat.reduceLT, Nat.reduceLeDiff, reduceCtorEq, true_implies, List.length_cons, List.length_nil, List.replicate, List.cons_append, List.nil_append, mrt_X5_paid, mhh_X5_paid, mow_X5_paid, mnl_X5_paid, DX5_paid_0, DX5_paid_1, DX5_paid_2, DX5_paid_5, DX5_paid_6, DX5_paid_7, DX5_paid_9, DX5_paid_12, DX5_paid_15, DX5_paid_16, DX5_paid_19, DX5_paid_20, DX5_paid_21, DX5_paid_24, DX5_paid_25, DX5_paid_26, DX5_paid_29, ce_X5_isIn, ↓ct_X5_isIn, ycl_X5_isIn, ce_X5_fail, ↓ct_X5_fail, ycl_X5_fail, cX_nil mhh_X5_paid]
  simp only [hk, true_and, false_implies]
  unfold tX at hf
  change Wp G MX5_paid false 1 Q QX 5 _ [] (t0 h m) _
  generalize t0 h m = g at *
  clear hk
  have hnb := hW.1
  have hnl := hW.2.1
  have hM0 := hM
  obtain ⟨⟨hk, hA, hJ⟩, fd, fe, fb, fl, hB, hL, hN, hG, hP⟩ := hM0
  obtain ⟨a5, k5, l5⟩ := hA 5 (by omega) (by omega)
  obtain ⟨a6, k6, l6⟩ := hA 6 (by omega) (by omega)
  obtain ⟨a7, k7, l7⟩ := hA 7 (by omega) (by omega)
  obtain ⟨a8, k8, l8⟩ := hA 8 (by omega) (by omega)
  obtain ⟨a9, k9, l9⟩ := hA 9 (by omega) (by omega)
  obtain ⟨a10, k10, l10⟩ := hA 10 (by omega) (by omega)
  obtain ⟨a11, k11, l11⟩ := hA 11 (by omega) (by omega)
  simp only [mLen] at l5 l6 l7 l8 l9 l10 l11
  refine wpW (cs := [(39, ce_X5_isIn), (67, ce_X5_fail)]) (stop := [5]) (n := 200) (env_cons (ceS (by decide +kernel) ⟨by decide, by decide, by decide +kernel⟩ (by decide) (ok_X5_isIn G)) (env_cons (ceV (by decide +kernel) ⟨by decide, by decide, by decide +kernel⟩ (by decide) rfl (ok_X5_fail G)) (env_nil0 (env_hh rfl)))) ?_
  simp only [↓wpN_S, ↓step_u, ↓stC_s, stC_s, ↓stF_u, stF_u, ↓stepI, lenI, ↓kN_u, isS, ↓gI_0, ↓gI_S, ↓gL_0, ↓gL_S, ↓gD_0, ↓gD_S, ↓gR_0, ↓gR_S, ↓sI_c, ↓sL_c, ↓sD_c, ↓sR_c, ↓s1_r, ↓s1_i, ↓vR_r, ↓vR_n, ↓s0_n, s0_n, ↓oR_u, ↓sP_u, ↓sPa_0, ↓sPa_S, ↓lkC_c, ↓callK_u, ↓cQ_s, ↓cQ_n, putL, putW, clr, kil, catS, catN, refF, booF, finF, nF, nmOf_0, nmOf_1, nmOf_2, nmOf_3, nmOf_4, nmOf_5, nmOf_6, nmOf_50, nmOf_51, nmOf_52, ↓reduceIte, reduceIte, Bool.false_eq_true, eq_self, true_or, or_true, true_and, and_true, false_or, or_false, Nat.reduceAdd, Nat.reduceSub, Nat.reduceEqDiff, Nat.reduceLT, Nat.reduceLeDiff, reduceCtorEq, true_implies, List.length_cons, List.length_nil, List.replicate, List.cons_append, List.nil_append, mrt_X5_paid, mhh_X5_paid, mow_X5_paid, mnl_X5_paid, DX5_paid_0, DX5_paid_1, DX5_paid_2, DX5_paid_5, DX5_paid_6, DX5_paid_7, DX5_paid_9, DX5_paid_12, DX5_paid_15, DX5_paid_16, DX5_paid_19, DX5_paid_20, DX5_paid_21, DX5_paid_24, DX5_paid_25, DX5_paid_26, DX5_paid_29, ce_X5_isIn, ↓ct_X5_isIn, ycl_X5_isIn, ce_X5_fail, ↓ct_X5_fail, ycl_X5_fail, cX_nil mhh_X5_paid]
  simp (disch := omega) only [i32_lit, i32_neg, i32_add, i32_mul, i32_sub, i32_nI, i32_lt, i32_le, i32_eq, inR_i, i32_clamp, i32_div, i32_max, i32_min, ite_max, ite_min, b2i_0, b2i_1, b2i_01, i32_toInt, tn_i, Int.toNat_natCast, em_t, true_and, and_true, Int.reduceToNat, Int.reduceLE, Int.reduceLT, Int.reduceAdd, Int.reduceMul, Int.reduceSub, Int.reduceNeg, Int.reduceEq, true_implies, not_true_eq_false, false_implies, not_false_eq_true, hM, hk, fd, fe, fb, fl, a5, k5, l5, a6, k6, l6, a7, k7, l7, a8, k8, l8, a9, k9, l9, a10, k10, l10, a11, k11, l11, true_and, and_true, Option.some.injEq, exists_eq_left', nmOf_0, nmOf_1, nmOf_2, nmOf_3, nmOf_4, nmOf_5, nmOf_6, Nat.add_sub_cancel, Nat.reduceSub, Nat.reduceLT, Nat.reduceEqDiff, ne_eq, not_false_eq_true, hC]
  refine ⟨fun h1 => hf h1, fun h1 => ?_⟩
  have h1 := Classical.not_not.mp h1
  simp (disch := omega) only [i32_lit, i32_neg, i32_add, i32_mul, i32_sub, i32_nI, i32_lt, i32_le, i32_eq, inR_i, i32_clamp, i32_div, i32_max, i32_min, ite_max, ite_min, b2i_0, b2i_1, b2i_01, i32_toInt, tn_i, Int.toNat_natCast, em_t, true_and, and_true, Int.reduceToNat, Int.reduceLE, Int.reduceLT, Int.reduceAdd, Int.reduceMul, Int.reduceSub, Int.reduceNeg, Int.reduceEq, true_implies, not_true_eq_false, false_implies, not_false_eq_true, hM, hk, fd, fe, fb, fl, a5, k5, l5, a6, k6, l6, a7, k7, l7, a8, k8, l8, a9, k9, l9, a10, k10, l10, a11, k11, l11, true_and, and_true, Option.some.injEq, exists_eq_left', nmOf_0, nmOf_1, nmOf_2, nmOf_3, nmOf_4, nmOf_5, nmOf_6, Nat.add_sub_cancel, Nat.reduceSub, Nat.reduceLT, Nat.reduceEqDiff, ne_eq, not_false_eq_true, hC]
  repeat (refine ⟨by omega, ?_⟩)
  rw [hP oV.toNat (by omega)]
  exact hv h1
