/-! ===== the reference: end, setPrice ===== -/
theorem WF_uL {S : SS} {l k : Nat} {v : Int} (hW : WF S) (h : WL (S.uL l k v)) : WF (S.uL l k v) := by
  obtain ⟨a1, a2, a3, a4, a5, a6, a7, a8⟩ := hW
  exact ⟨a1, a2, a3, h, a5, a6, a7, a8⟩
theorem WL_uL {S : SS} {l k : Nat} {v : Int} (hW : WL S) (h : (k = 6 ∧ (v = 0 ∨ v = 1)) ∨ (k = 5 ∧ 1 ≤ v ∧ v ≤ 99) ∨ (k = 7 ∧ 0 ≤ v ∧ v ≤ 2) ∨ k = 8) : WL (S.uL l k v) := by
  intro i hi
  obtain ⟨w0, w0', w1, w1', w2, w2', w3, w4, w4', w5, w5', w6, w7, w7'⟩ := hW i hi
  have e : ∀ q, (S.uL l k v).lf i q = if i = l ∧ q = k then v else S.lf i q := fun q => rfl
  have e2 : (S.uL l k v).nb = S.nb := rfl
  clear hi
  simp only [e, e2]
  by_cases z : i = l
  · rcases h with ⟨rfl, h⟩ | ⟨rfl, h⟩ | ⟨rfl, h⟩ | rfl <;> subst z <;> simp <;> omega
  · simp only [z, false_and, if_false]
    exact ⟨w0, w0', w1, w1', w2, w2', w3, w4, w4', w5, w5', w6, w7, w7'⟩
theorem lf_uL {S : SS} {l k i q : Nat} {v : Int} : (S.uL l k v).lf i q = if i = l ∧ q = k then v else S.lf i q := rfl
def ct_X5_end (A : Nat → Nat) (S : SS) : Ct := fun As h Q _ => sR As fun m r => sI r fun l r => s0 r (MD h m A S ∧ MC h A S ∧ ((0 ≤ l.toInt ∧ l.toInt < S.nl) ∧ S.lf (tn l) 6 ≠ 0 → Q (some (.int (i32 (S.lf (tn l) 7)))) (setIA (t0 h m) (A 6) (9 * tn l + 6) (i32 0))) ∧ (¬ ((0 ≤ l.toInt ∧ l.toInt < S.nl) ∧ S.lf (tn l) 6 ≠ 0) → Q (some (.int (i32 0))) (tX h m 1)))
def ce_X5_end (A : Nat → Nat) (S : SS) : CE := (0, yX5_end, MX5_end, 1, 2, 0, 0, ct_X5_end A S)
set_option maxRecDepth 100000 in
set_option maxHeartbeats 4000000 in
theorem tl_X5_end (G : GT) {A : Nat → Nat} {S : SS} (hW : WF S) {h : Hp} {m l : Nat} {Q : Option Value → Hp → Prop} {QX : String → Hp → Prop} (hl : l < S.nl) (hM : MD h m A S) (hq : Q (some (.int (i32 (S.lf l 7)))) h) :
    Wp G MX5_end false 2 Q QX 37 [some (.ref m), some (.int (i32 l))] [] h (0, 0) := by
  have hnl := hW.2.1
  have hM0 := hM
  obtain ⟨⟨hk, hA, hJ⟩, fd, fe, fb, fl, hB, hL, hN, hG, hP⟩ := hM0
  obtain ⟨a5, k5, l5⟩ := hA 5 (by omega) (by omega)
  obtain ⟨a6, k6, l6⟩ := hA 6 (by omega) (by omega)
  obtain ⟨a7, k7, l7⟩ := hA 7 (by omega) (by omega)
  obtain ⟨a8, k8, l8⟩ := hA 8 (by omega) (by omega)
  obtain ⟨a9, k9, l9⟩ := hA 9 (by omega) (by omega)
  obtain ⟨a10, k10, l10⟩ := hA 10 (by omega) (by omega)
  obtain ⟨a11, k11, l11⟩ := hA 11 (by omega) (by omega)
  simp only [mLen] at l5 l6 l7 l8 l9 l10 l11
  refine wpW (cs := [(135, ce_X5_isLease A S), (86, ce_X5_get A S), (67, ce_X5_fail), (89, ce_X5_set A S)]) (stop := [5]) (n := 200) (env_cons (ceV (by decide +kernel) ⟨by decide, by decide, by decide +kernel⟩ (by decide) rfl (ok_X5_isLease G A S hW)) (env_cons (ceV (by decide +kernel) ⟨by decide, by decide, by decide +kernel⟩ (by decide) rfl (ok_X5_get G A S hW)) (env_cons (ceV (by decide +kernel) ⟨by decide, by decide, by decide +kernel⟩ (by decide) rfl (ok_X5_fail G)) (env_cons (ceV (by decide +kernel) ⟨by decide, by decide, by decide +kernel⟩ (by decide) rfl (ok_X5_set G A S hW)) (env_nil0 (env_hh rfl)))))) ?_
  simp only [↓wpN_S, ↓step_u, ↓stC_s, stC_s, ↓stF_u, stF_u, ↓stepI, lenI, ↓kN_u, isS, ↓gI_0, ↓gI_S, ↓gL_0, ↓gL_S, ↓gD_0, ↓gD_S, ↓gR_0, ↓gR_S, ↓sI_c, ↓sL_c, ↓sD_c, ↓sR_c, ↓s1_r, ↓s1_i, ↓vR_r, ↓vR_n, ↓s0_n, s0_n, ↓oR_u, ↓sP_u, ↓sPa_0, ↓sPa_S, ↓lkC_c, ↓callK_u, ↓cQ_s, ↓cQ_n, putL, putW, clr, kil, catS, catN, refF, booF, finF, nF, nmOf_0, nmOf_1, nmOf_2, nmOf_3, nmOf_4, nmOf_5, nmOf_6, nmOf_50, nmOf_51, nmOf_52, ↓reduceIte, reduceIte, Bool.false_eq_true, eq_self, true_or, or_true, true_and, and_true, false_or, or_false, Nat.reduceAdd, Nat.reduceSub, Nat.reduceEqDiff, Nat.reduceLT, Nat.reduceLeDiff, reduceCtorEq, true_implies, List.length_cons, List.length_nil, List.replicate, List.cons_append, List.nil_append, mrt_X5_end, mhh_X5_end, mow_X5_end, mnl_X5_end, DX5_end_0, DX5_end_1, DX5_end_2, DX5_end_5, DX5_end_6, DX5_end_7, DX5_end_10, DX5_end_13, DX5_end_14, DX5_end_15, DX5_end_17, DX5_end_20, DX5_end_23, DX5_end_24, DX5_end_25, DX5_end_28, DX5_end_29, DX5_end_30, DX5_end_31, DX5_end_33, DX5_end_34, DX5_end_37, DX5_end_38, DX5_end_39, DX5_end_41, DX5_end_44, ce_X5_isLease, ↓ct_X5_isLease, ycl_X5_isLease, ce_X5_get, ↓ct_X5_get, ycl_X5_get, ce_X5_fail, ↓ct_X5_fail, ycl_X5_fail, ce_X5_set, ↓ct_X5_set, ycl_X5_set, cX_nil mhh_X5_end]
  simp (disch := omega) only [i32_lit, i32_neg, i32_add, i32_mul, i32_sub, i32_nI, i32_lt, i32_le, i32_eq, inR_i, i32_clamp, i32_div, i32_max, i32_min, ite_max, ite_min, b2i_0, b2i_1, b2i_01, i32_toInt, tn_i, Int.toNat_natCast, em_t, true_and, and_true, Int.reduceToNat, Int.reduceLE, Int.reduceLT, Int.reduceAdd, Int.reduceMul, Int.reduceSub, Int.reduceNeg, Int.reduceEq, true_implies, not_true_eq_false, false_implies, not_false_eq_true, hM, hk, fd, fe, fb, fl, a5, k5, l5, a6, k6, l6, a7, k7, l7, a8, k8, l8, a9, k9, l9, a10, k10, l10, a11, k11, l11, true_and, and_true, Option.some.injEq, exists_eq_left', nmOf_0, nmOf_1, nmOf_2, nmOf_3, nmOf_4, nmOf_5, nmOf_6, Nat.add_sub_cancel, Nat.reduceSub, Nat.reduceLT, Nat.reduceEqDiff, ne_eq, not_false_eq_true]
  exact ⟨by omega, hq⟩
set_option maxRecDepth 100000 in
set_option maxHeartbeats 4000000 in
theorem ok_X5_end (G : GT) (A : Nat → Nat) (S : SS) (hW : WF S) : OKm G yX5_end MX5_end 2 0 0 (ct_X5_end A S) := by
  refine mkOK (ini := false) (by decide) rfl (by first | exact fun _ => rfl | (intro hh; cases hh)) (fun As h Q QX hc => ?_)
  replace hc := sR_e hc; obtain ⟨m, r, rfl, hc⟩ := hc
  replace hc := sI_e hc; obtain ⟨l, r, rfl, hc⟩ := hc
  replace hc := s0_e hc; obtain ⟨rfl, hc⟩ := hc
  obtain ⟨lV, hlV, rfl⟩ := i32_all l
  simp only [i32_toInt hlV, tn_i hlV] at hc
  obtain ⟨hM, hC, hv, hf⟩ := hc
  have hk := hM.1.1
  replace hM : MD (t0 h m) m A S := MD_s0 hM
  replace hC : MC (t0 h m) A S := hC
  refine ⟨Nat.le_of_ble_eq_true rfl, ?_⟩
  simp only [ent, entL, catN, List.length_cons, List.length_nil, List.replicate, List.cons_append, List.nil_append, reduceIte, Nat.reduceEqDiff,  Nat.reduceAdd, Nat.reduceSub, mnl_X5_end]
  refine wpW (cs := [(135, ce_X5_isLease A S), (86, ce_X5_get A S), (67, ce_X5_fail), (89, ce_X5_set A S)]) (stop := [5]) (n := 200) (env_cons (ceV (by decide +kernel) ⟨by decide, by decide, by decide +kernel⟩ (by decide) rfl (ok_X5_isLease G A S hW)) (env_cons (ceV (by decide +kernel) ⟨by decide, by decide, by decide +kernel⟩ (by decide) rfl (ok_X5_get G A S hW)) (env_cons (ceV (by decide +kernel) ⟨by decide, by decide, by decide +kernel⟩ (by decide) rfl (ok_X5_fail G)) (env_cons (ceV (by decide +kernel) ⟨by decide, by decide, by decide +kernel⟩ (by decide) rfl (ok_X5_set G A S hW)) (env_nil0 (env_hh rfl)))))) ?_
  simp only [↓wpN_S, ↓step_u, ↓stC_s, stC_s, ↓stF_u, stF_u, ↓stepI, lenI, ↓kN_u, isS, ↓gI_0, ↓gI_S, ↓gL_0, ↓gL_S, ↓gD_0, ↓gD_S, ↓gR_0, ↓gR_S, ↓sI_c, ↓sL_c, ↓sD_c, ↓sR_c, ↓s1_r, ↓s1_i, ↓vR_r, ↓vR_n, ↓s0_n, s0_n, ↓oR_u, ↓sP_u, ↓sPa_0, ↓sPa_S, ↓lkC_c, ↓callK_u, ↓cQ_s, ↓cQ_n, putL, putW, clr, kil, catS, catN, refF, booF, finF, nF, nmOf_0, nmOf_1, nmOf_2, nmOf_3, nmOf_4, nmOf_5, nmOf_6, nmOf_50, nmOf_51, nmOf_52, ↓reduceIte, reduceIte, Bool.false_eq_true, eq_self, true_or, or_true, true_and, and_true, false_or, or_false, Nat.reduceAdd, Nat.reduceSub, Nat.reduceEqDiff, Nat.reduceLT, Nat.reduceLeDiff, reduceCtorEq, true_implies, List.length_cons, List.length_nil, List.replicate, List.cons_append, List.nil_append, mrt_X5_end, mhh_X5_end, mow_X5_end, mnl_X5_end, DX5_end_0, DX5_end_1, DX5_end_2, DX5_end_5, DX5_end_6, DX5_end_7, DX5_end_10, DX5_end_13, DX5_end_14, DX5_end_15, DX5_end_17, DX5_end_20, DX5_end_23, DX5_end_24, DX5_end_25, DX5_end_28, DX5_end_29, DX5_end_30, DX5_end_31, DX5_end_33, DX5_end_34, DX5_end_37, DX5_end_38, DX5_end_39, DX5_end_41, DX5_end_44, ce_X5_isLease, ↓ct_X5_isLease, ycl_X5_isLease, ce_X5_get, ↓ct_X5_get, ycl_X5_get, ce_X5_fail, ↓ct_X5_fail, ycl_X5_fail, ce_X5_set, ↓ct_X5_set, ycl_X5_set, cX_nil mhh_X5_end]
  simp only [hk, true_and, false_implies]
  unfold tX at hf
  change Wp G MX5_end false 2 Q QX 5 _ [] (t0 h m) _
  generalize t0 h m = g at *
  clear hk
  have hnb := hW.1
  have hnl := hW.2.1
  have hM0 := hM
  obtain ⟨⟨hk, hA, hJ⟩, fd, fe, fb, fl, hB, hL, hN, hG, hP⟩ := hM0
  obtain ⟨a5, k5, l5⟩ := hA 5 (by omega) (by omega)
  obtain ⟨a6, k6, l6⟩ := hA 6 (by omega) (by omega)
  obtain ⟨a7, k7, l7⟩ := hA 7 (by omega) (by omega)
  obtain ⟨a8, k8, l8⟩ := hA 8 (by omega) (by omega)
  obtain ⟨a9, k9, l9⟩ := hA 9 (by omega) (by omega)
  obtain ⟨a10, k10, l10⟩ := hA 10 (by omega) (by omega)
  obtain ⟨a11, k11, l11⟩ := hA 11 (by omega) (by omega)
  simp only [mLen] at l5 l6 l7 l8 l9 l10 l11
  refine wpW (cs := [(135, ce_X5_isLease A S), (86, ce_X5_get A S), (67, ce_X5_fail), (89, ce_X5_set A S)]) (stop := [5, 37]) (n := 200) (env_cons (ceV (by decide +kernel) ⟨by decide, by decide, by decide +kernel⟩ (by decide) rfl (ok_X5_isLease G A S hW)) (env_cons (ceV (by decide +kernel) ⟨by decide, by decide, by decide +kernel⟩ (by decide) rfl (ok_X5_get G A S hW)) (env_cons (ceV (by decide +kernel) ⟨by decide, by decide, by decide +kernel⟩ (by decide) rfl (ok_X5_fail G)) (env_cons (ceV (by decide +kernel) ⟨by decide, by decide, by decide +kernel⟩ (by decide) rfl (ok_X5_set G A S hW)) (env_nil0 (env_hh rfl)))))) ?_
  simp only [↓wpN_S, ↓step_u, ↓stC_s, stC_s, ↓stF_u, stF_u, ↓stepI, lenI, ↓kN_u, isS, ↓gI_0, ↓gI_S, ↓gL_0, ↓gL_S, ↓gD_0, ↓gD_S, ↓gR_0, ↓gR_S, ↓sI_c, ↓sL_c, ↓sD_c, ↓sR_c, ↓s1_r, ↓s1_i, ↓vR_r, ↓vR_n, ↓s0_n, s0_n, ↓oR_u, ↓sP_u, ↓sPa_0, ↓sPa_S, ↓lkC_c, ↓callK_u, ↓cQ_s, ↓cQ_n, putL, putW, clr, kil, catS, catN, refF, booF, finF, nF, nmOf_0, nmOf_1, nmOf_2, nmOf_3, nmOf_4, nmOf_5, nmOf_6, nmOf_50, nmOf_51, nmOf_52, ↓reduceIte, reduceIte, Bool.false_eq_true, eq_self, true_or, or_true, true_and, and_true, false_or, or_false, Nat.reduceAdd, Nat.reduceSub, Nat.reduceEqDiff, Nat.reduceLT, Nat.reduceLeDiff, reduceCtorEq, true_implies, List.length_cons, List.length_nil, List.replicate, List.cons_append, List.nil_append, mrt_X5_end, mhh_X5_end, mow_X5_end, mnl_X5_end, DX5_end_0, DX5_end_1, DX5_end_2, DX5_end_5, DX5_end_6, DX5_end_7, DX5_end_10, DX5_end_13, DX5_end_14, DX5_end_15, DX5_end_17, DX5_end_20, DX5_end_23, DX5_end_24, DX5_end_25, DX5_end_28, DX5_end_29, DX5_end_30, DX5_end_31, DX5_end_33, DX5_end_34, DX5_end_37, DX5_end_38, DX5_end_39, DX5_end_41, DX5_end_44, ce_X5_isLease, ↓ct_X5_isLease, ycl_X5_isLease, ce_X5_get, ↓ct_X5_get, ycl_X5_get, ce_X5_fail, ↓ct_X5_fail, ycl_X5_fail, ce_X5_set, ↓ct_X5_set, ycl_X5_set, cX_nil mhh_X5_end]
  simp (disch := omega) only [i32_lit, i32_neg, i32_add, i32_mul, i32_sub, i32_nI, i32_lt, i32_le, i32_eq, inR_i, i32_clamp, i32_div, i32_max, i32_min, ite_max, ite_min, b2i_0, b2i_1, b2i_01, i32_toInt, tn_i, Int.toNat_natCast, em_t, true_and, and_true, Int.reduceToNat, Int.reduceLE, Int.reduceLT, Int.reduceAdd, Int.reduceMul, Int.reduceSub, Int.reduceNeg, Int.reduceEq, true_implies, not_true_eq_false, false_implies, not_false_eq_true, hM, hk, fd, fe, fb, fl, a5, k5, l5, a6, k6, l6, a7, k7, l7, a8, k8, l8, a9, k9, l9, a10, k10, l10, a11, k11, l11, true_and, and_true, Option.some.injEq, exists_eq_left', nmOf_0, nmOf_1, nmOf_2, nmOf_3, nmOf_4, nmOf_5, nmOf_6, Nat.add_sub_cancel, Nat.reduceSub, Nat.reduceLT, Nat.reduceEqDiff, ne_eq, not_false_eq_true, hC]
  refine ⟨fun h1 => hf (fun q => h1 q.1), fun h1 => ?_⟩
  obtain ⟨ln', rfl⟩ := Int.eq_ofNat_of_zero_le (Classical.not_not.mp h1).1
  have hl : ln' < S.nl := by omega
  have hWL := hW.2.2.2.1
  obtain ⟨w0, w0', w1, w1', w2, w2', w3, w4, w4', w5, w5', w6, w7, w7'⟩ := hWL ln' hl
  simp only [Int.toNat_natCast] at hv hf ⊢
  refine ⟨by omega, fun h2 => ⟨by omega, ?_⟩, fun h2 => hf (fun q => q.2 ?_)⟩
  · have hz : S.lf ln' 6 ≠ 0 := fun z => h2 (by rw [z])
    exact tl_X5_end (A := A) (Q := Q) (QX := QX) G (S := S.uL ln' 6 0) (WF_uL hW (WL_uL hWL (Or.inl ⟨rfl, Or.inl rfl⟩))) hl (MD_uL hM (by omega)) (by rw [lf_uL, if_neg (by omega)]; exact hv ⟨by omega, hz⟩)
  · rw [i32_eq (by omega) (by omega)] at h2
    exact h2
def ct_X5_setPrice (A : Nat → Nat) (S : SS) : Ct := fun As h Q _ => sR As fun m r => sI r fun l r => sI r fun p r => s0 r (MD h m A S ∧ MC h A S ∧ (((0 ≤ l.toInt ∧ l.toInt < S.nl) ∧ S.lf (tn l) 6 ≠ 0) ∧ (1 ≤ p.toInt ∧ p.toInt ≤ 99) → Q (some (.int (i32 (S.lf (tn l) 5)))) (setIA (t0 h m) (A 6) (9 * tn l + 5) p)) ∧ (¬ ((0 ≤ l.toInt ∧ l.toInt < S.nl) ∧ S.lf (tn l) 6 ≠ 0) → Q (some (.int (i32 0))) (tX h m 1)) ∧ (((0 ≤ l.toInt ∧ l.toInt < S.nl) ∧ S.lf (tn l) 6 ≠ 0) ∧ ¬ (1 ≤ p.toInt ∧ p.toInt ≤ 99) → Q (some (.int (i32 0))) (tX h m 2)))
def ce_X5_setPrice (A : Nat → Nat) (S : SS) : CE := (0, yX5_setPrice, MX5_setPrice, 2, 2, 0, 0, ct_X5_setPrice A S)
set_option maxRecDepth 100000 in
set_option maxHeartbeats 4000000 in
theorem ok_X5_setPrice (G : GT) (A : Nat → Nat) (S : SS) (hW : WF S) : OKm G yX5_setPrice MX5_setPrice 2 0 0 (ct_X5_setPrice A S) := by
  refine mkOK (ini := false) (by decide) rfl (by first | exact fun _ => rfl | (intro hh; cases hh)) (fun As h Q QX hc => ?_)
  replace hc := sR_e hc; obtain ⟨m, r, rfl, hc⟩ := hc
  replace hc := sI_e hc; obtain ⟨l, r, rfl, hc⟩ := hc
  replace hc := sI_e hc; obtain ⟨p, r, rfl, hc⟩ := hc
  replace hc := s0_e hc; obtain ⟨rfl, hc⟩ := hc
  obtain ⟨lV, hlV, rfl⟩ := i32_all l
  obtain ⟨pV, hpV, rfl⟩ := i32_all p
  simp only [i32_toInt hlV, tn_i hlV, i32_toInt hpV] at hc
  obtain ⟨hM, hC, hv, hf⟩ := hc
  have hk := hM.1.1
  replace hM : MD (t0 h m) m A S := MD_s0 hM
  replace hC : MC (t0 h m) A S := hC
  refine ⟨Nat.le_of_ble_eq_true rfl, ?_⟩
  simp only [ent, entL, catN, List.length_cons, List.length_nil, List.replicate, List.cons_append, List.nil_append, reduceIte, Nat.reduceEqDiff,  Nat.reduceAdd, Nat.reduceSub, mnl_X5_setPrice]
  refine wpW (cs := [(135, ce_X5_isLease A S), (86, ce_X5_get A S), (67, ce_X5_fail), (39, ce_X5_isIn), (89, ce_X5_set A S)]) (stop := [5]) (n := 200) (env_cons (ceV (by decide +kernel) ⟨by decide, by decide, by decide +kernel⟩ (by decide) rfl (ok_X5_isLease G A S hW)) (env_cons (ceV (by decide +kernel) ⟨by decide, by decide, by decide +kernel⟩ (by decide) rfl (ok_X5_get G A S hW)) (env_cons (ceV (by decide +kernel) ⟨by decide, by decide, by decide +kernel⟩ (by decide) rfl (ok_X5_fail G)) (env_cons (ceS (by decide +kernel) ⟨by decide, by decide, by decide +kernel⟩ (by decide) (ok_X5_isIn G)) (env_cons (ceV (by decide +kernel) ⟨by decide, by decide, by decide +kernel⟩ (by decide) rfl (ok_X5_set G A S hW)) (env_nil0 (env_hh rfl))))))) ?_
  simp only [↓wpN_S, ↓step_u, ↓stC_s, stC_s, ↓stF_u, stF_u, ↓stepI, lenI, ↓kN_u, isS, ↓gI_0, ↓gI_S, ↓gL_0, ↓gL_S, ↓gD_0, ↓gD_S, ↓gR_0, ↓gR_S, ↓sI_c, ↓sL_c, ↓sD_c, ↓sR_c, ↓s1_r, ↓s1_i, ↓vR_r, ↓vR_n, ↓s0_n, s0_n, ↓oR_u, ↓sP_u, ↓sPa_0, ↓sPa_S, ↓lkC_c, ↓callK_u, ↓cQ_s, ↓cQ_n, putL, putW, clr, kil, catS, catN, refF, booF, finF, nF, nmOf_0, nmOf_1, nmOf_2, nmOf_3, nmOf_4, nmOf_5, nmOf_6, nmOf_50, nmOf_51, nmOf_52, ↓reduceIte, reduceIte, Bool.false_eq_true, eq_self, true_or, or_true, true_and, and_true, false_or, or_false, Nat.reduceAdd, Nat.reduceSub, Nat.reduceEqDiff, Nat.reduceLT, Nat.reduceLeDiff, reduceCtorEq, true_implies, List.length_cons, List.length_nil, List.replicate, List.cons_append, List.nil_append, mrt_X5_setPrice, mhh_X5_setPrice, mow_X5_setPrice, mnl_X5_setPrice, DX5_setPrice_0, DX5_setPrice_1, DX5_setPrice_2, DX5_setPrice_5, DX5_setPrice_6, DX5_setPrice_7, DX5_setPrice_10, DX5_setPrice_13, DX5_setPrice_14, DX5_setPrice_15, DX5_setPrice_17, DX5_setPrice_20, DX5_setPrice_23, DX5_setPrice_24, DX5_setPrice_25, DX5_setPrice_28, DX5_setPrice_29, DX5_setPrice_30, DX5_setPrice_31, DX5_setPrice_33, DX5_setPrice_36, DX5_setPrice_39, DX5_setPrice_40, DX5_setPrice_41, DX5_setPrice_44, DX5_setPrice_45, DX5_setPrice_46, DX5_setPrice_47, DX5_setPrice_48, DX5_setPrice_51, DX5_setPrice_52, DX5_setPrice_53, DX5_setPrice_54, DX5_setPrice_55, DX5_setPrice_56, DX5_setPrice_59, DX5_setPrice_60, ce_X5_isLease, ↓ct_X5_isLease, ycl_X5_isLease, ce_X5_get, ↓ct_X5_get, ycl_X5_get, ce_X5_fail, ↓ct_X5_fail, ycl_X5_fail, ce_X5_isIn, ↓ct_X5_isIn, ycl_X5_isIn, ce_X5_set, ↓ct_X5_set, ycl_X5_set, cX_nil mhh_X5_setPrice]
  simp only [hk, true_and, false_implies]
  unfold tX at hf
  change Wp G MX5_setPrice false 2 Q QX 5 _ [] (t0 h m) _
  generalize t0 h m = g at *
  clear hk
  have hnb := hW.1
  have hnl := hW.2.1
  have hM0 := hM
  obtain ⟨⟨hk, hA, hJ⟩, fd, fe, fb, fl, hB, hL, hN, hG, hP⟩ := hM0
  obtain ⟨a5, k5, l5⟩ := hA 5 (by omega) (by omega)
  obtain ⟨a6, k6, l6⟩ := hA 6 (by omega) (by omega)
  obtain ⟨a7, k7, l7⟩ := hA 7 (by omega) (by omega)
  obtain ⟨a8, k8, l8⟩ := hA 8 (by omega) (by omega)
  obtain ⟨a9, k9, l9⟩ := hA 9 (by omega) (by omega)
  obtain ⟨a10, k10, l10⟩ := hA 10 (by omega) (by omega)
  obtain ⟨a11, k11, l11⟩ := hA 11 (by omega) (by omega)
  simp only [mLen] at l5 l6 l7 l8 l9 l10 l11
  refine wpW (cs := [(135, ce_X5_isLease A S), (86, ce_X5_get A S), (67, ce_X5_fail), (39, ce_X5_isIn), (89, ce_X5_set A S)]) (stop := [5]) (n := 200) (env_cons (ceV (by decide +kernel) ⟨by decide, by decide, by decide +kernel⟩ (by decide) rfl (ok_X5_isLease G A S hW)) (env_cons (ceV (by decide +kernel) ⟨by decide, by decide, by decide +kernel⟩ (by decide) rfl (ok_X5_get G A S hW)) (env_cons (ceV (by decide +kernel) ⟨by decide, by decide, by decide +kernel⟩ (by decide) rfl (ok_X5_fail G)) (env_cons (ceS (by decide +kernel) ⟨by decide, by decide, by decide +kernel⟩ (by decide) (ok_X5_isIn G)) (env_cons (ceV (by decide +kernel) ⟨by decide, by decide, by decide +kernel⟩ (by decide) rfl (ok_X5_set G A S hW)) (env_nil0 (env_hh rfl))))))) ?_
  simp only [↓wpN_S, ↓step_u, ↓stC_s, stC_s, ↓stF_u, stF_u, ↓stepI, lenI, ↓kN_u, isS, ↓gI_0, ↓gI_S, ↓gL_0, ↓gL_S, ↓gD_0, ↓gD_S, ↓gR_0, ↓gR_S, ↓sI_c, ↓sL_c, ↓sD_c, ↓sR_c, ↓s1_r, ↓s1_i, ↓vR_r, ↓vR_n, ↓s0_n, s0_n, ↓oR_u, ↓sP_u, ↓sPa_0, ↓sPa_S, ↓lkC_c, ↓callK_u, ↓cQ_s, ↓cQ_n, putL, putW, clr, kil, catS, catN, refF, booF, finF, nF, nmOf_0, nmOf_1, nmOf_2, nmOf_3, nmOf_4, nmOf_5, nmOf_6, nmOf_50, nmOf_51, nmOf_52, ↓reduceIte, reduceIte, Bool.false_eq_true, eq_self, true_or, or_true, true_and, and_true, false_or, or_false, Nat.reduceAdd, Nat.reduceSub, Nat.reduceEqDiff, Nat.reduceLT, Nat.reduceLeDiff, reduceCtorEq, true_implies, List.length_cons, List.length_nil, List.replicate, List.cons_append, List.nil_append, mrt_X5_setPrice, mhh_X5_setPrice, mow_X5_setPrice, mnl_X5_setPrice, DX5_setPrice_0, DX5_setPrice_1, DX5_setPrice_2, DX5_setPrice_5, DX5_setPrice_6, DX5_setPrice_7, DX5_setPrice_10, DX5_setPrice_13, DX5_setPrice_14, DX5_setPrice_15, DX5_setPrice_17, DX5_setPrice_20, DX5_setPrice_23, DX5_setPrice_24, DX5_setPrice_25, DX5_setPrice_28, DX5_setPrice_29, DX5_setPrice_30, DX5_setPrice_31, DX5_setPrice_33, DX5_setPrice_36, DX5_setPrice_39, DX5_setPrice_40, DX5_setPrice_41, DX5_setPrice_44, DX5_setPrice_45, DX5_setPrice_46, DX5_setPrice_47, DX5_setPrice_48, DX5_setPrice_51, DX5_setPrice_52, DX5_setPrice_53, DX5_setPrice_54, DX5_setPrice_55, DX5_setPrice_56, DX5_setPrice_59, DX5_setPrice_60, ce_X5_isLease, ↓ct_X5_isLease, ycl_X5_isLease, ce_X5_get, ↓ct_X5_get, ycl_X5_get, ce_X5_fail, ↓ct_X5_fail, ycl_X5_fail, ce_X5_isIn, ↓ct_X5_isIn, ycl_X5_isIn, ce_X5_set, ↓ct_X5_set, ycl_X5_set, cX_nil mhh_X5_setPrice]
  simp (disch := omega) only [i32_lit, i32_neg, i32_add, i32_mul, i32_sub, i32_nI, i32_lt, i32_le, i32_eq, inR_i, i32_clamp, i32_div, i32_max, i32_min, ite_max, ite_min, b2i_0, b2i_1, b2i_01, i32_toInt, tn_i, Int.toNat_natCast, em_t, true_and, and_true, Int.reduceToNat, Int.reduceLE, Int.reduceLT, Int.reduceAdd, Int.reduceMul, Int.reduceSub, Int.reduceNeg, Int.reduceEq, true_implies, not_true_eq_false, false_implies, not_false_eq_true, hM, hk, fd, fe, fb, fl, a5, k5, l5, a6, k6, l6, a7, k7, l7, a8, k8, l8, a9, k9, l9, a10, k10, l10, a11, k11, l11, true_and, and_true, Option.some.injEq, exists_eq_left', nmOf_0, nmOf_1, nmOf_2, nmOf_3, nmOf_4, nmOf_5, nmOf_6, Nat.add_sub_cancel, Nat.reduceSub, Nat.reduceLT, Nat.reduceEqDiff, ne_eq, not_false_eq_true, hC]
  refine ⟨fun h1 => hf.1 (fun q => h1 q.1), fun h1 => ?_⟩
  obtain ⟨ln', rfl⟩ := Int.eq_ofNat_of_zero_le (Classical.not_not.mp h1).1
  have hl : ln' < S.nl := by omega
  obtain ⟨w0, w0', w1, w1', w2, w2', w3, w4, w4', w5, w5', w6, w7, w7'⟩ := hW.2.2.2.1 ln' hl
  simp only [Int.toNat_natCast] at hv hf ⊢
  refine ⟨by omega, fun h2 => ?_, fun h2 => hf.1 (fun q => q.2 ?_)⟩
  · have hz : S.lf ln' 6 ≠ 0 := fun z => h2 (by rw [z])
    refine ⟨fun h3 => ?_, fun h3 => ?_⟩
    · exact ⟨by omega, by omega, hv ⟨⟨by omega, hz⟩, by omega⟩⟩
    · exact hf.2 ⟨⟨by omega, hz⟩, by omega⟩
  · rw [i32_eq (by omega) (by omega)] at h2
    exact h2
