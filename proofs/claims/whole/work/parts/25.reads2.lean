/-! ===== the reference: wanted, free, getsOf, isShort, shortHours ===== -/
def ct_X5_wanted (A : Nat → Nat) (S : SS) : Ct := fun As h Q _ => sR As fun m r => sI r fun b r => sI r fun hr r => sI r fun p r => sI r fun n r => s0 r (MD h m A S ∧ (0 ≤ hr.toInt ∧ hr.toInt < 12) ∧ Q (some (.int (i32 (wnt S b.toInt (tn hr) p.toInt n.toInt)))) h)
def ce_X5_wanted (A : Nat → Nat) (S : SS) : CE := (0, yX5_wanted, MX5_wanted, 4, 2, 0, 0, ct_X5_wanted A S)
set_option maxRecDepth 100000 in
set_option maxHeartbeats 4000000 in
theorem lp_X5_wanted (G : GT) {A : Nat → Nat} {S : SS} (hW : WF S) {h : Hp} {m r : Nat} {bv pv nv : Int} {Q : Option Value → Hp → Prop} {QX : String → Hp → Prop} (hr : r < 12) (hbv : inB bv) (hpv : inB pv) (hnv : inB nv) (hM : MD h m A S) (hq : Q (some (.int (i32 (wnt S bv r pv nv)))) h) :
    ∀ k i : Nat, i + k = S.nl → Wp G MX5_wanted false 2 Q QX 6 [some (.ref m), some (.int (i32 bv)), some (.int (i32 r)), some (.int (i32 pv)), some (.int (i32 nv)), some (.int (i32 (sumN (fun l => if S.lf l 0 = bv ∧ hasH S l r = true ∧ (S.lf l 5 > pv ∨ S.lf l 5 = pv ∧ (l : Int) < nv) then S.lf l 4 else 0) i))), some (.int (i32 i))] [] h (0, 0) := by
  have hnb := hW.1
  have hnl := hW.2.1
  have hM0 := hM
  obtain ⟨⟨hk, hA, hJ⟩, fd, fe, fb, fl, hB, hL, hN, hG, hP⟩ := hM0
  obtain ⟨a5, k5, l5⟩ := hA 5 (by omega) (by omega)
  obtain ⟨a6, k6, l6⟩ := hA 6 (by omega) (by omega)
  obtain ⟨a7, k7, l7⟩ := hA 7 (by omega) (by omega)
  obtain ⟨a8, k8, l8⟩ := hA 8 (by omega) (by omega)
  obtain ⟨a9, k9, l9⟩ := hA 9 (by omega) (by omega)
  obtain ⟨a10, k10, l10⟩ := hA 10 (by omega) (by omega)
  obtain ⟨a11, k11, l11⟩ := hA 11 (by omega) (by omega)
  simp only [mLen] at l5 l6 l7 l8 l9 l10 l11
  intro k
  induction k with
  | zero =>
    intro i hi
    refine wpW (cs := [(86, ce_X5_get A S), (108, ce_X5_has A S)]) (stop := [6]) (n := 200) (env_cons (ceV (by decide +kernel) ⟨by decide, by decide, by decide +kernel⟩ (by decide) rfl (ok_X5_get G A S hW)) (env_cons (ceV (by decide +kernel) ⟨by decide, by decide, by decide +kernel⟩ (by decide) rfl (ok_X5_has G A S hW)) (env_nil0 (env_hh rfl)))) ?_
    simp only [↓wpN_S, ↓step_u, ↓stC_s, stC_s, ↓stF_u, stF_u, ↓stepI, lenI, ↓kN_u, isS, ↓gI_0, ↓gI_S, ↓gL_0, ↓gL_S, ↓gD_0, ↓gD_S, ↓gR_0, ↓gR_S, ↓sI_c, ↓sL_c, ↓sD_c, ↓sR_c, ↓s1_r, ↓s1_i, ↓vR_r, ↓vR_n, ↓s0_n, s0_n, ↓oR_u, ↓sP_u, ↓sPa_0, ↓sPa_S, ↓lkC_c, ↓callK_u, ↓cQ_s, ↓cQ_n, putL, putW, clr, kil, catS, catN, refF, booF, finF, nF, nmOf_0, nmOf_1, nmOf_2, nmOf_3, nmOf_4, nmOf_5, nmOf_6, nmOf_50, nmOf_51, nmOf_52, ↓reduceIte, reduceIte, Bool.false_eq_true, eq_self, true_or, or_true, true_and, and_true, false_or, or_false, Nat.reduceAdd, Nat.reduceSub, Nat.reduceEqDiff, Nat.reduceLT, Nat.reduceLeDiff, reduceCtorEq, true_implies, List.length_cons, List.length_nil, List.replicate, List.cons_append, List.nil_append, mrt_X5_wanted, mhh_X5_wanted, mow_X5_wanted, mnl_X5_wanted, DX5_wanted_0, DX5_wanted_1, DX5_wanted_3, DX5_wanted_4, DX5_wanted_6, DX5_wanted_8, DX5_wanted_9, DX5_wanted_12, DX5_wanted_15, DX5_wanted_16, DX5_wanted_18, DX5_wanted_19, DX5_wanted_22, DX5_wanted_23, DX5_wanted_26, DX5_wanted_27, DX5_wanted_29, DX5_wanted_30, DX5_wanted_33, DX5_wanted_36, DX5_wanted_37, DX5_wanted_39, DX5_wanted_40, DX5_wanted_43, DX5_wanted_44, DX5_wanted_47, DX5_wanted_48, DX5_wanted_50, DX5_wanted_51, DX5_wanted_54, DX5_wanted_55, DX5_wanted_58, DX5_wanted_60, DX5_wanted_62, DX5_wanted_65, DX5_wanted_67, DX5_wanted_68, DX5_wanted_70, DX5_wanted_71, DX5_wanted_74, DX5_wanted_75, DX5_wanted_77, DX5_wanted_80, DX5_wanted_83, DX5_wanted_85, ce_X5_get, ↓ct_X5_get, ycl_X5_get, ce_X5_has, ↓ct_X5_has, ycl_X5_has, cX_nil mhh_X5_wanted]
    simp (disch := omega) only [i32_lit, i32_neg, i32_add, i32_mul, i32_sub, i32_nI, i32_lt, i32_le, i32_eq, inR_i, i32_clamp, i32_div, i32_max, i32_min, ite_max, ite_min, b2i_0, b2i_1, b2i_01, i32_toInt, tn_i, Int.toNat_natCast, em_t, true_and, and_true, Int.reduceToNat, Int.reduceLE, Int.reduceLT, Int.reduceAdd, Int.reduceMul, Int.reduceSub, Int.reduceNeg, Int.reduceEq, true_implies, not_true_eq_false, false_implies, not_false_eq_true, hM, hk, fd, fe, fb, fl, a5, k5, l5, a6, k6, l6, a7, k7, l7, a8, k8, l8, a9, k9, l9, a10, k10, l10, a11, k11, l11, true_and, and_true, Option.some.injEq, exists_eq_left', nmOf_0, nmOf_1, nmOf_2, nmOf_3, nmOf_4, nmOf_5, nmOf_6, Nat.add_sub_cancel, Nat.reduceSub, Nat.reduceLT, Nat.reduceEqDiff, ne_eq, not_false_eq_true]
    refine ⟨fun _ => ?_, fun h2 => by omega⟩
    rw [show i = S.nl by omega]
    exact hq
  | succ k ih =>
    intro i hi
    have hs := ih (i + 1) (by omega)
    simp only [sumN] at hs
    obtain ⟨w0, w0', w1, w1', w2, w2', w3, w4, w4', w5, w5', w6, w7, w7'⟩ := hW.2.2.2.1 i (by omega)
    refine wpW (cs := [(86, ce_X5_get A S), (108, ce_X5_has A S)]) (stop := [6]) (n := 200) (env_cons (ceV (by decide +kernel) ⟨by decide, by decide, by decide +kernel⟩ (by decide) rfl (ok_X5_get G A S hW)) (env_cons (ceV (by decide +kernel) ⟨by decide, by decide, by decide +kernel⟩ (by decide) rfl (ok_X5_has G A S hW)) (env_nil0 (env_hh rfl)))) ?_
    simp only [↓wpN_S, ↓step_u, ↓stC_s, stC_s, ↓stF_u, stF_u, ↓stepI, lenI, ↓kN_u, isS, ↓gI_0, ↓gI_S, ↓gL_0, ↓gL_S, ↓gD_0, ↓gD_S, ↓gR_0, ↓gR_S, ↓sI_c, ↓sL_c, ↓sD_c, ↓sR_c, ↓s1_r, ↓s1_i, ↓vR_r, ↓vR_n, ↓s0_n, s0_n, ↓oR_u, ↓sP_u, ↓sPa_0, ↓sPa_S, ↓lkC_c, ↓callK_u, ↓cQ_s, ↓cQ_n, putL, putW, clr, kil, catS, catN, refF, booF, finF, nF, nmOf_0, nmOf_1, nmOf_2, nmOf_3, nmOf_4, nmOf_5, nmOf_6, nmOf_50, nmOf_51, nmOf_52, ↓reduceIte, reduceIte, Bool.false_eq_true, eq_self, true_or, or_true, true_and, and_true, false_or, or_false, Nat.reduceAdd, Nat.reduceSub, Nat.reduceEqDiff, Nat.reduceLT, Nat.reduceLeDiff, reduceCtorEq, true_implies, List.length_cons, List.length_nil, List.replicate, List.cons_append, List.nil_append, mrt_X5_wanted, mhh_X5_wanted, mow_X5_wanted, mnl_X5_wanted, DX5_wanted_0, DX5_wanted_1, DX5_wanted_3, DX5_wanted_4, DX5_wanted_6, DX5_wanted_8, DX5_wanted_9, DX5_wanted_12, DX5_wanted_15, DX5_wanted_16, DX5_wanted_18, DX5_wanted_19, DX5_wanted_22, DX5_wanted_23, DX5_wanted_26, DX5_wanted_27, DX5_wanted_29, DX5_wanted_30, DX5_wanted_33, DX5_wanted_36, DX5_wanted_37, DX5_wanted_39, DX5_wanted_40, DX5_wanted_43, DX5_wanted_44, DX5_wanted_47, DX5_wanted_48, DX5_wanted_50, DX5_wanted_51, DX5_wanted_54, DX5_wanted_55, DX5_wanted_58, DX5_wanted_60, DX5_wanted_62, DX5_wanted_65, DX5_wanted_67, DX5_wanted_68, DX5_wanted_70, DX5_wanted_71, DX5_wanted_74, DX5_wanted_75, DX5_wanted_77, DX5_wanted_80, DX5_wanted_83, DX5_wanted_85, ce_X5_get, ↓ct_X5_get, ycl_X5_get, ce_X5_has, ↓ct_X5_has, ycl_X5_has, cX_nil mhh_X5_wanted]
    simp (disch := omega) only [i32_lit, i32_neg, i32_add, i32_mul, i32_sub, i32_nI, i32_lt, i32_le, i32_eq, inR_i, i32_clamp, i32_div, i32_max, i32_min, ite_max, ite_min, b2i_0, b2i_1, b2i_01, i32_toInt, tn_i, Int.toNat_natCast, em_t, true_and, and_true, Int.reduceToNat, Int.reduceLE, Int.reduceLT, Int.reduceAdd, Int.reduceMul, Int.reduceSub, Int.reduceNeg, Int.reduceEq, true_implies, not_true_eq_false, false_implies, not_false_eq_true, hM, hk, fd, fe, fb, fl, a5, k5, l5, a6, k6, l6, a7, k7, l7, a8, k8, l8, a9, k9, l9, a10, k10, l10, a11, k11, l11, true_and, and_true, Option.some.injEq, exists_eq_left', nmOf_0, nmOf_1, nmOf_2, nmOf_3, nmOf_4, nmOf_5, nmOf_6, Nat.add_sub_cancel, Nat.reduceSub, Nat.reduceLT, Nat.reduceEqDiff, ne_eq, not_false_eq_true]
    refine ⟨fun h2 => by omega, fun h2 => ?_⟩
    repeat (refine ⟨by omega, ?_⟩)
    refine ⟨fun h3 => ?_, fun h3 => ?_⟩
    · rw [if_neg (fun q => h3 q.1), Int.add_zero] at hs; exact hs
    · repeat (refine ⟨by omega, ?_⟩)
      refine ⟨fun h4 => ?_, fun h4 => ?_⟩
      · rw [if_neg (fun q => h4 q.2.1), Int.add_zero] at hs; exact hs
      · have h4 := Classical.not_not.mp h4
        repeat (refine ⟨by omega, ?_⟩)
        refine ⟨fun h5 => ?_, fun h5 => ?_⟩
        · rw [if_pos ⟨h3, h4, Or.inl h5⟩] at hs
          repeat (refine ⟨by omega, ?_⟩)
          exact hs
        · repeat (refine ⟨by omega, ?_⟩)
          refine ⟨fun h6 => ?_, fun h6 => ⟨fun h7 => ?_, fun h7 => ?_⟩⟩
          · rw [if_neg (by omega), Int.add_zero] at hs; exact hs
          · rw [if_neg (by omega), Int.add_zero] at hs; exact hs
          · rw [if_pos ⟨h3, h4, Or.inr ⟨h6, by omega⟩⟩] at hs
            repeat (refine ⟨by omega, ?_⟩)
            exact hs
set_option maxRecDepth 100000 in
set_option maxHeartbeats 4000000 in
theorem ok_X5_wanted (G : GT) (A : Nat → Nat) (S : SS) (hW : WF S) : OKm G yX5_wanted MX5_wanted 2 0 0 (ct_X5_wanted A S) := by
  refine mkOK (ini := false) (by decide) rfl (by first | exact fun _ => rfl | (intro hh; cases hh)) (fun As h Q QX hc => ?_)
  replace hc := sR_e hc; obtain ⟨m, r, rfl, hc⟩ := hc
  replace hc := sI_e hc; obtain ⟨b, r, rfl, hc⟩ := hc
  replace hc := sI_e hc; obtain ⟨hr, r, rfl, hc⟩ := hc
  replace hc := sI_e hc; obtain ⟨p, r, rfl, hc⟩ := hc
  replace hc := sI_e hc; obtain ⟨n, r, rfl, hc⟩ := hc
  replace hc := s0_e hc; obtain ⟨rfl, hc⟩ := hc
  obtain ⟨hM, hh, hq⟩ := hc
  obtain ⟨bv, hbv, rfl⟩ := i32_all b
  obtain ⟨rv, hrv, rfl⟩ := i32_all hr
  obtain ⟨pv, hpv, rfl⟩ := i32_all p
  obtain ⟨nv, hnv, rfl⟩ := i32_all n
  rw [i32_toInt hrv] at hh
  obtain ⟨rn, rfl⟩ := Int.eq_ofNat_of_zero_le hh.1
  simp only [i32_toInt hbv, i32_toInt hpv, i32_toInt hnv, tn_i hrv, Int.toNat_natCast] at hq
  refine ⟨Nat.le_of_ble_eq_true rfl, ?_⟩
  simp only [ent, entL, catN, List.length_cons, List.length_nil, List.replicate, List.cons_append, List.nil_append, reduceIte, Nat.reduceEqDiff,  Nat.reduceAdd, Nat.reduceSub, mnl_X5_wanted]
  refine wpW (cs := [(86, ce_X5_get A S), (108, ce_X5_has A S)]) (stop := [6]) (n := 200) (env_cons (ceV (by decide +kernel) ⟨by decide, by decide, by decide +kernel⟩ (by decide) rfl (ok_X5_get G A S hW)) (env_cons (ceV (by decide +kernel) ⟨by decide, by decide, by decide +kernel⟩ (by decide) rfl (ok_X5_has G A S hW)) (env_nil0 (env_hh rfl)))) ?_
  simp only [↓wpN_S, ↓step_u, ↓stC_s, stC_s, ↓stF_u, stF_u, ↓stepI, lenI, ↓kN_u, isS, ↓gI_0, ↓gI_S, ↓gL_0, ↓gL_S, ↓gD_0, ↓gD_S, ↓gR_0, ↓gR_S, ↓sI_c, ↓sL_c, ↓sD_c, ↓sR_c, ↓s1_r, ↓s1_i, ↓vR_r, ↓vR_n, ↓s0_n, s0_n, ↓oR_u, ↓sP_u, ↓sPa_0, ↓sPa_S, ↓lkC_c, ↓callK_u, ↓cQ_s, ↓cQ_n, putL, putW, clr, kil, catS, catN, refF, booF, finF, nF, nmOf_0, nmOf_1, nmOf_2, nmOf_3, nmOf_4, nmOf_5, nmOf_6, nmOf_50, nmOf_51, nmOf_52, ↓reduceIte, reduceIte, Bool.false_eq_true, eq_self, true_or, or_true, true_and, and_true, false_or, or_false, Nat.reduceAdd, Nat.reduceSub, Nat.reduceEqDiff, Nat.reduceLT, Nat.reduceLeDiff, reduceCtorEq, true_implies, List.length_cons, List.length_nil, List.replicate, List.cons_append, List.nil_append, mrt_X5_wanted, mhh_X5_wanted, mow_X5_wanted, mnl_X5_wanted, DX5_wanted_0, DX5_wanted_1, DX5_wanted_3, DX5_wanted_4, DX5_wanted_6, DX5_wanted_8, DX5_wanted_9, DX5_wanted_12, DX5_wanted_15, DX5_wanted_16, DX5_wanted_18, DX5_wanted_19, DX5_wanted_22, DX5_wanted_23, DX5_wanted_26, DX5_wanted_27, DX5_wanted_29, DX5_wanted_30, DX5_wanted_33, DX5_wanted_36, DX5_wanted_37, DX5_wanted_39, DX5_wanted_40, DX5_wanted_43, DX5_wanted_44, DX5_wanted_47, DX5_wanted_48, DX5_wanted_50, DX5_wanted_51, DX5_wanted_54, DX5_wanted_55, DX5_wanted_58, DX5_wanted_60, DX5_wanted_62, DX5_wanted_65, DX5_wanted_67, DX5_wanted_68, DX5_wanted_70, DX5_wanted_71, DX5_wanted_74, DX5_wanted_75, DX5_wanted_77, DX5_wanted_80, DX5_wanted_83, DX5_wanted_85, ce_X5_get, ↓ct_X5_get, ycl_X5_get, ce_X5_has, ↓ct_X5_has, ycl_X5_has, cX_nil mhh_X5_wanted]
  exact lp_X5_wanted G hW (by omega) hbv hpv hnv hM hq S.nl 0 (by omega)
def ct_X5_free (A : Nat → Nat) (S : SS) : Ct := fun As h Q _ => sR As fun m r => sI r fun b r => sI r fun hr r => sI r fun p r => sI r fun n r => s0 r (MD h m A S ∧ MC h A S ∧ (0 ≤ hr.toInt ∧ hr.toInt < 12) ∧ Q (some (.int (i32 (free S b.toInt (tn hr) p.toInt n.toInt)))) h)
def ce_X5_free (A : Nat → Nat) (S : SS) : CE := (0, yX5_free, MX5_free, 4, 3, 0, 0, ct_X5_free A S)
set_option maxRecDepth 100000 in
set_option maxHeartbeats 4000000 in
theorem ok_X5_free (G : GT) (A : Nat → Nat) (S : SS) (hW : WF S) : OKm G yX5_free MX5_free 3 0 0 (ct_X5_free A S) := by
  refine mkOK (ini := false) (by decide) rfl (by first | exact fun _ => rfl | (intro hh; cases hh)) (fun As h Q QX hc => ?_)
  replace hc := sR_e hc; obtain ⟨m, r, rfl, hc⟩ := hc
  replace hc := sI_e hc; obtain ⟨b, r, rfl, hc⟩ := hc
  replace hc := sI_e hc; obtain ⟨hr, r, rfl, hc⟩ := hc
  replace hc := sI_e hc; obtain ⟨p, r, rfl, hc⟩ := hc
  replace hc := sI_e hc; obtain ⟨n, r, rfl, hc⟩ := hc
  replace hc := s0_e hc; obtain ⟨rfl, hc⟩ := hc
  obtain ⟨hM, hC, hh, hq⟩ := hc
  obtain ⟨bv, hbv, rfl⟩ := i32_all b
  obtain ⟨rv, hrv, rfl⟩ := i32_all hr
  obtain ⟨pv, hpv, rfl⟩ := i32_all p
  obtain ⟨nv, hnv, rfl⟩ := i32_all n
  rw [i32_toInt hrv] at hh
  obtain ⟨rn, rfl⟩ := Int.eq_ofNat_of_zero_le hh.1
  simp only [i32_toInt hbv, i32_toInt hpv, i32_toInt hnv, tn_i hrv, Int.toNat_natCast] at hq
  have a1 := area_b S bv rn
  have a2 : 0 ≤ wnt S bv rn pv nv ∧ wnt S bv rn pv nv ≤ 2400 := wnt_b hW bv rn pv nv S.nl (Nat.le_refl _)
  have hM0 := hM
  obtain ⟨⟨hk, hA, hJ⟩, fd, fe, fb, fl, hB, hL, hN, hG, hP⟩ := hM0
  obtain ⟨a5, k5, l5⟩ := hA 5 (by omega) (by omega)
  obtain ⟨a6, k6, l6⟩ := hA 6 (by omega) (by omega)
  obtain ⟨a7, k7, l7⟩ := hA 7 (by omega) (by omega)
  obtain ⟨a8, k8, l8⟩ := hA 8 (by omega) (by omega)
  obtain ⟨a9, k9, l9⟩ := hA 9 (by omega) (by omega)
  obtain ⟨a10, k10, l10⟩ := hA 10 (by omega) (by omega)
  obtain ⟨a11, k11, l11⟩ := hA 11 (by omega) (by omega)
  simp only [mLen] at l5 l6 l7 l8 l9 l10 l11
  refine ⟨Nat.le_of_ble_eq_true rfl, ?_⟩
  simp only [ent, entL, catN, List.length_cons, List.length_nil, List.replicate, List.cons_append, List.nil_append, reduceIte, Nat.reduceEqDiff,  Nat.reduceAdd, Nat.reduceSub, mnl_X5_free]
  refine wpW (cs := [(105, ce_X5_areaOf A S), (112, ce_X5_wanted A S), (115, ce_max)]) (stop := []) (n := 200) (env_cons (ceV (by decide +kernel) ⟨by decide, by decide, by decide +kernel⟩ (by decide) rfl (ok_X5_areaOf G A S hW)) (env_cons (ceV (by decide +kernel) ⟨by decide, by decide, by decide +kernel⟩ (by decide) rfl (ok_X5_wanted G A S hW)) (env_cons (ce_maxOK (by decide +kernel)) (env_nil0 (env_hh rfl))))) ?_
  simp only [↓wpN_S, ↓step_u, ↓stC_s, stC_s, ↓stF_u, stF_u, ↓stepI, lenI, ↓kN_u, isS, ↓gI_0, ↓gI_S, ↓gL_0, ↓gL_S, ↓gD_0, ↓gD_S, ↓gR_0, ↓gR_S, ↓sI_c, ↓sL_c, ↓sD_c, ↓sR_c, ↓s1_r, ↓s1_i, ↓vR_r, ↓vR_n, ↓s0_n, s0_n, ↓oR_u, ↓sP_u, ↓sPa_0, ↓sPa_S, ↓lkC_c, ↓callK_u, ↓cQ_s, ↓cQ_n, putL, putW, clr, kil, catS, catN, refF, booF, finF, nF, nmOf_0, nmOf_1, nmOf_2, nmOf_3, nmOf_4, nmOf_5, nmOf_6, nmOf_50, nmOf_51, nmOf_52, ↓reduceIte, reduceIte, Bool.false_eq_true, eq_self, true_or, or_true, true_and, and_true, false_or, or_false, Nat.reduceAdd, Nat.reduceSub, Nat.reduceEqDiff, Nat.reduceLT, Nat.reduceLeDiff, reduceCtorEq, true_implies, List.length_cons, List.length_nil, List.replicate, List.cons_append, List.nil_append, mrt_X5_free, mhh_X5_free, mow_X5_free, mnl_X5_free, DX5_free_0, DX5_free_1, DX5_free_2, DX5_free_3, DX5_free_4, DX5_free_7, DX5_free_8, DX5_free_9, DX5_free_10, DX5_free_11, DX5_free_13, DX5_free_16, DX5_free_17, DX5_free_20, ce_X5_areaOf, ↓ct_X5_areaOf, ycl_X5_areaOf, ce_X5_wanted, ↓ct_X5_wanted, ycl_X5_wanted, ce_max, cX_nil mhh_X5_free]
  simp (disch := omega) only [i32_lit, i32_neg, i32_add, i32_mul, i32_sub, i32_nI, i32_lt, i32_le, i32_eq, inR_i, i32_clamp, i32_div, i32_max, i32_min, ite_max, ite_min, b2i_0, b2i_1, b2i_01, i32_toInt, tn_i, Int.toNat_natCast, em_t, true_and, and_true, Int.reduceToNat, Int.reduceLE, Int.reduceLT, Int.reduceAdd, Int.reduceMul, Int.reduceSub, Int.reduceNeg, Int.reduceEq, true_implies, not_true_eq_false, false_implies, not_false_eq_true, hM, hk, fd, fe, fb, fl, a5, k5, l5, a6, k6, l6, a7, k7, l7, a8, k8, l8, a9, k9, l9, a10, k10, l10, a11, k11, l11, true_and, and_true, Option.some.injEq, exists_eq_left', nmOf_0, nmOf_1, nmOf_2, nmOf_3, nmOf_4, nmOf_5, nmOf_6, Nat.add_sub_cancel, Nat.reduceSub, Nat.reduceLT, Nat.reduceEqDiff, ne_eq, not_false_eq_true, hC]
  repeat (refine ⟨by omega, ?_⟩)
  unfold free at hq
  exact hq
def ct_X5_getsOf (A : Nat → Nat) (S : SS) : Ct := fun As h Q _ => sR As fun m r => sI r fun l r => sI r fun hr r => s0 r (MD h m A S ∧ MC h A S ∧ (0 ≤ l.toInt ∧ l.toInt < S.nl) ∧ (0 ≤ hr.toInt ∧ hr.toInt < 12) ∧ Q (some (.int (i32 (gts S (tn l) (tn hr))))) h)
def ce_X5_getsOf (A : Nat → Nat) (S : SS) : CE := (0, yX5_getsOf, MX5_getsOf, 2, 4, 0, 0, ct_X5_getsOf A S)
set_option maxRecDepth 100000 in
set_option maxHeartbeats 4000000 in
theorem ok_X5_getsOf (G : GT) (A : Nat → Nat) (S : SS) (hW : WF S) : OKm G yX5_getsOf MX5_getsOf 4 0 0 (ct_X5_getsOf A S) := by
  refine mkOK (ini := false) (by decide) rfl (by first | exact fun _ => rfl | (intro hh; cases hh)) (fun As h Q QX hc => ?_)
  replace hc := sR_e hc; obtain ⟨m, r, rfl, hc⟩ := hc
  replace hc := sI_e hc; obtain ⟨l, r, rfl, hc⟩ := hc
  replace hc := sI_e hc; obtain ⟨hr, r, rfl, hc⟩ := hc
  replace hc := s0_e hc; obtain ⟨rfl, hc⟩ := hc
  obtain ⟨hM, hC, hl, hh, hq⟩ := hc
  obtain ⟨lv, hlv, rfl⟩ := i32_all l
  obtain ⟨rv, hrv, rfl⟩ := i32_all hr
  rw [i32_toInt hlv] at hl
  rw [i32_toInt hrv] at hh
  obtain ⟨ln', rfl⟩ := Int.eq_ofNat_of_zero_le hl.1
  obtain ⟨rn, rfl⟩ := Int.eq_ofNat_of_zero_le hh.1
  simp only [tn_i hlv, tn_i hrv, Int.toNat_natCast] at hq
  have hnb := hW.1
  have hnl := hW.2.1
  obtain ⟨w0, w0', w1, w1', w2, w2', w3, w4, w4', w5, w5', w6, w7, w7'⟩ := hW.2.2.2.1 ln' (by omega)
  have a1 := free_b (S.lf ln' 0) rn (S.lf ln' 5) ln' hW
  unfold gts at hq
  have hM0 := hM
  obtain ⟨⟨hk, hA, hJ⟩, fd, fe, fb, fl, hB, hL, hN, hG, hP⟩ := hM0
  obtain ⟨a5, k5, l5⟩ := hA 5 (by omega) (by omega)
  obtain ⟨a6, k6, l6⟩ := hA 6 (by omega) (by omega)
  obtain ⟨a7, k7, l7⟩ := hA 7 (by omega) (by omega)
  obtain ⟨a8, k8, l8⟩ := hA 8 (by omega) (by omega)
  obtain ⟨a9, k9, l9⟩ := hA 9 (by omega) (by omega)
  obtain ⟨a10, k10, l10⟩ := hA 10 (by omega) (by omega)
  obtain ⟨a11, k11, l11⟩ := hA 11 (by omega) (by omega)
  simp only [mLen] at l5 l6 l7 l8 l9 l10 l11
  refine ⟨Nat.le_of_ble_eq_true rfl, ?_⟩
  simp only [ent, entL, catN, List.length_cons, List.length_nil, List.replicate, List.cons_append, List.nil_append, reduceIte, Nat.reduceEqDiff,  Nat.reduceAdd, Nat.reduceSub, mnl_X5_getsOf]
  refine wpW (cs := [(108, ce_X5_has A S), (86, ce_X5_get A S), (120, ce_X5_free A S), (123, ce_min)]) (stop := []) (n := 200) (env_cons (ceV (by decide +kernel) ⟨by decide, by decide, by decide +kernel⟩ (by decide) rfl (ok_X5_has G A S hW)) (env_cons (ceV (by decide +kernel) ⟨by decide, by decide, by decide +kernel⟩ (by decide) rfl (ok_X5_get G A S hW)) (env_cons (ceV (by decide +kernel) ⟨by decide, by decide, by decide +kernel⟩ (by decide) rfl (ok_X5_free G A S hW)) (env_cons (ce_minOK (by decide +kernel)) (env_nil0 (env_hh rfl)))))) ?_
  simp only [↓wpN_S, ↓step_u, ↓stC_s, stC_s, ↓stF_u, stF_u, ↓stepI, lenI, ↓kN_u, isS, ↓gI_0, ↓gI_S, ↓gL_0, ↓gL_S, ↓gD_0, ↓gD_S, ↓gR_0, ↓gR_S, ↓sI_c, ↓sL_c, ↓sD_c, ↓sR_c, ↓s1_r, ↓s1_i, ↓vR_r, ↓vR_n, ↓s0_n, s0_n, ↓oR_u, ↓sP_u, ↓sPa_0, ↓sPa_S, ↓lkC_c, ↓callK_u, ↓cQ_s, ↓cQ_n, putL, putW, clr, kil, catS, catN, refF, booF, finF, nF, nmOf_0, nmOf_1, nmOf_2, nmOf_3, nmOf_4, nmOf_5, nmOf_6, nmOf_50, nmOf_51, nmOf_52, ↓reduceIte, reduceIte, Bool.false_eq_true, eq_self, true_or, or_true, true_and, and_true, false_or, or_false, Nat.reduceAdd, Nat.reduceSub, Nat.reduceEqDiff, Nat.reduceLT, Nat.reduceLeDiff, reduceCtorEq, true_implies, List.length_cons, List.length_nil, List.replicate, List.cons_append, List.nil_append, mrt_X5_getsOf, mhh_X5_getsOf, mow_X5_getsOf, mnl_X5_getsOf, DX5_getsOf_0, DX5_getsOf_1, DX5_getsOf_2, DX5_getsOf_3, DX5_getsOf_6, DX5_getsOf_9, DX5_getsOf_10, DX5_getsOf_11, DX5_getsOf_12, DX5_getsOf_15, DX5_getsOf_16, DX5_getsOf_17, DX5_getsOf_18, DX5_getsOf_19, DX5_getsOf_22, DX5_getsOf_23, DX5_getsOf_24, DX5_getsOf_25, DX5_getsOf_26, DX5_getsOf_29, DX5_getsOf_30, DX5_getsOf_33, DX5_getsOf_36, DX5_getsOf_39, DX5_getsOf_40, ce_X5_has, ↓ct_X5_has, ycl_X5_has, ce_X5_get, ↓ct_X5_get, ycl_X5_get, ce_X5_free, ↓ct_X5_free, ycl_X5_free, ce_min, cX_nil mhh_X5_getsOf]
  simp (disch := omega) only [i32_lit, i32_neg, i32_add, i32_mul, i32_sub, i32_nI, i32_lt, i32_le, i32_eq, inR_i, i32_clamp, i32_div, i32_max, i32_min, ite_max, ite_min, b2i_0, b2i_1, b2i_01, i32_toInt, tn_i, Int.toNat_natCast, em_t, true_and, and_true, Int.reduceToNat, Int.reduceLE, Int.reduceLT, Int.reduceAdd, Int.reduceMul, Int.reduceSub, Int.reduceNeg, Int.reduceEq, true_implies, not_true_eq_false, false_implies, not_false_eq_true, hM, hk, fd, fe, fb, fl, a5, k5, l5, a6, k6, l6, a7, k7, l7, a8, k8, l8, a9, k9, l9, a10, k10, l10, a11, k11, l11, true_and, and_true, Option.some.injEq, exists_eq_left', nmOf_0, nmOf_1, nmOf_2, nmOf_3, nmOf_4, nmOf_5, nmOf_6, Nat.add_sub_cancel, Nat.reduceSub, Nat.reduceLT, Nat.reduceEqDiff, ne_eq, not_false_eq_true, hC]
  repeat (refine ⟨by omega, ?_⟩)
  refine ⟨fun h1 => ?_, fun h1 => ?_⟩
  · rw [if_neg h1] at hq; exact hq
  · rw [if_pos (Classical.not_not.mp h1)] at hq
    repeat (refine ⟨by omega, ?_⟩)
    exact hq
def ct_X5_isShort (A : Nat → Nat) (S : SS) : Ct := fun As h Q _ => sR As fun m r => sI r fun l r => sI r fun hr r => s0 r (MD h m A S ∧ MC h A S ∧ (0 ≤ l.toInt ∧ l.toInt < S.nl) ∧ (0 ≤ hr.toInt ∧ hr.toInt < 12) ∧ Q (some (.int (b2i (isSh S (tn l) (tn hr) = true)))) h)
def ce_X5_isShort (A : Nat → Nat) (S : SS) : CE := (0, yX5_isShort, MX5_isShort, 2, 5, 0, 0, ct_X5_isShort A S)
set_option maxRecDepth 100000 in
set_option maxHeartbeats 4000000 in
theorem ok_X5_isShort (G : GT) (A : Nat → Nat) (S : SS) (hW : WF S) : OKm G yX5_isShort MX5_isShort 5 0 0 (ct_X5_isShort A S) := by
  refine mkOK (ini := false) (by decide) rfl (by first | exact fun _ => rfl | (intro hh; cases hh)) (fun As h Q QX hc => ?_)
  replace hc := sR_e hc; obtain ⟨m, r, rfl, hc⟩ := hc
  replace hc := sI_e hc; obtain ⟨l, r, rfl, hc⟩ := hc
  replace hc := sI_e hc; obtain ⟨hr, r, rfl, hc⟩ := hc
  replace hc := s0_e hc; obtain ⟨rfl, hc⟩ := hc
  obtain ⟨hM, hC, hl, hh, hq⟩ := hc
  obtain ⟨lv, hlv, rfl⟩ := i32_all l
  obtain ⟨rv, hrv, rfl⟩ := i32_all hr
  rw [i32_toInt hlv] at hl
  rw [i32_toInt hrv] at hh
  obtain ⟨ln', rfl⟩ := Int.eq_ofNat_of_zero_le hl.1
  obtain ⟨rn, rfl⟩ := Int.eq_ofNat_of_zero_le hh.1
  simp only [tn_i hlv, tn_i hrv, Int.toNat_natCast] at hq
  have hnb := hW.1
  have hnl := hW.2.1
  obtain ⟨w0, w0', w1, w1', w2, w2', w3, w4, w4', w5, w5', w6, w7, w7'⟩ := hW.2.2.2.1 ln' (by omega)
  have a1 := gts_b (r := rn) hW (show ln' < S.nl by omega)
  unfold isSh at hq
  simp only [decide_eq_true_eq] at hq
  have hM0 := hM
  obtain ⟨⟨hk, hA, hJ⟩, fd, fe, fb, fl, hB, hL, hN, hG, hP⟩ := hM0
  obtain ⟨a5, k5, l5⟩ := hA 5 (by omega) (by omega)
  obtain ⟨a6, k6, l6⟩ := hA 6 (by omega) (by omega)
  obtain ⟨a7, k7, l7⟩ := hA 7 (by omega) (by omega)
  obtain ⟨a8, k8, l8⟩ := hA 8 (by omega) (by omega)
  obtain ⟨a9, k9, l9⟩ := hA 9 (by omega) (by omega)
  obtain ⟨a10, k10, l10⟩ := hA 10 (by omega) (by omega)
  obtain ⟨a11, k11, l11⟩ := hA 11 (by omega) (by omega)
  simp only [mLen] at l5 l6 l7 l8 l9 l10 l11
  refine ⟨Nat.le_of_ble_eq_true rfl, ?_⟩
  simp only [ent, entL, catN, List.length_cons, List.length_nil, List.replicate, List.cons_append, List.nil_append, reduceIte, Nat.reduceEqDiff,  Nat.reduceAdd, Nat.reduceSub, mnl_X5_isShort]
  refine wpW (cs := [(108, ce_X5_has A S), (126, ce_X5_getsOf A S), (86, ce_X5_get A S)]) (stop := []) (n := 200) (env_cons (ceV (by decide +kernel) ⟨by decide, by decide, by decide +kernel⟩ (by decide) rfl (ok_X5_has G A S hW)) (env_cons (ceV (by decide +kernel) ⟨by decide, by decide, by decide +kernel⟩ (by decide) rfl (ok_X5_getsOf G A S hW)) (env_cons (ceV (by decide +kernel) ⟨by decide, by decide, by decide +kernel⟩ (by decide) rfl (ok_X5_get G A S hW)) (env_nil0 (env_hh rfl))))) ?_
  simp only [↓wpN_S, ↓step_u, ↓stC_s, stC_s, ↓stF_u, stF_u, ↓stepI, lenI, ↓kN_u, isS, ↓gI_0, ↓gI_S, ↓gL_0, ↓gL_S, ↓gD_0, ↓gD_S, ↓gR_0, ↓gR_S, ↓sI_c, ↓sL_c, ↓sD_c, ↓sR_c, ↓s1_r, ↓s1_i, ↓vR_r, ↓vR_n, ↓s0_n, s0_n, ↓oR_u, ↓sP_u, ↓sPa_0, ↓sPa_S, ↓lkC_c, ↓callK_u, ↓cQ_s, ↓cQ_n, putL, putW, clr, kil, catS, catN, refF, booF, finF, nF, nmOf_0, nmOf_1, nmOf_2, nmOf_3, nmOf_4, nmOf_5, nmOf_6, nmOf_50, nmOf_51, nmOf_52, ↓reduceIte, reduceIte, Bool.false_eq_true, eq_self, true_or, or_true, true_and, and_true, false_or, or_false, Nat.reduceAdd, Nat.reduceSub, Nat.reduceEqDiff, Nat.reduceLT, Nat.reduceLeDiff, reduceCtorEq, true_implies, List.length_cons, List.length_nil, List.replicate, List.cons_append, List.nil_append, mrt_X5_isShort, mhh_X5_isShort, mow_X5_isShort, mnl_X5_isShort, DX5_isShort_0, DX5_isShort_1, DX5_isShort_2, DX5_isShort_3, DX5_isShort_6, DX5_isShort_9, DX5_isShort_10, DX5_isShort_11, DX5_isShort_12, DX5_isShort_15, DX5_isShort_16, DX5_isShort_17, DX5_isShort_18, DX5_isShort_21, DX5_isShort_24, DX5_isShort_25, DX5_isShort_28, DX5_isShort_29, ce_X5_has, ↓ct_X5_has, ycl_X5_has, ce_X5_getsOf, ↓ct_X5_getsOf, ycl_X5_getsOf, ce_X5_get, ↓ct_X5_get, ycl_X5_get, cX_nil mhh_X5_isShort]
  simp (disch := omega) only [i32_lit, i32_neg, i32_add, i32_mul, i32_sub, i32_nI, i32_lt, i32_le, i32_eq, inR_i, i32_clamp, i32_div, i32_max, i32_min, ite_max, ite_min, b2i_0, b2i_1, b2i_01, i32_toInt, tn_i, Int.toNat_natCast, em_t, true_and, and_true, Int.reduceToNat, Int.reduceLE, Int.reduceLT, Int.reduceAdd, Int.reduceMul, Int.reduceSub, Int.reduceNeg, Int.reduceEq, true_implies, not_true_eq_false, false_implies, not_false_eq_true, hM, hk, fd, fe, fb, fl, a5, k5, l5, a6, k6, l6, a7, k7, l7, a8, k8, l8, a9, k9, l9, a10, k10, l10, a11, k11, l11, true_and, and_true, Option.some.injEq, exists_eq_left', nmOf_0, nmOf_1, nmOf_2, nmOf_3, nmOf_4, nmOf_5, nmOf_6, Nat.add_sub_cancel, Nat.reduceSub, Nat.reduceLT, Nat.reduceEqDiff, ne_eq, not_false_eq_true, hC]
  repeat (refine ⟨by omega, ?_⟩)
  refine ⟨fun h1 => Qb0 hq (fun q => h1 q.1), fun h1 => ?_⟩
  repeat (refine ⟨by omega, ?_⟩)
  exact ⟨fun h2 => Qb0 hq (fun q => by omega), fun h2 => Qb1 hq ⟨Classical.not_not.mp h1, by omega⟩⟩
def ct_X5_shortHours (A : Nat → Nat) (S : SS) : Ct := fun As h Q _ => sR As fun m r => sI r fun l r => s0 r (MD h m A S ∧ MC h A S ∧ (0 ≤ l.toInt ∧ l.toInt < S.nl) ∧ Q (some (.int (i32 (shH S (tn l))))) h)
def ce_X5_shortHours (A : Nat → Nat) (S : SS) : CE := (0, yX5_shortHours, MX5_shortHours, 1, 6, 0, 0, ct_X5_shortHours A S)
set_option maxRecDepth 100000 in
set_option maxHeartbeats 4000000 in
theorem lp_X5_shortHours (G : GT) {A : Nat → Nat} {S : SS} (hW : WF S) {h : Hp} {m l : Nat} {Q : Option Value → Hp → Prop} {QX : String → Hp → Prop} (hl : l < S.nl) (hM : MD h m A S) (hC : MC h A S) (hq : Q (some (.int (i32 (shH S l)))) h) :
    ∀ k i : Nat, i + k = 12 → Wp G MX5_shortHours false 6 Q QX 4 [some (.ref m), some (.int (i32 l)), some (.int (i32 (sumN (fun r => if isSh S l r = true then 1 else 0) i))), some (.int (i32 i))] [] h (0, 0) := by
  have hnb := hW.1
  have hnl := hW.2.1
  have hM0 := hM
  obtain ⟨⟨hk, hA, hJ⟩, fd, fe, fb, fl, hB, hL, hN, hG, hP⟩ := hM0
  obtain ⟨a5, k5, l5⟩ := hA 5 (by omega) (by omega)
  obtain ⟨a6, k6, l6⟩ := hA 6 (by omega) (by omega)
  obtain ⟨a7, k7, l7⟩ := hA 7 (by omega) (by omega)
  obtain ⟨a8, k8, l8⟩ := hA 8 (by omega) (by omega)
  obtain ⟨a9, k9, l9⟩ := hA 9 (by omega) (by omega)
  obtain ⟨a10, k10, l10⟩ := hA 10 (by omega) (by omega)
  obtain ⟨a11, k11, l11⟩ := hA 11 (by omega) (by omega)
  simp only [mLen] at l5 l6 l7 l8 l9 l10 l11
  intro k
  induction k with
  | zero =>
    intro i hi
    refine wpW (cs := [(129, ce_X5_isShort A S)]) (stop := [4]) (n := 200) (env_cons (ceV (by decide +kernel) ⟨by decide, by decide, by decide +kernel⟩ (by decide) rfl (ok_X5_isShort G A S hW)) (env_nil0 (env_hh rfl))) ?_
    simp only [↓wpN_S, ↓step_u, ↓stC_s, stC_s, ↓stF_u, stF_u, ↓stepI, lenI, ↓kN_u, isS, ↓gI_0, ↓gI_S, ↓gL_0, ↓gL_S, ↓gD_0, ↓gD_S, ↓gR_0, ↓gR_S, ↓sI_c, ↓sL_c, ↓sD_c, ↓sR_c, ↓s1_r, ↓s1_i, ↓vR_r, ↓vR_n, ↓s0_n, s0_n, ↓oR_u, ↓sP_u, ↓sPa_0, ↓sPa_S, ↓lkC_c, ↓callK_u, ↓cQ_s, ↓cQ_n, putL, putW, clr, kil, catS, catN, refF, booF, finF, nF, nmOf_0, nmOf_1, nmOf_2, nmOf_3, nmOf_4, nmOf_5, nmOf_6, nmOf_50, nmOf_51, nmOf_52, ↓reduceIte, reduceIte, Bool.false_eq_true, eq_self, true_or, or_true, true_and, and_true, false_or, or_false, Nat.reduceAdd, Nat.reduceSub, Nat.reduceEqDiff, Nat.reduceLT, Nat.reduceLeDiff, reduceCtorEq, true_implies, List.length_cons, List.length_nil, List.replicate, List.cons_append, List.nil_append, mrt_X5_shortHours, mhh_X5_shortHours, mow_X5_shortHours, mnl_X5_shortHours, DX5_shortHours_0, DX5_shortHours_1, DX5_shortHours_2, DX5_shortHours_3, DX5_shortHours_4, DX5_shortHours_5, DX5_shortHours_7, DX5_shortHours_10, DX5_shortHours_11, DX5_shortHours_12, DX5_shortHours_13, DX5_shortHours_14, DX5_shortHours_17, DX5_shortHours_20, DX5_shortHours_21, DX5_shortHours_24, DX5_shortHours_25, DX5_shortHours_26, DX5_shortHours_27, DX5_shortHours_30, DX5_shortHours_33, DX5_shortHours_34, ce_X5_isShort, ↓ct_X5_isShort, ycl_X5_isShort, cX_nil mhh_X5_shortHours]
    simp (disch := omega) only [i32_lit, i32_neg, i32_add, i32_mul, i32_sub, i32_nI, i32_lt, i32_le, i32_eq, inR_i, i32_clamp, i32_div, i32_max, i32_min, ite_max, ite_min, b2i_0, b2i_1, b2i_01, i32_toInt, tn_i, Int.toNat_natCast, em_t, true_and, and_true, Int.reduceToNat, Int.reduceLE, Int.reduceLT, Int.reduceAdd, Int.reduceMul, Int.reduceSub, Int.reduceNeg, Int.reduceEq, true_implies, not_true_eq_false, false_implies, not_false_eq_true, hM, hk, fd, fe, fb, fl, a5, k5, l5, a6, k6, l6, a7, k7, l7, a8, k8, l8, a9, k9, l9, a10, k10, l10, a11, k11, l11, true_and, and_true, Option.some.injEq, exists_eq_left', nmOf_0, nmOf_1, nmOf_2, nmOf_3, nmOf_4, nmOf_5, nmOf_6, Nat.add_sub_cancel, Nat.reduceSub, Nat.reduceLT, Nat.reduceEqDiff, ne_eq, not_false_eq_true, hC]
    refine ⟨fun _ => ?_, fun h2 => by omega⟩
    rw [show i = 12 by omega]
    exact hq
  | succ k ih =>
    intro i hi
    have hs := ih (i + 1) (by omega)
    simp only [sumN] at hs
    refine wpW (cs := [(129, ce_X5_isShort A S)]) (stop := [4]) (n := 200) (env_cons (ceV (by decide +kernel) ⟨by decide, by decide, by decide +kernel⟩ (by decide) rfl (ok_X5_isShort G A S hW)) (env_nil0 (env_hh rfl))) ?_
    simp only [↓wpN_S, ↓step_u, ↓stC_s, stC_s, ↓stF_u, stF_u, ↓stepI, lenI, ↓kN_u, isS, ↓gI_0, ↓gI_S, ↓gL_0, ↓gL_S, ↓gD_0, ↓gD_S, ↓gR_0, ↓gR_S, ↓sI_c, ↓sL_c, ↓sD_c, ↓sR_c, ↓s1_r, ↓s1_i, ↓vR_r, ↓vR_n, ↓s0_n, s0_n, ↓oR_u, ↓sP_u, ↓sPa_0, ↓sPa_S, ↓lkC_c, ↓callK_u, ↓cQ_s, ↓cQ_n, putL, putW, clr, kil, catS, catN, refF, booF, finF, nF, nmOf_0, nmOf_1, nmOf_2, nmOf_3, nmOf_4, nmOf_5, nmOf_6, nmOf_50, nmOf_51, nmOf_52, ↓reduceIte, reduceIte, Bool.false_eq_true, eq_self, true_or, or_true, true_and, and_true, false_or, or_false, Nat.reduceAdd, Nat.reduceSub, Nat.reduceEqDiff, Nat.reduceLT, Nat.reduceLeDiff, reduceCtorEq, true_implies, List.length_cons, List.length_nil, List.replicate, List.cons_append, List.nil_append, mrt_X5_shortHours, mhh_X5_shortHours, mow_X5_shortHours, mnl_X5_shortHours, DX5_shortHours_0, DX5_shortHours_1, DX5_shortHours_2, DX5_shortHours_3, DX5_shortHours_4, DX5_shortHours_5, DX5_shortHours_7, DX5_shortHours_10, DX5_shortHours_11, DX5_shortHours_12, DX5_shortHours_13, DX5_shortHours_14, DX5_shortHours_17, DX5_shortHours_20, DX5_shortHours_21, DX5_shortHours_24, DX5_shortHours_25, DX5_shortHours_26, DX5_shortHours_27, DX5_shortHours_30, DX5_shortHours_33, DX5_shortHours_34, ce_X5_isShort, ↓ct_X5_isShort, ycl_X5_isShort, cX_nil mhh_X5_shortHours]
    simp (disch := omega) only [i32_lit, i32_neg, i32_add, i32_mul, i32_sub, i32_nI, i32_lt, i32_le, i32_eq, inR_i, i32_clamp, i32_div, i32_max, i32_min, ite_max, ite_min, b2i_0, b2i_1, b2i_01, i32_toInt, tn_i, Int.toNat_natCast, em_t, true_and, and_true, Int.reduceToNat, Int.reduceLE, Int.reduceLT, Int.reduceAdd, Int.reduceMul, Int.reduceSub, Int.reduceNeg, Int.reduceEq, true_implies, not_true_eq_false, false_implies, not_false_eq_true, hM, hk, fd, fe, fb, fl, a5, k5, l5, a6, k6, l6, a7, k7, l7, a8, k8, l8, a9, k9, l9, a10, k10, l10, a11, k11, l11, true_and, and_true, Option.some.injEq, exists_eq_left', nmOf_0, nmOf_1, nmOf_2, nmOf_3, nmOf_4, nmOf_5, nmOf_6, Nat.add_sub_cancel, Nat.reduceSub, Nat.reduceLT, Nat.reduceEqDiff, ne_eq, not_false_eq_true, hC]
    refine ⟨fun h2 => by omega, fun h2 => ?_⟩
    repeat (refine ⟨by omega, ?_⟩)
    refine ⟨fun h3 => ?_, fun h3 => ?_⟩
    · rw [if_neg h3] at hs; exact hs
    · rw [if_pos (Classical.not_not.mp h3)] at hs; exact hs
set_option maxRecDepth 100000 in
set_option maxHeartbeats 4000000 in
theorem ok_X5_shortHours (G : GT) (A : Nat → Nat) (S : SS) (hW : WF S) : OKm G yX5_shortHours MX5_shortHours 6 0 0 (ct_X5_shortHours A S) := by
  refine mkOK (ini := false) (by decide) rfl (by first | exact fun _ => rfl | (intro hh; cases hh)) (fun As h Q QX hc => ?_)
  replace hc := sR_e hc; obtain ⟨m, r, rfl, hc⟩ := hc
  replace hc := sI_e hc; obtain ⟨l, r, rfl, hc⟩ := hc
  replace hc := s0_e hc; obtain ⟨rfl, hc⟩ := hc
  obtain ⟨hM, hC, hl, hq⟩ := hc
  obtain ⟨lv, hlv, rfl⟩ := i32_all l
  rw [i32_toInt hlv] at hl
  obtain ⟨ln', rfl⟩ := Int.eq_ofNat_of_zero_le hl.1
  simp only [tn_i hlv, Int.toNat_natCast] at hq
  refine ⟨Nat.le_of_ble_eq_true rfl, ?_⟩
  simp only [ent, entL, catN, List.length_cons, List.length_nil, List.replicate, List.cons_append, List.nil_append, reduceIte, Nat.reduceEqDiff,  Nat.reduceAdd, Nat.reduceSub, mnl_X5_shortHours]
  refine wpW (cs := [(129, ce_X5_isShort A S)]) (stop := [4]) (n := 200) (env_cons (ceV (by decide +kernel) ⟨by decide, by decide, by decide +kernel⟩ (by decide) rfl (ok_X5_isShort G A S hW)) (env_nil0 (env_hh rfl))) ?_
  simp only [↓wpN_S, ↓step_u, ↓stC_s, stC_s, ↓stF_u, stF_u, ↓stepI, lenI, ↓kN_u, isS, ↓gI_0, ↓gI_S, ↓gL_0, ↓gL_S, ↓gD_0, ↓gD_S, ↓gR_0, ↓gR_S, ↓sI_c, ↓sL_c, ↓sD_c, ↓sR_c, ↓s1_r, ↓s1_i, ↓vR_r, ↓vR_n, ↓s0_n, s0_n, ↓oR_u, ↓sP_u, ↓sPa_0, ↓sPa_S, ↓lkC_c, ↓callK_u, ↓cQ_s, ↓cQ_n, putL, putW, clr, kil, catS, catN, refF, booF, finF, nF, nmOf_0, nmOf_1, nmOf_2, nmOf_3, nmOf_4, nmOf_5, nmOf_6, nmOf_50, nmOf_51, nmOf_52, ↓reduceIte, reduceIte, Bool.false_eq_true, eq_self, true_or, or_true, true_and, and_true, false_or, or_false, Nat.reduceAdd, Nat.reduceSub, Nat.reduceEqDiff, Nat.reduceLT, Nat.reduceLeDiff, reduceCtorEq, true_implies, List.length_cons, List.length_nil, List.replicate, List.cons_append, List.nil_append, mrt_X5_shortHours, mhh_X5_shortHours, mow_X5_shortHours, mnl_X5_shortHours, DX5_shortHours_0, DX5_shortHours_1, DX5_shortHours_2, DX5_shortHours_3, DX5_shortHours_4, DX5_shortHours_5, DX5_shortHours_7, DX5_shortHours_10, DX5_shortHours_11, DX5_shortHours_12, DX5_shortHours_13, DX5_shortHours_14, DX5_shortHours_17, DX5_shortHours_20, DX5_shortHours_21, DX5_shortHours_24, DX5_shortHours_25, DX5_shortHours_26, DX5_shortHours_27, DX5_shortHours_30, DX5_shortHours_33, DX5_shortHours_34, ce_X5_isShort, ↓ct_X5_isShort, ycl_X5_isShort, cX_nil mhh_X5_shortHours]
  exact lp_X5_shortHours G hW (by omega) hM hC hq 12 0 (by omega)
