/-! ===== the class: fulfilled ===== -/
def askI (S : SS) (l : Nat) : Int := if S.lf l 6 = 1 then S.lf l 4 * (S.lf l 3 - S.lf l 2 + 1) else 0
theorem ask_eq {S : SS} (hW : WF S) {l : Nat} (hl : l < S.nl) : sumN (fun r => if hasH S l r = true then S.lf l 4 else 0) 12 = askI S l := by
  have w := hW.2.2.2.1 l hl
  unfold askI
  by_cases h6 : S.lf l 6 = 1
  · rw [if_pos h6]
    have e : ∀ r, r < 12 → (if hasH S l r = true then S.lf l 4 else 0) = (if S.lf l 2 ≤ (r : Int) ∧ (r : Int) ≤ S.lf l 2 + (S.lf l 3 - S.lf l 2 + 1) - 1 then (1 : Int) else 0) * S.lf l 4 := fun r _ => by
      by_cases z : hasH S l r = true
      · have z' := z
        unfold hasH at z'
        rw [decide_eq_true_iff] at z'
        rw [if_pos z, if_pos (by omega), Int.one_mul]
      · have z' := z
        unfold hasH at z'
        rw [decide_eq_true_iff] at z'
        rw [if_neg z, if_neg (fun y => z' ⟨h6, by omega, by omega⟩), Int.zero_mul]
    rw [sumN_congr 12 e, sumN_mul, cnt_iv _ _ (by omega) (by omega), Int.mul_comm]
    congr 1
    omega
  · rw [if_neg h6]
    refine sumN_0 12 (fun r _ => if_neg (fun z => ?_))
    unfold hasH at z
    rw [decide_eq_true_iff] at z
    exact h6 z.1
theorem flA_ask {S : SS} (hW : WF S) : flA S S.nl = sumN (fun l => askI S l) S.nl := sumN_congr _ (fun l hl => ask_eq hW hl)
theorem flG_hr {S : SS} : flG S S.nl = sumN (fun r => hrT S r 2) 12 := sumN_swap S.nl 12
def ct_X4_fulfilled (G : GT) (D : WD) (S : SS) : Ct := fun As h Q _ => sR As fun c r => s0 r (CI G h D S ∧ c = D 0 0 ∧ nxr G h D S Q (.double (flV S)))
def ce_X4_fulfilled (G : GT) (D : WD) (S : SS) : CE := (0, yX4_fulfilled, MX4_fulfilled, 0, 10, 0, 0, ct_X4_fulfilled G D S)
set_option maxRecDepth 100000 in
set_option maxHeartbeats 4000000 in
theorem lp_X4_fulfilled36 (G : GT) {D : WD} {S : SS} (hW : WF S) {h : Hp} {Q : Option Value → Hp → Prop} {QX : String → Hp → Prop} (hI : CI G h D S) (hq : Q (some (.double (flV S))) h) :
    ∀ k n : Nat, n + k = S.nl → ∀ o4, Wp G MX4_fulfilled false 10 Q QX 36 [some (.ref (D 0 0)), some (.int (i32 (flG S S.nl))), some (.int (i32 (sumN (fun l => askI S l) n))), some (.int (i32 n)), o4] [] h (0, 0) := by
  have hD := hI.cd
  have hD0 := hD
  intro k
  induction k with
  | zero =>
    intro n hn o4
    have e : n = S.nl := by omega
    subst e
    have hb := flA_b hW S.nl (Nat.le_refl _)
    unfold flV at hq
    rw [← flA_ask hW]
    have hA0 := hD.1
    have hB0 := hD.2
    obtain ⟨⟨kC, rC0, rC1, rC2, rC3, rC4⟩, ⟨kQ, rQ0, rQ1⟩, ⟨kV, lV⟩, ⟨kG, lG⟩, ⟨kP, lP⟩, ⟨kT, lT⟩, ⟨⟨LB1, LB2, LB3, LB4, LB5, LB6, LB7⟩, ⟨LH1, LH2, LH3, LH4, LH5, LH6, LH7⟩, ⟨LL1, LL2, LL3, LL4, LL5, LL6, LL7⟩⟩, hKB, hHA, hKL, hCJ⟩ := hA0
    obtain ⟨dDy, dEv, dG, dP, dV, dB, dL, dH⟩ := hB0
    have hnb := hW.1
    have hnl := hW.2.1
    refine wpW (cs := [(49, ce_Jx4a65c_size_8abf5), (161, ce_X4_allottedHour G D S), (84, ce_Jx4a65c_get_915e3), (261, ce_X2_hourCount G D S)]) (stop := [36]) (n := 200) (env_cons (ceV (by decide +kernel) ⟨by decide, by decide, by decide +kernel⟩ (by decide) rfl (ok_Jx4a65c_size_8abf5 G)) (env_cons (ceV (by decide +kernel) ⟨by decide, by decide, by decide +kernel⟩ (by decide) rfl (ok_X4_allottedHour G G D S hW)) (env_cons (ceV (by decide +kernel) ⟨by decide, by decide, by decide +kernel⟩ (by decide) rfl (ok_Jx4a65c_get_915e3 G)) (env_cons (ceV (by decide +kernel) ⟨by decide, by decide, by decide +kernel⟩ (by decide) rfl (ok_X2_hourCount G G D S hW)) (env_nil0 (env_hh rfl)))))) ?_
    simp only [↓wpN_S, ↓step_u, ↓stC_s, stC_s, ↓stF_u, stF_u, ↓stepI, lenI, ↓kN_u, isS, ↓gI_0, ↓gI_S, ↓gL_0, ↓gL_S, ↓gD_0, ↓gD_S, ↓gR_0, ↓gR_S, ↓sI_c, ↓sL_c, ↓sD_c, ↓sR_c, ↓s1_r, ↓s1_i, ↓vR_r, ↓vR_n, ↓s0_n, s0_n, ↓oR_u, ↓sP_u, ↓sPa_0, ↓sPa_S, ↓lkC_c, ↓callK_u, ↓cQ_s, ↓cQ_n, putL, putW, clr, kil, catS, catN, refF, booF, finF, nF, nmOf_0, nmOf_1, nmOf_2, nmOf_3, nmOf_4, nmOf_5, nmOf_6, nmOf_50, nmOf_51, nmOf_52, ↓reduceIte, reduceIte, Bool.false_eq_true, eq_self, true_or, or_true, true_and, and_true, false_or, or_false, Nat.reduceAdd, Nat.reduceSub, Nat.reduceEqDiff, Nat.reduceLT, Nat.reduceLeDiff, reduceCtorEq, true_implies, List.length_cons, List.length_nil, List.replicate, List.cons_append, List.nil_append, mrt_X4_fulfilled, mhh_X4_fulfilled, mow_X4_fulfilled, mnl_X4_fulfilled, DX4_fulfilled_0, DX4_fulfilled_1, DX4_fulfilled_2, DX4_fulfilled_3, DX4_fulfilled_4, DX4_fulfilled_5, DX4_fulfilled_6, DX4_fulfilled_7, DX4_fulfilled_8, DX4_fulfilled_11, DX4_fulfilled_14, DX4_fulfilled_17, DX4_fulfilled_18, DX4_fulfilled_19, DX4_fulfilled_20, DX4_fulfilled_23, DX4_fulfilled_26, DX4_fulfilled_27, DX4_fulfilled_28, DX4_fulfilled_31, DX4_fulfilled_34, DX4_fulfilled_35, DX4_fulfilled_36, DX4_fulfilled_37, DX4_fulfilled_38, DX4_fulfilled_41, DX4_fulfilled_44, DX4_fulfilled_47, DX4_fulfilled_48, DX4_fulfilled_51, DX4_fulfilled_52, DX4_fulfilled_55, DX4_fulfilled_58, DX4_fulfilled_60, DX4_fulfilled_61, DX4_fulfilled_63, DX4_fulfilled_66, DX4_fulfilled_69, DX4_fulfilled_71, DX4_fulfilled_74, DX4_fulfilled_76, DX4_fulfilled_79, DX4_fulfilled_80, DX4_fulfilled_83, DX4_fulfilled_84, DX4_fulfilled_85, DX4_fulfilled_86, DX4_fulfilled_89, DX4_fulfilled_92, DX4_fulfilled_93, DX4_fulfilled_96, DX4_fulfilled_97, DX4_fulfilled_100, DX4_fulfilled_101, DX4_fulfilled_102, DX4_fulfilled_103, DX4_fulfilled_104, DX4_fulfilled_105, ce_Jx4a65c_size_8abf5, ↓ct_Jx4a65c_size_8abf5, ycl_Jx4a65c_size_8abf5, ce_X4_allottedHour, ↓ct_X4_allottedHour, ycl_X4_allottedHour, ce_Jx4a65c_get_915e3, ↓ct_Jx4a65c_get_915e3, ycl_Jx4a65c_get_915e3, ce_X2_hourCount, ↓ct_X2_hourCount, ycl_X2_hourCount, cX_nil mhh_X4_fulfilled]
    simp (disch := omega) only [i32_lit, i32_neg, i32_add, i32_mul, i32_sub, i32_nI, i32_lt, i32_le, i32_eq, inR_i, i32_clamp, i32_div, i32_max, i32_min, ite_max, ite_min, b2i_0, b2i_1, b2i_01, i32_toInt, tn_i, Int.toNat_natCast, em_t, true_and, and_true, Int.reduceToNat, Int.reduceLE, Int.reduceLT, Int.reduceAdd, Int.reduceMul, Int.reduceSub, Int.reduceNeg, Int.reduceEq, true_implies, not_true_eq_false, false_implies, not_false_eq_true, kC, rC0, rC1, rC2, rC3, rC4, kQ, rQ0, rQ1, kV, lV, kG, lG, kP, lP, kT, lT, LB1, LB2, LB3, LH1, LH2, LH3, LL1, LL2, LL3, dDy, dEv, true_and, and_true, Option.some.injEq, exists_eq_left', nmOf_0, nmOf_1, nmOf_2, nmOf_3, nmOf_4, nmOf_5, nmOf_6, Nat.add_sub_cancel, Nat.reduceSub, Nat.reduceLT, Nat.reduceEqDiff, ne_eq, not_false_eq_true]
    refine ⟨fun _ => ⟨fun h2 => ⟨ddv_ok _ _ ?_, ?_⟩, fun h2 => ?_⟩, fun h2 => by omega⟩
    · rw [show (0 : Int32) = i32 0 from rfl, i32_eq (by omega) (by omega)]
      exact h2
    · rw [if_neg h2] at hq
      exact hq
    · rw [if_neg (by omega)]
      rw [if_pos h2] at hq
      exact hq
  | succ k ih =>
    intro n hn o4
    have hs := ih (n + 1) (by omega)
    simp only [sumN] at hs
    have hn' : n < S.nl := by omega
    have hA0 := hD.1
    have hB0 := hD.2
    obtain ⟨⟨kC, rC0, rC1, rC2, rC3, rC4⟩, ⟨kQ, rQ0, rQ1⟩, ⟨kV, lV⟩, ⟨kG, lG⟩, ⟨kP, lP⟩, ⟨kT, lT⟩, ⟨⟨LB1, LB2, LB3, LB4, LB5, LB6, LB7⟩, ⟨LH1, LH2, LH3, LH4, LH5, LH6, LH7⟩, ⟨LL1, LL2, LL3, LL4, LL5, LL6, LL7⟩⟩, hKB, hHA, hKL, hCJ⟩ := hA0
    obtain ⟨dDy, dEv, dG, dP, dV, dB, dL, dH⟩ := hB0
    have hnb := hW.1
    have hnl := hW.2.1
    have kL := hKL n hn'
    obtain ⟨eL0, eL1, eL2, eL3, eL4, eL5, eL6, eL7, eL8, eL9⟩ := dL n hn'
    have qL := LL7 n hn'
    obtain ⟨kqL, lqL⟩ := LL6 (by omega)
    obtain ⟨vL0, vL0', vL1, vL1', vL2, vL2', vL3, vL4, vL4', vL5, vL5', vL6, vL7, vL7'⟩ := hW.2.2.2.1 n hn'
    refine wpW (cs := [(49, ce_Jx4a65c_size_8abf5), (161, ce_X4_allottedHour G D S), (84, ce_Jx4a65c_get_915e3), (261, ce_X2_hourCount G D S)]) (stop := [36]) (n := 200) (env_cons (ceV (by decide +kernel) ⟨by decide, by decide, by decide +kernel⟩ (by decide) rfl (ok_Jx4a65c_size_8abf5 G)) (env_cons (ceV (by decide +kernel) ⟨by decide, by decide, by decide +kernel⟩ (by decide) rfl (ok_X4_allottedHour G G D S hW)) (env_cons (ceV (by decide +kernel) ⟨by decide, by decide, by decide +kernel⟩ (by decide) rfl (ok_Jx4a65c_get_915e3 G)) (env_cons (ceV (by decide +kernel) ⟨by decide, by decide, by decide +kernel⟩ (by decide) rfl (ok_X2_hourCount G G D S hW)) (env_nil0 (env_hh rfl)))))) ?_
    simp only [↓wpN_S, ↓step_u, ↓stC_s, stC_s, ↓stF_u, stF_u, ↓stepI, lenI, ↓kN_u, isS, ↓gI_0, ↓gI_S, ↓gL_0, ↓gL_S, ↓gD_0, ↓gD_S, ↓gR_0, ↓gR_S, ↓sI_c, ↓sL_c, ↓sD_c, ↓sR_c, ↓s1_r, ↓s1_i, ↓vR_r, ↓vR_n, ↓s0_n, s0_n, ↓oR_u, ↓sP_u, ↓sPa_0, ↓sPa_S, ↓lkC_c, ↓callK_u, ↓cQ_s, ↓cQ_n, putL, putW, clr, kil, catS, catN, refF, booF, finF, nF, nmOf_0, nmOf_1, nmOf_2, nmOf_3, nmOf_4, nmOf_5, nmOf_6, nmOf_50, nmOf_51, nmOf_52, ↓reduceIte, reduceIte, Bool.false_eq_true, eq_self, true_or, or_true, true_and, and_true, false_or, or_false, Nat.reduceAdd, Nat.reduceSub, Nat.reduceEqDiff, Nat.reduceLT, Nat.reduceLeDiff, reduceCtorEq, true_implies, List.length_cons, List.length_nil, List.replicate, List.cons_append, List.nil_append, mrt_X4_fulfilled, mhh_X4_fulfilled, mow_X4_fulfilled, mnl_X4_fulfilled, DX4_fulfilled_0, DX4_fulfilled_1, DX4_fulfilled_2, DX4_fulfilled_3, DX4_fulfilled_4, DX4_fulfilled_5, DX4_fulfilled_6, DX4_fulfilled_7, DX4_fulfilled_8, DX4_fulfilled_11, DX4_fulfilled_14, DX4_fulfilled_17, DX4_fulfilled_18, DX4_fulfilled_19, DX4_fulfilled_20, DX4_fulfilled_23, DX4_fulfilled_26, DX4_fulfilled_27, DX4_fulfilled_28, DX4_fulfilled_31, DX4_fulfilled_34, DX4_fulfilled_35, DX4_fulfilled_36, DX4_fulfilled_37, DX4_fulfilled_38, DX4_fulfilled_41, DX4_fulfilled_44, DX4_fulfilled_47, DX4_fulfilled_48, DX4_fulfilled_51, DX4_fulfilled_52, DX4_fulfilled_55, DX4_fulfilled_58, DX4_fulfilled_60, DX4_fulfilled_61, DX4_fulfilled_63, DX4_fulfilled_66, DX4_fulfilled_69, DX4_fulfilled_71, DX4_fulfilled_74, DX4_fulfilled_76, DX4_fulfilled_79, DX4_fulfilled_80, DX4_fulfilled_83, DX4_fulfilled_84, DX4_fulfilled_85, DX4_fulfilled_86, DX4_fulfilled_89, DX4_fulfilled_92, DX4_fulfilled_93, DX4_fulfilled_96, DX4_fulfilled_97, DX4_fulfilled_100, DX4_fulfilled_101, DX4_fulfilled_102, DX4_fulfilled_103, DX4_fulfilled_104, DX4_fulfilled_105, ce_Jx4a65c_size_8abf5, ↓ct_Jx4a65c_size_8abf5, ycl_Jx4a65c_size_8abf5, ce_X4_allottedHour, ↓ct_X4_allottedHour, ycl_X4_allottedHour, ce_Jx4a65c_get_915e3, ↓ct_Jx4a65c_get_915e3, ycl_Jx4a65c_get_915e3, ce_X2_hourCount, ↓ct_X2_hourCount, ycl_X2_hourCount, cX_nil mhh_X4_fulfilled]
    simp (disch := omega) only [i32_lit, i32_neg, i32_add, i32_mul, i32_sub, i32_nI, i32_lt, i32_le, i32_eq, inR_i, i32_clamp, i32_div, i32_max, i32_min, ite_max, ite_min, b2i_0, b2i_1, b2i_01, i32_toInt, tn_i, Int.toNat_natCast, em_t, true_and, and_true, Int.reduceToNat, Int.reduceLE, Int.reduceLT, Int.reduceAdd, Int.reduceMul, Int.reduceSub, Int.reduceNeg, Int.reduceEq, true_implies, not_true_eq_false, false_implies, not_false_eq_true, kC, rC0, rC1, rC2, rC3, rC4, kQ, rQ0, rQ1, kV, lV, kG, lG, kP, lP, kT, lT, LB1, LB2, LB3, LH1, LH2, LH3, LL1, LL2, LL3, dDy, dEv, true_and, and_true, Option.some.injEq, exists_eq_left', nmOf_0, nmOf_1, nmOf_2, nmOf_3, nmOf_4, nmOf_5, nmOf_6, Nat.add_sub_cancel, Nat.reduceSub, Nat.reduceLT, Nat.reduceEqDiff, ne_eq, not_false_eq_true, kL, eL0, eL1, eL2, eL3, eL4, eL5, eL6, eL7, eL8, eL9, qL, kqL, lqL, hD0]
    rw [show (n : Int) + 1 = ((n + 1 : Nat) : Int) by omega]
    refine ⟨fun z => by omega, fun _ => ⟨by omega, by omega, by omega, fun z => ?_, fun z => ⟨n, hn', rfl, ?_⟩⟩⟩
    · rw [show askI S n = 0 from if_neg (by omega), Int.add_zero] at hs
      simp only [Int.add_zero]
      exact hs _
    · rw [show askI S n = S.lf n 4 * (S.lf n 3 - S.lf n 2 + 1) from if_pos (by omega)] at hs
      exact hs _
set_option maxRecDepth 100000 in
set_option maxHeartbeats 4000000 in
theorem lp_X4_fulfilled6 (G : GT) {D : WD} {S : SS} (hW : WF S) {h0 : Hp} {Q : Option Value → Hp → Prop} {QX : String → Hp → Prop} (hq : nxr G h0 D S Q (.double (flV S))) :
    ∀ k n : Nat, n + k = 12 → ∀ h, Fr h0 h (WK D) → CI G h D S → ∀ o4, Wp G MX4_fulfilled false 10 Q QX 6 [some (.ref (D 0 0)), some (.int (i32 (sumN (fun r => hrT S r 2) n))), some (.int (i32 0)), some (.int (i32 n)), o4] [] h (0, 0) := by
  intro k
  induction k with
  | zero =>
    intro n hn h f hI o4
    have e : n = 12 := by omega
    subst e
    have hz := lp_X4_fulfilled36 (Q := Q) (QX := QX) G hW hI (hq h f hI) S.nl 0 (Nat.zero_add _) o4
    rw [flG_hr] at hz
    have hD := hI.cd
    have hA0 := hD.1
    have hB0 := hD.2
    obtain ⟨⟨kC, rC0, rC1, rC2, rC3, rC4⟩, ⟨kQ, rQ0, rQ1⟩, ⟨kV, lV⟩, ⟨kG, lG⟩, ⟨kP, lP⟩, ⟨kT, lT⟩, ⟨⟨LB1, LB2, LB3, LB4, LB5, LB6, LB7⟩, ⟨LH1, LH2, LH3, LH4, LH5, LH6, LH7⟩, ⟨LL1, LL2, LL3, LL4, LL5, LL6, LL7⟩⟩, hKB, hHA, hKL, hCJ⟩ := hA0
    obtain ⟨dDy, dEv, dG, dP, dV, dB, dL, dH⟩ := hB0
    have hnb := hW.1
    have hnl := hW.2.1
    refine wpW (cs := [(49, ce_Jx4a65c_size_8abf5), (161, ce_X4_allottedHour G D S), (84, ce_Jx4a65c_get_915e3), (261, ce_X2_hourCount G D S)]) (stop := [6, 23, 36]) (n := 200) (env_cons (ceV (by decide +kernel) ⟨by decide, by decide, by decide +kernel⟩ (by decide) rfl (ok_Jx4a65c_size_8abf5 G)) (env_cons (ceV (by decide +kernel) ⟨by decide, by decide, by decide +kernel⟩ (by decide) rfl (ok_X4_allottedHour G G D S hW)) (env_cons (ceV (by decide +kernel) ⟨by decide, by decide, by decide +kernel⟩ (by decide) rfl (ok_Jx4a65c_get_915e3 G)) (env_cons (ceV (by decide +kernel) ⟨by decide, by decide, by decide +kernel⟩ (by decide) rfl (ok_X2_hourCount G G D S hW)) (env_nil0 (env_hh rfl)))))) ?_
    simp only [↓wpN_S, ↓step_u, ↓stC_s, stC_s, ↓stF_u, stF_u, ↓stepI, lenI, ↓kN_u, isS, ↓gI_0, ↓gI_S, ↓gL_0, ↓gL_S, ↓gD_0, ↓gD_S, ↓gR_0, ↓gR_S, ↓sI_c, ↓sL_c, ↓sD_c, ↓sR_c, ↓s1_r, ↓s1_i, ↓vR_r, ↓vR_n, ↓s0_n, s0_n, ↓oR_u, ↓sP_u, ↓sPa_0, ↓sPa_S, ↓lkC_c, ↓callK_u, ↓cQ_s, ↓cQ_n, putL, putW, clr, kil, catS, catN, refF, booF, finF, nF, nmOf_0, nmOf_1, nmOf_2, nmOf_3, nmOf_4, nmOf_5, nmOf_6, nmOf_50, nmOf_51, nmOf_52, ↓reduceIte, reduceIte, Bool.false_eq_true, eq_self, true_or, or_true, true_and, and_true, false_or, or_false, Nat.reduceAdd, Nat.reduceSub, Nat.reduceEqDiff, Nat.reduceLT, Nat.reduceLeDiff, reduceCtorEq, true_implies, List.length_cons, List.length_nil, List.replicate, List.cons_append, List.nil_append, mrt_X4_fulfilled, mhh_X4_fulfilled, mow_X4_fulfilled, mnl_X4_fulfilled, DX4_fulfilled_0, DX4_fulfilled_1, DX4_fulfilled_2, DX4_fulfilled_3, DX4_fulfilled_4, DX4_fulfilled_5, DX4_fulfilled_6, DX4_fulfilled_7, DX4_fulfilled_8, DX4_fulfilled_11, DX4_fulfilled_14, DX4_fulfilled_17, DX4_fulfilled_18, DX4_fulfilled_19, DX4_fulfilled_20, DX4_fulfilled_23, DX4_fulfilled_26, DX4_fulfilled_27, DX4_fulfilled_28, DX4_fulfilled_31, DX4_fulfilled_34, DX4_fulfilled_35, DX4_fulfilled_36, DX4_fulfilled_37, DX4_fulfilled_38, DX4_fulfilled_41, DX4_fulfilled_44, DX4_fulfilled_47, DX4_fulfilled_48, DX4_fulfilled_51, DX4_fulfilled_52, DX4_fulfilled_55, DX4_fulfilled_58, DX4_fulfilled_60, DX4_fulfilled_61, DX4_fulfilled_63, DX4_fulfilled_66, DX4_fulfilled_69, DX4_fulfilled_71, DX4_fulfilled_74, DX4_fulfilled_76, DX4_fulfilled_79, DX4_fulfilled_80, DX4_fulfilled_83, DX4_fulfilled_84, DX4_fulfilled_85, DX4_fulfilled_86, DX4_fulfilled_89, DX4_fulfilled_92, DX4_fulfilled_93, DX4_fulfilled_96, DX4_fulfilled_97, DX4_fulfilled_100, DX4_fulfilled_101, DX4_fulfilled_102, DX4_fulfilled_103, DX4_fulfilled_104, DX4_fulfilled_105, ce_Jx4a65c_size_8abf5, ↓ct_Jx4a65c_size_8abf5, ycl_Jx4a65c_size_8abf5, ce_X4_allottedHour, ↓ct_X4_allottedHour, ycl_X4_allottedHour, ce_Jx4a65c_get_915e3, ↓ct_Jx4a65c_get_915e3, ycl_Jx4a65c_get_915e3, ce_X2_hourCount, ↓ct_X2_hourCount, ycl_X2_hourCount, cX_nil mhh_X4_fulfilled]
    simp (disch := omega) only [i32_lit, i32_neg, i32_add, i32_mul, i32_sub, i32_nI, i32_lt, i32_le, i32_eq, inR_i, i32_clamp, i32_div, i32_max, i32_min, ite_max, ite_min, b2i_0, b2i_1, b2i_01, i32_toInt, tn_i, Int.toNat_natCast, em_t, true_and, and_true, Int.reduceToNat, Int.reduceLE, Int.reduceLT, Int.reduceAdd, Int.reduceMul, Int.reduceSub, Int.reduceNeg, Int.reduceEq, true_implies, not_true_eq_false, false_implies, not_false_eq_true, kC, rC0, rC1, rC2, rC3, rC4, kQ, rQ0, rQ1, kV, lV, kG, lG, kP, lP, kT, lT, LB1, LB2, LB3, LH1, LH2, LH3, LL1, LL2, LL3, dDy, dEv, true_and, and_true, Option.some.injEq, exists_eq_left', nmOf_0, nmOf_1, nmOf_2, nmOf_3, nmOf_4, nmOf_5, nmOf_6, Nat.add_sub_cancel, Nat.reduceSub, Nat.reduceLT, Nat.reduceEqDiff, ne_eq, not_false_eq_true]
    exact ⟨fun _ => hz, fun z => by omega⟩
  | succ k ih =>
    intro n hn h f hI o4
    have hn' : n < 12 := by omega
    have hD := hI.cd
    have hA0 := hD.1
    have hB0 := hD.2
    obtain ⟨⟨kC, rC0, rC1, rC2, rC3, rC4⟩, ⟨kQ, rQ0, rQ1⟩, ⟨kV, lV⟩, ⟨kG, lG⟩, ⟨kP, lP⟩, ⟨kT, lT⟩, ⟨⟨LB1, LB2, LB3, LB4, LB5, LB6, LB7⟩, ⟨LH1, LH2, LH3, LH4, LH5, LH6, LH7⟩, ⟨LL1, LL2, LL3, LL4, LL5, LL6, LL7⟩⟩, hKB, hHA, hKL, hCJ⟩ := hA0
    obtain ⟨dDy, dEv, dG, dP, dV, dB, dL, dH⟩ := hB0
    have hnb := hW.1
    have hnl := hW.2.1
    refine wpW (cs := [(49, ce_Jx4a65c_size_8abf5), (161, ce_X4_allottedHour G D S), (84, ce_Jx4a65c_get_915e3), (261, ce_X2_hourCount G D S)]) (stop := [6, 23, 36]) (n := 200) (env_cons (ceV (by decide +kernel) ⟨by decide, by decide, by decide +kernel⟩ (by decide) rfl (ok_Jx4a65c_size_8abf5 G)) (env_cons (ceV (by decide +kernel) ⟨by decide, by decide, by decide +kernel⟩ (by decide) rfl (ok_X4_allottedHour G G D S hW)) (env_cons (ceV (by decide +kernel) ⟨by decide, by decide, by decide +kernel⟩ (by decide) rfl (ok_Jx4a65c_get_915e3 G)) (env_cons (ceV (by decide +kernel) ⟨by decide, by decide, by decide +kernel⟩ (by decide) rfl (ok_X2_hourCount G G D S hW)) (env_nil0 (env_hh rfl)))))) ?_
    simp only [↓wpN_S, ↓step_u, ↓stC_s, stC_s, ↓stF_u, stF_u, ↓stepI, lenI, ↓kN_u, isS, ↓gI_0, ↓gI_S, ↓gL_0, ↓gL_S, ↓gD_0, ↓gD_S, ↓gR_0, ↓gR_S, ↓sI_c, ↓sL_c, ↓sD_c, ↓sR_c, ↓s1_r, ↓s1_i, ↓vR_r, ↓vR_n, ↓s0_n, s0_n, ↓oR_u, ↓sP_u, ↓sPa_0, ↓sPa_S, ↓lkC_c, ↓callK_u, ↓cQ_s, ↓cQ_n, putL, putW, clr, kil, catS, catN, refF, booF, finF, nF, nmOf_0, nmOf_1, nmOf_2, nmOf_3, nmOf_4, nmOf_5, nmOf_6, nmOf_50, nmOf_51, nmOf_52, ↓reduceIte, reduceIte, Bool.false_eq_true, eq_self, true_or, or_true, true_and, and_true, false_or, or_false, Nat.reduceAdd, Nat.reduceSub, Nat.reduceEqDiff, Nat.reduceLT, Nat.reduceLeDiff, reduceCtorEq, true_implies, List.length_cons, List.length_nil, List.replicate, List.cons_append, List.nil_append, mrt_X4_fulfilled, mhh_X4_fulfilled, mow_X4_fulfilled, mnl_X4_fulfilled, DX4_fulfilled_0, DX4_fulfilled_1, DX4_fulfilled_2, DX4_fulfilled_3, DX4_fulfilled_4, DX4_fulfilled_5, DX4_fulfilled_6, DX4_fulfilled_7, DX4_fulfilled_8, DX4_fulfilled_11, DX4_fulfilled_14, DX4_fulfilled_17, DX4_fulfilled_18, DX4_fulfilled_19, DX4_fulfilled_20, DX4_fulfilled_23, DX4_fulfilled_26, DX4_fulfilled_27, DX4_fulfilled_28, DX4_fulfilled_31, DX4_fulfilled_34, DX4_fulfilled_35, DX4_fulfilled_36, DX4_fulfilled_37, DX4_fulfilled_38, DX4_fulfilled_41, DX4_fulfilled_44, DX4_fulfilled_47, DX4_fulfilled_48, DX4_fulfilled_51, DX4_fulfilled_52, DX4_fulfilled_55, DX4_fulfilled_58, DX4_fulfilled_60, DX4_fulfilled_61, DX4_fulfilled_63, DX4_fulfilled_66, DX4_fulfilled_69, DX4_fulfilled_71, DX4_fulfilled_74, DX4_fulfilled_76, DX4_fulfilled_79, DX4_fulfilled_80, DX4_fulfilled_83, DX4_fulfilled_84, DX4_fulfilled_85, DX4_fulfilled_86, DX4_fulfilled_89, DX4_fulfilled_92, DX4_fulfilled_93, DX4_fulfilled_96, DX4_fulfilled_97, DX4_fulfilled_100, DX4_fulfilled_101, DX4_fulfilled_102, DX4_fulfilled_103, DX4_fulfilled_104, DX4_fulfilled_105, ce_Jx4a65c_size_8abf5, ↓ct_Jx4a65c_size_8abf5, ycl_Jx4a65c_size_8abf5, ce_X4_allottedHour, ↓ct_X4_allottedHour, ycl_X4_allottedHour, ce_Jx4a65c_get_915e3, ↓ct_Jx4a65c_get_915e3, ycl_Jx4a65c_get_915e3, ce_X2_hourCount, ↓ct_X2_hourCount, ycl_X2_hourCount, cX_nil mhh_X4_fulfilled]
    simp (disch := omega) only [i32_lit, i32_neg, i32_add, i32_mul, i32_sub, i32_nI, i32_lt, i32_le, i32_eq, inR_i, i32_clamp, i32_div, i32_max, i32_min, ite_max, ite_min, b2i_0, b2i_1, b2i_01, i32_toInt, tn_i, Int.toNat_natCast, em_t, true_and, and_true, Int.reduceToNat, Int.reduceLE, Int.reduceLT, Int.reduceAdd, Int.reduceMul, Int.reduceSub, Int.reduceNeg, Int.reduceEq, true_implies, not_true_eq_false, false_implies, not_false_eq_true, kC, rC0, rC1, rC2, rC3, rC4, kQ, rQ0, rQ1, kV, lV, kG, lG, kP, lP, kT, lT, LB1, LB2, LB3, LH1, LH2, LH3, LL1, LL2, LL3, dDy, dEv, true_and, and_true, Option.some.injEq, exists_eq_left', nmOf_0, nmOf_1, nmOf_2, nmOf_3, nmOf_4, nmOf_5, nmOf_6, Nat.add_sub_cancel, Nat.reduceSub, Nat.reduceLT, Nat.reduceEqDiff, ne_eq, not_false_eq_true, hI]
    refine ⟨fun z => by omega, fun _ => ⟨by omega, fun h' f' hI' hM' hL' => ?_⟩⟩
    have hs := ih (n + 1) (by omega) h' (f.tr f') hI' o4
    simp only [sumN] at hs
    have e13 := hL'.2.1
    have hD := hI'.cd
    have hA0 := hD.1
    have hB0 := hD.2
    obtain ⟨⟨kC, rC0, rC1, rC2, rC3, rC4⟩, ⟨kQ, rQ0, rQ1⟩, ⟨kV, lV⟩, ⟨kG, lG⟩, ⟨kP, lP⟩, ⟨kT, lT⟩, ⟨⟨LB1, LB2, LB3, LB4, LB5, LB6, LB7⟩, ⟨LH1, LH2, LH3, LH4, LH5, LH6, LH7⟩, ⟨LL1, LL2, LL3, LL4, LL5, LL6, LL7⟩⟩, hKB, hHA, hKL, hCJ⟩ := hA0
    obtain ⟨dDy, dEv, dG, dP, dV, dB, dL, dH⟩ := hB0
    have hnb := hW.1
    have hnl := hW.2.1
    obtain ⟨kH, ⟨rH5, rH6, rH7, rH8, rH12⟩, ⟨kH4, lH4⟩, ⟨kH5, lH5⟩, ⟨kH6, lH6⟩, ⟨kH7, lH7⟩⟩ := hHA n hn'
    obtain ⟨eH0, eH1, eH2, eH3⟩ := dH n hn'
    have qH := LH7 n hn'
    obtain ⟨kqH, lqH⟩ := LH6 (by omega)
    obtain ⟨vH0, vH0', vH1, vH1', -, vH2, vH2'⟩ := hW.2.2.2.2.1 n hn'
    refine wpW (cs := [(49, ce_Jx4a65c_size_8abf5), (161, ce_X4_allottedHour G D S), (84, ce_Jx4a65c_get_915e3), (261, ce_X2_hourCount G D S)]) (stop := [6]) (n := 200) (env_cons (ceV (by decide +kernel) ⟨by decide, by decide, by decide +kernel⟩ (by decide) rfl (ok_Jx4a65c_size_8abf5 G)) (env_cons (ceV (by decide +kernel) ⟨by decide, by decide, by decide +kernel⟩ (by decide) rfl (ok_X4_allottedHour G G D S hW)) (env_cons (ceV (by decide +kernel) ⟨by decide, by decide, by decide +kernel⟩ (by decide) rfl (ok_Jx4a65c_get_915e3 G)) (env_cons (ceV (by decide +kernel) ⟨by decide, by decide, by decide +kernel⟩ (by decide) rfl (ok_X2_hourCount G G D S hW)) (env_nil0 (env_hh rfl)))))) ?_
    simp only [↓wpN_S, ↓step_u, ↓stC_s, stC_s, ↓stF_u, stF_u, ↓stepI, lenI, ↓kN_u, isS, ↓gI_0, ↓gI_S, ↓gL_0, ↓gL_S, ↓gD_0, ↓gD_S, ↓gR_0, ↓gR_S, ↓sI_c, ↓sL_c, ↓sD_c, ↓sR_c, ↓s1_r, ↓s1_i, ↓vR_r, ↓vR_n, ↓s0_n, s0_n, ↓oR_u, ↓sP_u, ↓sPa_0, ↓sPa_S, ↓lkC_c, ↓callK_u, ↓cQ_s, ↓cQ_n, putL, putW, clr, kil, catS, catN, refF, booF, finF, nF, nmOf_0, nmOf_1, nmOf_2, nmOf_3, nmOf_4, nmOf_5, nmOf_6, nmOf_50, nmOf_51, nmOf_52, ↓reduceIte, reduceIte, Bool.false_eq_true, eq_self, true_or, or_true, true_and, and_true, false_or, or_false, Nat.reduceAdd, Nat.reduceSub, Nat.reduceEqDiff, Nat.reduceLT, Nat.reduceLeDiff, reduceCtorEq, true_implies, List.length_cons, List.length_nil, List.replicate, List.cons_append, List.nil_append, mrt_X4_fulfilled, mhh_X4_fulfilled, mow_X4_fulfilled, mnl_X4_fulfilled, DX4_fulfilled_0, DX4_fulfilled_1, DX4_fulfilled_2, DX4_fulfilled_3, DX4_fulfilled_4, DX4_fulfilled_5, DX4_fulfilled_6, DX4_fulfilled_7, DX4_fulfilled_8, DX4_fulfilled_11, DX4_fulfilled_14, DX4_fulfilled_17, DX4_fulfilled_18, DX4_fulfilled_19, DX4_fulfilled_20, DX4_fulfilled_23, DX4_fulfilled_26, DX4_fulfilled_27, DX4_fulfilled_28, DX4_fulfilled_31, DX4_fulfilled_34, DX4_fulfilled_35, DX4_fulfilled_36, DX4_fulfilled_37, DX4_fulfilled_38, DX4_fulfilled_41, DX4_fulfilled_44, DX4_fulfilled_47, DX4_fulfilled_48, DX4_fulfilled_51, DX4_fulfilled_52, DX4_fulfilled_55, DX4_fulfilled_58, DX4_fulfilled_60, DX4_fulfilled_61, DX4_fulfilled_63, DX4_fulfilled_66, DX4_fulfilled_69, DX4_fulfilled_71, DX4_fulfilled_74, DX4_fulfilled_76, DX4_fulfilled_79, DX4_fulfilled_80, DX4_fulfilled_83, DX4_fulfilled_84, DX4_fulfilled_85, DX4_fulfilled_86, DX4_fulfilled_89, DX4_fulfilled_92, DX4_fulfilled_93, DX4_fulfilled_96, DX4_fulfilled_97, DX4_fulfilled_100, DX4_fulfilled_101, DX4_fulfilled_102, DX4_fulfilled_103, DX4_fulfilled_104, DX4_fulfilled_105, ce_Jx4a65c_size_8abf5, ↓ct_Jx4a65c_size_8abf5, ycl_Jx4a65c_size_8abf5, ce_X4_allottedHour, ↓ct_X4_allottedHour, ycl_X4_allottedHour, ce_Jx4a65c_get_915e3, ↓ct_Jx4a65c_get_915e3, ycl_Jx4a65c_get_915e3, ce_X2_hourCount, ↓ct_X2_hourCount, ycl_X2_hourCount, cX_nil mhh_X4_fulfilled]
    simp (disch := omega) only [i32_lit, i32_neg, i32_add, i32_mul, i32_sub, i32_nI, i32_lt, i32_le, i32_eq, inR_i, i32_clamp, i32_div, i32_max, i32_min, ite_max, ite_min, b2i_0, b2i_1, b2i_01, i32_toInt, tn_i, Int.toNat_natCast, em_t, true_and, and_true, Int.reduceToNat, Int.reduceLE, Int.reduceLT, Int.reduceAdd, Int.reduceMul, Int.reduceSub, Int.reduceNeg, Int.reduceEq, true_implies, not_true_eq_false, false_implies, not_false_eq_true, kC, rC0, rC1, rC2, rC3, rC4, kQ, rQ0, rQ1, kV, lV, kG, lG, kP, lP, kT, lT, LB1, LB2, LB3, LH1, LH2, LH3, LL1, LL2, LL3, dDy, dEv, true_and, and_true, Option.some.injEq, exists_eq_left', nmOf_0, nmOf_1, nmOf_2, nmOf_3, nmOf_4, nmOf_5, nmOf_6, Nat.add_sub_cancel, Nat.reduceSub, Nat.reduceLT, Nat.reduceEqDiff, ne_eq, not_false_eq_true, kH, rH5, rH6, rH7, rH8, rH12, kH4, lH4, kH5, lH5, kH6, lH6, kH7, lH7, eH0, eH1, eH2, eH3, qH, kqH, lqH, e13]
    rw [show (n : Int) + 1 = ((n + 1 : Nat) : Int) by omega]
    exact hs
set_option maxRecDepth 100000 in
set_option maxHeartbeats 4000000 in
theorem ok_X4_fulfilled (G : GT) (G : GT) (D : WD) (S : SS) (hW : WF S) : OKm G yX4_fulfilled MX4_fulfilled 10 0 0 (ct_X4_fulfilled G D S) := by
  refine mkOK (ini := false) (by decide) rfl (by first | exact fun _ => rfl | (intro hh; cases hh)) (fun As h Q QX hc => ?_)
  replace hc := sR_e hc; obtain ⟨c, r, rfl, hc⟩ := hc
  replace hc := s0_e hc; obtain ⟨rfl, hc⟩ := hc
  obtain ⟨hI, rfl, hq⟩ := hc
  have hz := lp_X4_fulfilled6 (Q := Q) (QX := QX) G hW hq 12 0 (by omega) h Fr.rf hI none
  refine ⟨Nat.le_of_ble_eq_true rfl, ?_⟩
  simp only [ent, entL, catN, List.length_cons, List.length_nil, List.replicate, List.cons_append, List.nil_append, reduceIte, Nat.reduceEqDiff,  Nat.reduceAdd, Nat.reduceSub, mnl_X4_fulfilled]
  refine wpW (cs := [(49, ce_Jx4a65c_size_8abf5), (161, ce_X4_allottedHour G D S), (84, ce_Jx4a65c_get_915e3), (261, ce_X2_hourCount G D S)]) (stop := [6]) (n := 200) (env_cons (ceV (by decide +kernel) ⟨by decide, by decide, by decide +kernel⟩ (by decide) rfl (ok_Jx4a65c_size_8abf5 G)) (env_cons (ceV (by decide +kernel) ⟨by decide, by decide, by decide +kernel⟩ (by decide) rfl (ok_X4_allottedHour G G D S hW)) (env_cons (ceV (by decide +kernel) ⟨by decide, by decide, by decide +kernel⟩ (by decide) rfl (ok_Jx4a65c_get_915e3 G)) (env_cons (ceV (by decide +kernel) ⟨by decide, by decide, by decide +kernel⟩ (by decide) rfl (ok_X2_hourCount G G D S hW)) (env_nil0 (env_hh rfl)))))) ?_
  simp only [↓wpN_S, ↓step_u, ↓stC_s, stC_s, ↓stF_u, stF_u, ↓stepI, lenI, ↓kN_u, isS, ↓gI_0, ↓gI_S, ↓gL_0, ↓gL_S, ↓gD_0, ↓gD_S, ↓gR_0, ↓gR_S, ↓sI_c, ↓sL_c, ↓sD_c, ↓sR_c, ↓s1_r, ↓s1_i, ↓vR_r, ↓vR_n, ↓s0_n, s0_n, ↓oR_u, ↓sP_u, ↓sPa_0, ↓sPa_S, ↓lkC_c, ↓callK_u, ↓cQ_s, ↓cQ_n, putL, putW, clr, kil, catS, catN, refF, booF, finF, nF, nmOf_0, nmOf_1, nmOf_2, nmOf_3, nmOf_4, nmOf_5, nmOf_6, nmOf_50, nmOf_51, nmOf_52, ↓reduceIte, reduceIte, Bool.false_eq_true, eq_self, true_or, or_true, true_and, and_true, false_or, or_false, Nat.reduceAdd, Nat.reduceSub, Nat.reduceEqDiff, Nat.reduceLT, Nat.reduceLeDiff, reduceCtorEq, true_implies, List.length_cons, List.length_nil, List.replicate, List.cons_append, List.nil_append, mrt_X4_fulfilled, mhh_X4_fulfilled, mow_X4_fulfilled, mnl_X4_fulfilled, DX4_fulfilled_0, DX4_fulfilled_1, DX4_fulfilled_2, DX4_fulfilled_3, DX4_fulfilled_4, DX4_fulfilled_5, DX4_fulfilled_6, DX4_fulfilled_7, DX4_fulfilled_8, DX4_fulfilled_11, DX4_fulfilled_14, DX4_fulfilled_17, DX4_fulfilled_18, DX4_fulfilled_19, DX4_fulfilled_20, DX4_fulfilled_23, DX4_fulfilled_26, DX4_fulfilled_27, DX4_fulfilled_28, DX4_fulfilled_31, DX4_fulfilled_34, DX4_fulfilled_35, DX4_fulfilled_36, DX4_fulfilled_37, DX4_fulfilled_38, DX4_fulfilled_41, DX4_fulfilled_44, DX4_fulfilled_47, DX4_fulfilled_48, DX4_fulfilled_51, DX4_fulfilled_52, DX4_fulfilled_55, DX4_fulfilled_58, DX4_fulfilled_60, DX4_fulfilled_61, DX4_fulfilled_63, DX4_fulfilled_66, DX4_fulfilled_69, DX4_fulfilled_71, DX4_fulfilled_74, DX4_fulfilled_76, DX4_fulfilled_79, DX4_fulfilled_80, DX4_fulfilled_83, DX4_fulfilled_84, DX4_fulfilled_85, DX4_fulfilled_86, DX4_fulfilled_89, DX4_fulfilled_92, DX4_fulfilled_93, DX4_fulfilled_96, DX4_fulfilled_97, DX4_fulfilled_100, DX4_fulfilled_101, DX4_fulfilled_102, DX4_fulfilled_103, DX4_fulfilled_104, DX4_fulfilled_105, ce_Jx4a65c_size_8abf5, ↓ct_Jx4a65c_size_8abf5, ycl_Jx4a65c_size_8abf5, ce_X4_allottedHour, ↓ct_X4_allottedHour, ycl_X4_allottedHour, ce_Jx4a65c_get_915e3, ↓ct_Jx4a65c_get_915e3, ycl_Jx4a65c_get_915e3, ce_X2_hourCount, ↓ct_X2_hourCount, ycl_X2_hourCount, cX_nil mhh_X4_fulfilled]
  exact hz

