/-! ===== the class: pass ===== -/
/-- what has been paid behind the first r hours of a day -/
def hrs (S : SS) (r l : Nat) : Int := sumN (fun j => pay1 S j S.nl l) r
theorem hrs_s {S : SS} {r : Nat} : paS (paS S (hrs S r)) (pay1 (paS S (hrs S r)) r S.nl) = paS S (hrs S (r + 1)) := by
  rw [pay_sum]
  rfl
theorem hrs_e {S : SS} : paS S (hrs S 12) = pdN S S.nl := by
  rw [paS_pd]
  refine SS_ext rfl rfl (fun _ _ => rfl) (fun b k => ?_) (fun _ _ => rfl) (fun o => ?_) (fun o => ?_) rfl rfl
  · rw [lf_paS, lf_paS]
    by_cases q : b < S.nl ∧ k = 8
    · rw [if_pos q, if_pos q]
      congr 1
      unfold hrs earn
      refine sumN_congr _ (fun j _ => ?_)
      unfold pay1
      rw [if_pos q.1, Int.mul_comm]
    · rw [if_neg q, if_neg q]
  · show S.gt o + sumN _ S.nl = S.gt o + sumN _ S.nl
    congr 1
    refine sumN_congr _ (fun l hl => ?_)
    have e : hrs S 12 l = earn S l := by
      unfold hrs earn
      refine sumN_congr _ (fun j _ => ?_)
      unfold pay1
      rw [if_pos hl, Int.mul_comm]
    rw [e]
  · show S.pd o + sumN _ S.nl = S.pd o + sumN _ S.nl
    congr 1
    refine sumN_congr _ (fun l hl => ?_)
    have e : hrs S 12 l = earn S l := by
      unfold hrs earn
      refine sumN_congr _ (fun j _ => ?_)
      unfold pay1
      rw [if_pos hl, Int.mul_comm]
    rw [e]
theorem hrs_0 {S : SS} : paS S (hrs S 0) = S := paS_0
def ct_X4_pass_t (G : GT) (D : WD) (S : SS) : Ct := fun As h Q QX => sR As fun c r => sI r fun d r => s0 r (CI G h D S ∧ WW S ∧ c = D 0 0 ∧ ((1 ≤ d.toInt ∧ d.toInt ≤ 30) ∧ S.dy + d.toInt ≤ 1000 → nxc G h D S (passS S (tn d)) Q (.int (i32 ((passS S (tn d)).ev - S.ev)))) ∧ (¬ (1 ≤ d.toInt ∧ d.toInt ≤ 30) → QX IAE h) ∧ ((1 ≤ d.toInt ∧ d.toInt ≤ 30) ∧ ¬ S.dy + d.toInt ≤ 1000 → QX ISE h))
def ce_X4_pass_t (G : GT) (D : WD) (S : SS) : CE := (0, yX4_pass, MX4_pass, 1, 12, 8, 48, ct_X4_pass_t G D S)
/-- the class's own stays its own -/
theorem WO_cg {D : WD} {S T : SS} (h1 : T.nb = S.nb) (h2 : T.nl = S.nl) (a : Nat) (ha : WO D T a) : WO D S a := by
  rcases ha with ⟨i, hi, e⟩ | ⟨b, hb, e⟩ | ⟨l, hl, e⟩ | ⟨t, r, ht, hr, e⟩
  · exact Or.inl ⟨i, hi, e⟩
  · exact Or.inr (Or.inl ⟨b, by rw [← h1]; exact hb, e⟩)
  · exact Or.inr (Or.inr (Or.inl ⟨l, by rw [← h2]; exact hl, e⟩))
  · exact Or.inr (Or.inr (Or.inr ⟨t, r, ht, hr, e⟩))
theorem CI_dy {G : GT} {h : Hp} {D : WD} {S : SS} {v : Int} (hI : CI G h D S) : CI G (setI h 5 5 (D 0 0) (i32 v)) D (S.uD v) := by
  obtain ⟨⟨a, a', c1, c2, c3, c4, d, e1, e2, e3, e4⟩, ⟨p1, p2, p3, p4, p5, p6, p7, p8⟩, hH⟩ := hI
  exact ⟨⟨a, a', c1, c2, c3, c4, d, e1, e2, e3, e4⟩, ⟨by rw [fi_setI, if_pos ⟨rfl, rfl, rfl⟩]; rfl, by rw [fi_setI, if_neg (by omega)]; exact p2, p3, p4, p5, p6, p7, p8⟩, fun r hr => CH_sm (hH r hr) ⟨rfl, rfl, rfl, rfl, fun _ _ _ => rfl⟩ (fun k => by rw [fi_setI, if_neg (by omega)]) (fun _ _ _ _ => rfl)⟩
set_option maxRecDepth 100000 in
set_option maxHeartbeats 4000000 in
theorem tl_X4_pass80 (G : GT) {D : WD} {S : SS} (hW : WF S) {h : Hp} {n : Nat} {o1 o2 o4 : Option Value} {Q : Option Value → Hp → Prop} {QX : String → Hp → Prop} (hI : CI G h D S)
    (hz : Wp G MX4_pass false 12 Q QX 36 [some (.ref (D 0 0)), o1, o2, some (.int (i32 (n + 1))), o4] [] (setI h 5 5 (D 0 0) (i32 (S.dy + 1))) (0, 0)) :
    Wp G MX4_pass false 12 Q QX 80 [some (.ref (D 0 0)), o1, o2, some (.int (i32 n)), o4] [] h (0, 0) := by
  have hD := hI.cd
  have hA0 := hD.1
  have hB0 := hD.2
  obtain ⟨⟨kC, rC0, rC1, rC2, rC3, rC4⟩, ⟨kQ, rQ0, rQ1⟩, ⟨kV, lV⟩, ⟨kG, lG⟩, ⟨kP, lP⟩, ⟨kT, lT⟩, ⟨⟨LB1, LB2, LB3, LB4, LB5, LB6, LB7⟩, ⟨LH1, LH2, LH3, LH4, LH5, LH6, LH7⟩, ⟨LL1, LL2, LL3, LL4, LL5, LL6, LL7⟩⟩, hKB, hHA, hKL, hCJ⟩ := hA0
  obtain ⟨dDy, dEv, dG, dP, dV, dB, dL, dH⟩ := hB0
  have hnb := hW.1
  have hnl := hW.2.1
  refine wpW (cs := [(42, ce_X4_needArgument_t), (49, ce_Jx4a65c_size_8abf5), (161, ce_X4_allottedHour_t G D S), (229, ce_X4_payFor G D S), (233, ce_X4_warn G D S), (236, ce_X4_evict G D S)]) (stop := [36]) (n := 200) (env_cons (ceS (by decide +kernel) ⟨by decide, by decide, by decide +kernel⟩ (by decide) (ok_X4_needArgument_t G)) (env_cons (ceV (by decide +kernel) ⟨by decide, by decide, by decide +kernel⟩ (by decide) rfl (ok_Jx4a65c_size_8abf5 G)) (env_cons (ceV (by decide +kernel) ⟨by decide, by decide, by decide +kernel⟩ (by decide) rfl (ok_X4_allottedHour_t G G D S hW)) (env_cons (ceV (by decide +kernel) ⟨by decide, by decide, by decide +kernel⟩ (by decide) rfl (ok_X4_payFor G G D S hW)) (env_cons (ceV (by decide +kernel) ⟨by decide, by decide, by decide +kernel⟩ (by decide) rfl (ok_X4_warn G G D S hW)) (env_cons (ceV (by decide +kernel) ⟨by decide, by decide, by decide +kernel⟩ (by decide) rfl (ok_X4_evict G G D S hW)) (env_nil0 (env_hh rfl)))))))) ?_
  simp only [↓wpN_S, ↓step_u, ↓stC_s, stC_s, ↓stF_u, stF_u, ↓stepI, lenI, ↓kN_u, isS, ↓gI_0, ↓gI_S, ↓gL_0, ↓gL_S, ↓gD_0, ↓gD_S, ↓gR_0, ↓gR_S, ↓sI_c, ↓sL_c, ↓sD_c, ↓sR_c, ↓s1_r, ↓s1_i, ↓vR_r, ↓vR_n, ↓s0_n, s0_n, ↓oR_u, ↓sP_u, ↓sPa_0, ↓sPa_S, ↓lkC_c, ↓callK_u, ↓cQ_s, ↓cQ_n, putL, putW, clr, kil, catS, catN, refF, booF, finF, nF, nmOf_0, nmOf_1, nmOf_2, nmOf_3, nmOf_4, nmOf_5, nmOf_6, nmOf_50, nmOf_51, nmOf_52, ↓reduceIte, reduceIte, Bool.false_eq_true, eq_self, true_or, or_true, true_and, and_true, false_or, or_false, Nat.reduceAdd, Nat.reduceSub, Nat.reduceEqDiff, Nat.reduceLT, Nat.reduceLeDiff, reduceCtorEq, true_implies, List.length_cons, List.length_nil, List.replicate, List.cons_append, List.nil_append, mrt_X4_pass, mhh_X4_pass, mow_X4_pass, mnl_X4_pass, DX4_pass_0, DX4_pass_1, DX4_pass_2, DX4_pass_4, DX4_pass_7, DX4_pass_8, DX4_pass_11, DX4_pass_12, DX4_pass_13, DX4_pass_16, DX4_pass_19, DX4_pass_22, DX4_pass_23, DX4_pass_25, DX4_pass_28, DX4_pass_29, DX4_pass_30, DX4_pass_33, DX4_pass_34, DX4_pass_35, DX4_pass_36, DX4_pass_37, DX4_pass_38, DX4_pass_41, DX4_pass_42, DX4_pass_44, DX4_pass_46, DX4_pass_47, DX4_pass_50, DX4_pass_53, DX4_pass_56, DX4_pass_57, DX4_pass_58, DX4_pass_60, DX4_pass_63, DX4_pass_66, DX4_pass_69, DX4_pass_72, DX4_pass_73, DX4_pass_76, DX4_pass_77, DX4_pass_80, DX4_pass_81, DX4_pass_82, DX4_pass_85, DX4_pass_86, DX4_pass_87, DX4_pass_90, DX4_pass_93, DX4_pass_96, DX4_pass_97, DX4_pass_100, DX4_pass_101, DX4_pass_102, ce_X4_needArgument_t, ↓ct_X4_needArgument_t, ycl_X4_needArgument, ce_Jx4a65c_size_8abf5, ↓ct_Jx4a65c_size_8abf5, ycl_Jx4a65c_size_8abf5, ce_X4_allottedHour_t, ↓ct_X4_allottedHour_t, ycl_X4_allottedHour, ce_X4_payFor, ↓ct_X4_payFor, ycl_X4_payFor, ce_X4_warn, ↓ct_X4_warn, ycl_X4_warn, ce_X4_evict, ↓ct_X4_evict, ycl_X4_evict, cX_nil mhh_X4_pass]
  simp (disch := omega) only [i32_lit, i32_neg, i32_add, i32_mul, i32_sub, i32_nI, i32_lt, i32_le, i32_eq, inR_i, i32_clamp, i32_div, i32_max, i32_min, ite_max, ite_min, b2i_0, b2i_1, b2i_01, i32_toInt, tn_i, Int.toNat_natCast, em_t, true_and, and_true, Int.reduceToNat, Int.reduceLE, Int.reduceLT, Int.reduceAdd, Int.reduceMul, Int.reduceSub, Int.reduceNeg, Int.reduceEq, true_implies, not_true_eq_false, false_implies, not_false_eq_true, kC, rC0, rC1, rC2, rC3, rC4, kQ, rQ0, rQ1, kV, lV, kG, lG, kP, lP, kT, lT, LB1, LB2, LB3, LH1, LH2, LH3, LL1, LL2, LL3, dDy, dEv, true_and, and_true, Option.some.injEq, exists_eq_left', nmOf_0, nmOf_1, nmOf_2, nmOf_3, nmOf_4, nmOf_5, nmOf_6, Nat.add_sub_cancel, Nat.reduceSub, Nat.reduceLT, Nat.reduceEqDiff, ne_eq, not_false_eq_true]
  exact hz
set_option maxRecDepth 100000 in
set_option maxHeartbeats 4000000 in
theorem tl_X4_pass76 (G : GT) {D : WD} {S : SS} (hW : WF S) {h : Hp} {o1 o2 o3 o4 : Option Value} {Q : Option Value → Hp → Prop} {QX : String → Hp → Prop} (hI : CI G h D S)
    (hz : ∀ h', Fr h h' (WO D S) → CI G h' D (evcN S S.nl) → Wp G MX4_pass false 12 Q QX 80 [some (.ref (D 0 0)), o1, o2, o3, o4] [] h' (0, 0)) :
    Wp G MX4_pass false 12 Q QX 76 [some (.ref (D 0 0)), o1, o2, o3, o4] [] h (0, 0) := by
  have hD := hI.cd
  have hA0 := hD.1
  have hB0 := hD.2
  obtain ⟨⟨kC, rC0, rC1, rC2, rC3, rC4⟩, ⟨kQ, rQ0, rQ1⟩, ⟨kV, lV⟩, ⟨kG, lG⟩, ⟨kP, lP⟩, ⟨kT, lT⟩, ⟨⟨LB1, LB2, LB3, LB4, LB5, LB6, LB7⟩, ⟨LH1, LH2, LH3, LH4, LH5, LH6, LH7⟩, ⟨LL1, LL2, LL3, LL4, LL5, LL6, LL7⟩⟩, hKB, hHA, hKL, hCJ⟩ := hA0
  obtain ⟨dDy, dEv, dG, dP, dV, dB, dL, dH⟩ := hB0
  have hnb := hW.1
  have hnl := hW.2.1
  refine wpW (cs := [(42, ce_X4_needArgument_t), (49, ce_Jx4a65c_size_8abf5), (161, ce_X4_allottedHour_t G D S), (229, ce_X4_payFor G D S), (233, ce_X4_warn G D S), (236, ce_X4_evict G D S)]) (stop := [80]) (n := 200) (env_cons (ceS (by decide +kernel) ⟨by decide, by decide, by decide +kernel⟩ (by decide) (ok_X4_needArgument_t G)) (env_cons (ceV (by decide +kernel) ⟨by decide, by decide, by decide +kernel⟩ (by decide) rfl (ok_Jx4a65c_size_8abf5 G)) (env_cons (ceV (by decide +kernel) ⟨by decide, by decide, by decide +kernel⟩ (by decide) rfl (ok_X4_allottedHour_t G G D S hW)) (env_cons (ceV (by decide +kernel) ⟨by decide, by decide, by decide +kernel⟩ (by decide) rfl (ok_X4_payFor G G D S hW)) (env_cons (ceV (by decide +kernel) ⟨by decide, by decide, by decide +kernel⟩ (by decide) rfl (ok_X4_warn G G D S hW)) (env_cons (ceV (by decide +kernel) ⟨by decide, by decide, by decide +kernel⟩ (by decide) rfl (ok_X4_evict G G D S hW)) (env_nil0 (env_hh rfl)))))))) ?_
  simp only [↓wpN_S, ↓step_u, ↓stC_s, stC_s, ↓stF_u, stF_u, ↓stepI, lenI, ↓kN_u, isS, ↓gI_0, ↓gI_S, ↓gL_0, ↓gL_S, ↓gD_0, ↓gD_S, ↓gR_0, ↓gR_S, ↓sI_c, ↓sL_c, ↓sD_c, ↓sR_c, ↓s1_r, ↓s1_i, ↓vR_r, ↓vR_n, ↓s0_n, s0_n, ↓oR_u, ↓sP_u, ↓sPa_0, ↓sPa_S, ↓lkC_c, ↓callK_u, ↓cQ_s, ↓cQ_n, putL, putW, clr, kil, catS, catN, refF, booF, finF, nF, nmOf_0, nmOf_1, nmOf_2, nmOf_3, nmOf_4, nmOf_5, nmOf_6, nmOf_50, nmOf_51, nmOf_52, ↓reduceIte, reduceIte, Bool.false_eq_true, eq_self, true_or, or_true, true_and, and_true, false_or, or_false, Nat.reduceAdd, Nat.reduceSub, Nat.reduceEqDiff, Nat.reduceLT, Nat.reduceLeDiff, reduceCtorEq, true_implies, List.length_cons, List.length_nil, List.replicate, List.cons_append, List.nil_append, mrt_X4_pass, mhh_X4_pass, mow_X4_pass, mnl_X4_pass, DX4_pass_0, DX4_pass_1, DX4_pass_2, DX4_pass_4, DX4_pass_7, DX4_pass_8, DX4_pass_11, DX4_pass_12, DX4_pass_13, DX4_pass_16, DX4_pass_19, DX4_pass_22, DX4_pass_23, DX4_pass_25, DX4_pass_28, DX4_pass_29, DX4_pass_30, DX4_pass_33, DX4_pass_34, DX4_pass_35, DX4_pass_36, DX4_pass_37, DX4_pass_38, DX4_pass_41, DX4_pass_42, DX4_pass_44, DX4_pass_46, DX4_pass_47, DX4_pass_50, DX4_pass_53, DX4_pass_56, DX4_pass_57, DX4_pass_58, DX4_pass_60, DX4_pass_63, DX4_pass_66, DX4_pass_69, DX4_pass_72, DX4_pass_73, DX4_pass_76, DX4_pass_77, DX4_pass_80, DX4_pass_81, DX4_pass_82, DX4_pass_85, DX4_pass_86, DX4_pass_87, DX4_pass_90, DX4_pass_93, DX4_pass_96, DX4_pass_97, DX4_pass_100, DX4_pass_101, DX4_pass_102, ce_X4_needArgument_t, ↓ct_X4_needArgument_t, ycl_X4_needArgument, ce_Jx4a65c_size_8abf5, ↓ct_Jx4a65c_size_8abf5, ycl_Jx4a65c_size_8abf5, ce_X4_allottedHour_t, ↓ct_X4_allottedHour_t, ycl_X4_allottedHour, ce_X4_payFor, ↓ct_X4_payFor, ycl_X4_payFor, ce_X4_warn, ↓ct_X4_warn, ycl_X4_warn, ce_X4_evict, ↓ct_X4_evict, ycl_X4_evict, cX_nil mhh_X4_pass]
  simp (disch := omega) only [i32_lit, i32_neg, i32_add, i32_mul, i32_sub, i32_nI, i32_lt, i32_le, i32_eq, inR_i, i32_clamp, i32_div, i32_max, i32_min, ite_max, ite_min, b2i_0, b2i_1, b2i_01, i32_toInt, tn_i, Int.toNat_natCast, em_t, true_and, and_true, Int.reduceToNat, Int.reduceLE, Int.reduceLT, Int.reduceAdd, Int.reduceMul, Int.reduceSub, Int.reduceNeg, Int.reduceEq, true_implies, not_true_eq_false, false_implies, not_false_eq_true, kC, rC0, rC1, rC2, rC3, rC4, kQ, rQ0, rQ1, kV, lV, kG, lG, kP, lP, kT, lT, LB1, LB2, LB3, LH1, LH2, LH3, LL1, LL2, LL3, dDy, dEv, true_and, and_true, Option.some.injEq, exists_eq_left', nmOf_0, nmOf_1, nmOf_2, nmOf_3, nmOf_4, nmOf_5, nmOf_6, Nat.add_sub_cancel, Nat.reduceSub, Nat.reduceLT, Nat.reduceEqDiff, ne_eq, not_false_eq_true, hI]
  exact hz
set_option maxRecDepth 100000 in
set_option maxHeartbeats 4000000 in
theorem tl_X4_pass72 (G : GT) {D : WD} {S : SS} (hW : WF S) (hw : WW S) {h : Hp} {o1 o2 o3 o4 : Option Value} {Q : Option Value → Hp → Prop} {QX : String → Hp → Prop} (hI : CI G h D S)
    (hz : ∀ h', Fr h h' (WO D S) → CI G h' D (wrN S S.nl) → Wp G MX4_pass false 12 Q QX 76 [some (.ref (D 0 0)), o1, o2, o3, o4] [] h' (0, 0)) :
    Wp G MX4_pass false 12 Q QX 72 [some (.ref (D 0 0)), o1, o2, o3, o4] [] h (0, 0) := by
  have hD := hI.cd
  have hA0 := hD.1
  have hB0 := hD.2
  obtain ⟨⟨kC, rC0, rC1, rC2, rC3, rC4⟩, ⟨kQ, rQ0, rQ1⟩, ⟨kV, lV⟩, ⟨kG, lG⟩, ⟨kP, lP⟩, ⟨kT, lT⟩, ⟨⟨LB1, LB2, LB3, LB4, LB5, LB6, LB7⟩, ⟨LH1, LH2, LH3, LH4, LH5, LH6, LH7⟩, ⟨LL1, LL2, LL3, LL4, LL5, LL6, LL7⟩⟩, hKB, hHA, hKL, hCJ⟩ := hA0
  obtain ⟨dDy, dEv, dG, dP, dV, dB, dL, dH⟩ := hB0
  have hnb := hW.1
  have hnl := hW.2.1
  refine wpW (cs := [(42, ce_X4_needArgument_t), (49, ce_Jx4a65c_size_8abf5), (161, ce_X4_allottedHour_t G D S), (229, ce_X4_payFor G D S), (233, ce_X4_warn G D S), (236, ce_X4_evict G D S)]) (stop := [76]) (n := 200) (env_cons (ceS (by decide +kernel) ⟨by decide, by decide, by decide +kernel⟩ (by decide) (ok_X4_needArgument_t G)) (env_cons (ceV (by decide +kernel) ⟨by decide, by decide, by decide +kernel⟩ (by decide) rfl (ok_Jx4a65c_size_8abf5 G)) (env_cons (ceV (by decide +kernel) ⟨by decide, by decide, by decide +kernel⟩ (by decide) rfl (ok_X4_allottedHour_t G G D S hW)) (env_cons (ceV (by decide +kernel) ⟨by decide, by decide, by decide +kernel⟩ (by decide) rfl (ok_X4_payFor G G D S hW)) (env_cons (ceV (by decide +kernel) ⟨by decide, by decide, by decide +kernel⟩ (by decide) rfl (ok_X4_warn G G D S hW)) (env_cons (ceV (by decide +kernel) ⟨by decide, by decide, by decide +kernel⟩ (by decide) rfl (ok_X4_evict G G D S hW)) (env_nil0 (env_hh rfl)))))))) ?_
  simp only [↓wpN_S, ↓step_u, ↓stC_s, stC_s, ↓stF_u, stF_u, ↓stepI, lenI, ↓kN_u, isS, ↓gI_0, ↓gI_S, ↓gL_0, ↓gL_S, ↓gD_0, ↓gD_S, ↓gR_0, ↓gR_S, ↓sI_c, ↓sL_c, ↓sD_c, ↓sR_c, ↓s1_r, ↓s1_i, ↓vR_r, ↓vR_n, ↓s0_n, s0_n, ↓oR_u, ↓sP_u, ↓sPa_0, ↓sPa_S, ↓lkC_c, ↓callK_u, ↓cQ_s, ↓cQ_n, putL, putW, clr, kil, catS, catN, refF, booF, finF, nF, nmOf_0, nmOf_1, nmOf_2, nmOf_3, nmOf_4, nmOf_5, nmOf_6, nmOf_50, nmOf_51, nmOf_52, ↓reduceIte, reduceIte, Bool.false_eq_true, eq_self, true_or, or_true, true_and, and_true, false_or, or_false, Nat.reduceAdd, Nat.reduceSub, Nat.reduceEqDiff, Nat.reduceLT, Nat.reduceLeDiff, reduceCtorEq, true_implies, List.length_cons, List.length_nil, List.replicate, List.cons_append, List.nil_append, mrt_X4_pass, mhh_X4_pass, mow_X4_pass, mnl_X4_pass, DX4_pass_0, DX4_pass_1, DX4_pass_2, DX4_pass_4, DX4_pass_7, DX4_pass_8, DX4_pass_11, DX4_pass_12, DX4_pass_13, DX4_pass_16, DX4_pass_19, DX4_pass_22, DX4_pass_23, DX4_pass_25, DX4_pass_28, DX4_pass_29, DX4_pass_30, DX4_pass_33, DX4_pass_34, DX4_pass_35, DX4_pass_36, DX4_pass_37, DX4_pass_38, DX4_pass_41, DX4_pass_42, DX4_pass_44, DX4_pass_46, DX4_pass_47, DX4_pass_50, DX4_pass_53, DX4_pass_56, DX4_pass_57, DX4_pass_58, DX4_pass_60, DX4_pass_63, DX4_pass_66, DX4_pass_69, DX4_pass_72, DX4_pass_73, DX4_pass_76, DX4_pass_77, DX4_pass_80, DX4_pass_81, DX4_pass_82, DX4_pass_85, DX4_pass_86, DX4_pass_87, DX4_pass_90, DX4_pass_93, DX4_pass_96, DX4_pass_97, DX4_pass_100, DX4_pass_101, DX4_pass_102, ce_X4_needArgument_t, ↓ct_X4_needArgument_t, ycl_X4_needArgument, ce_Jx4a65c_size_8abf5, ↓ct_Jx4a65c_size_8abf5, ycl_Jx4a65c_size_8abf5, ce_X4_allottedHour_t, ↓ct_X4_allottedHour_t, ycl_X4_allottedHour, ce_X4_payFor, ↓ct_X4_payFor, ycl_X4_payFor, ce_X4_warn, ↓ct_X4_warn, ycl_X4_warn, ce_X4_evict, ↓ct_X4_evict, ycl_X4_evict, cX_nil mhh_X4_pass]
  simp (disch := omega) only [i32_lit, i32_neg, i32_add, i32_mul, i32_sub, i32_nI, i32_lt, i32_le, i32_eq, inR_i, i32_clamp, i32_div, i32_max, i32_min, ite_max, ite_min, b2i_0, b2i_1, b2i_01, i32_toInt, tn_i, Int.toNat_natCast, em_t, true_and, and_true, Int.reduceToNat, Int.reduceLE, Int.reduceLT, Int.reduceAdd, Int.reduceMul, Int.reduceSub, Int.reduceNeg, Int.reduceEq, true_implies, not_true_eq_false, false_implies, not_false_eq_true, kC, rC0, rC1, rC2, rC3, rC4, kQ, rQ0, rQ1, kV, lV, kG, lG, kP, lP, kT, lT, LB1, LB2, LB3, LH1, LH2, LH3, LL1, LL2, LL3, dDy, dEv, true_and, and_true, Option.some.injEq, exists_eq_left', nmOf_0, nmOf_1, nmOf_2, nmOf_3, nmOf_4, nmOf_5, nmOf_6, Nat.add_sub_cancel, Nat.reduceSub, Nat.reduceLT, Nat.reduceEqDiff, ne_eq, not_false_eq_true, hI]
  exact ⟨hw, hz⟩
set_option maxRecDepth 100000 in
set_option maxHeartbeats 4000000 in
theorem lp_X4_pass44 (G : GT) {D : WD} {S0 : SS} (hW0 : WF S0) {h0 : Hp} {o1 o2 o3 : Option Value} {Q : Option Value → Hp → Prop} {QX : String → Hp → Prop}
    (hz : ∀ h', Fr h0 h' (WO D S0) → CI G h' D (pdN S0 S0.nl) → ∀ o4, Wp G MX4_pass false 12 Q QX 72 [some (.ref (D 0 0)), o1, o2, o3, o4] [] h' (0, 0)) :
    ∀ k n : Nat, n + k = 12 → ∀ S, S = paS S0 (hrs S0 n) → WF S → ∀ h, Fr h0 h (WO D S0) → CI G h D S → Wp G MX4_pass false 12 Q QX 44 [some (.ref (D 0 0)), o1, o2, o3, some (.int (i32 n))] [] h (0, 0) := by
  intro k
  induction k with
  | zero =>
    intro n hn S e hW h f hI
    have en : n = 12 := by omega
    subst en
    have hz2 := hz h f (by rw [← hrs_e, ← e]; exact hI) (some (.int (i32 ((12 : Nat) : Int))))
    have hD := hI.cd
    have hA0 := hD.1
    have hB0 := hD.2
    obtain ⟨⟨kC, rC0, rC1, rC2, rC3, rC4⟩, ⟨kQ, rQ0, rQ1⟩, ⟨kV, lV⟩, ⟨kG, lG⟩, ⟨kP, lP⟩, ⟨kT, lT⟩, ⟨⟨LB1, LB2, LB3, LB4, LB5, LB6, LB7⟩, ⟨LH1, LH2, LH3, LH4, LH5, LH6, LH7⟩, ⟨LL1, LL2, LL3, LL4, LL5, LL6, LL7⟩⟩, hKB, hHA, hKL, hCJ⟩ := hA0
    obtain ⟨dDy, dEv, dG, dP, dV, dB, dL, dH⟩ := hB0
    have hnb := hW.1
    have hnl := hW.2.1
    refine wpW (cs := [(42, ce_X4_needArgument_t), (49, ce_Jx4a65c_size_8abf5), (161, ce_X4_allottedHour_t G D S), (229, ce_X4_payFor G D S), (233, ce_X4_warn G D S), (236, ce_X4_evict G D S)]) (stop := [44, 72]) (n := 200) (env_cons (ceS (by decide +kernel) ⟨by decide, by decide, by decide +kernel⟩ (by decide) (ok_X4_needArgument_t G)) (env_cons (ceV (by decide +kernel) ⟨by decide, by decide, by decide +kernel⟩ (by decide) rfl (ok_Jx4a65c_size_8abf5 G)) (env_cons (ceV (by decide +kernel) ⟨by decide, by decide, by decide +kernel⟩ (by decide) rfl (ok_X4_allottedHour_t G G D S hW)) (env_cons (ceV (by decide +kernel) ⟨by decide, by decide, by decide +kernel⟩ (by decide) rfl (ok_X4_payFor G G D S hW)) (env_cons (ceV (by decide +kernel) ⟨by decide, by decide, by decide +kernel⟩ (by decide) rfl (ok_X4_warn G G D S hW)) (env_cons (ceV (by decide +kernel) ⟨by decide, by decide, by decide +kernel⟩ (by decide) rfl (ok_X4_evict G G D S hW)) (env_nil0 (env_hh rfl)))))))) ?_
    simp only [↓wpN_S, ↓step_u, ↓stC_s, stC_s, ↓stF_u, stF_u, ↓stepI, lenI, ↓kN_u, isS, ↓gI_0, ↓gI_S, ↓gL_0, ↓gL_S, ↓gD_0, ↓gD_S, ↓gR_0, ↓gR_S, ↓sI_c, ↓sL_c, ↓sD_c, ↓sR_c, ↓s1_r, ↓s1_i, ↓vR_r, ↓vR_n, ↓s0_n, s0_n, ↓oR_u, ↓sP_u, ↓sPa_0, ↓sPa_S, ↓lkC_c, ↓callK_u, ↓cQ_s, ↓cQ_n, putL, putW, clr, kil, catS, catN, refF, booF, finF, nF, nmOf_0, nmOf_1, nmOf_2, nmOf_3, nmOf_4, nmOf_5, nmOf_6, nmOf_50, nmOf_51, nmOf_52, ↓reduceIte, reduceIte, Bool.false_eq_true, eq_self, true_or, or_true, true_and, and_true, false_or, or_false, Nat.reduceAdd, Nat.reduceSub, Nat.reduceEqDiff, Nat.reduceLT, Nat.reduceLeDiff, reduceCtorEq, true_implies, List.length_cons, List.length_nil, List.replicate, List.cons_append, List.nil_append, mrt_X4_pass, mhh_X4_pass, mow_X4_pass, mnl_X4_pass, DX4_pass_0, DX4_pass_1, DX4_pass_2, DX4_pass_4, DX4_pass_7, DX4_pass_8, DX4_pass_11, DX4_pass_12, DX4_pass_13, DX4_pass_16, DX4_pass_19, DX4_pass_22, DX4_pass_23, DX4_pass_25, DX4_pass_28, DX4_pass_29, DX4_pass_30, DX4_pass_33, DX4_pass_34, DX4_pass_35, DX4_pass_36, DX4_pass_37, DX4_pass_38, DX4_pass_41, DX4_pass_42, DX4_pass_44, DX4_pass_46, DX4_pass_47, DX4_pass_50, DX4_pass_53, DX4_pass_56, DX4_pass_57, DX4_pass_58, DX4_pass_60, DX4_pass_63, DX4_pass_66, DX4_pass_69, DX4_pass_72, DX4_pass_73, DX4_pass_76, DX4_pass_77, DX4_pass_80, DX4_pass_81, DX4_pass_82, DX4_pass_85, DX4_pass_86, DX4_pass_87, DX4_pass_90, DX4_pass_93, DX4_pass_96, DX4_pass_97, DX4_pass_100, DX4_pass_101, DX4_pass_102, ce_X4_needArgument_t, ↓ct_X4_needArgument_t, ycl_X4_needArgument, ce_Jx4a65c_size_8abf5, ↓ct_Jx4a65c_size_8abf5, ycl_Jx4a65c_size_8abf5, ce_X4_allottedHour_t, ↓ct_X4_allottedHour_t, ycl_X4_allottedHour, ce_X4_payFor, ↓ct_X4_payFor, ycl_X4_payFor, ce_X4_warn, ↓ct_X4_warn, ycl_X4_warn, ce_X4_evict, ↓ct_X4_evict, ycl_X4_evict, cX_nil mhh_X4_pass]
    simp (disch := omega) only [i32_lit, i32_neg, i32_add, i32_mul, i32_sub, i32_nI, i32_lt, i32_le, i32_eq, inR_i, i32_clamp, i32_div, i32_max, i32_min, ite_max, ite_min, b2i_0, b2i_1, b2i_01, i32_toInt, tn_i, Int.toNat_natCast, em_t, true_and, and_true, Int.reduceToNat, Int.reduceLE, Int.reduceLT, Int.reduceAdd, Int.reduceMul, Int.reduceSub, Int.reduceNeg, Int.reduceEq, true_implies, not_true_eq_false, false_implies, not_false_eq_true, kC, rC0, rC1, rC2, rC3, rC4, kQ, rQ0, rQ1, kV, lV, kG, lG, kP, lP, kT, lT, LB1, LB2, LB3, LH1, LH2, LH3, LL1, LL2, LL3, dDy, dEv, true_and, and_true, Option.some.injEq, exists_eq_left', nmOf_0, nmOf_1, nmOf_2, nmOf_3, nmOf_4, nmOf_5, nmOf_6, Nat.add_sub_cancel, Nat.reduceSub, Nat.reduceLT, Nat.reduceEqDiff, ne_eq, not_false_eq_true]
    exact ⟨fun _ => hz2, fun z => by omega⟩
  | succ k ih =>
    intro n hn S e hW h f hI
    have hD := hI.cd
    have hn' : n < 12 := by omega
    have hA0 := hD.1
    have hB0 := hD.2
    obtain ⟨⟨kC, rC0, rC1, rC2, rC3, rC4⟩, ⟨kQ, rQ0, rQ1⟩, ⟨kV, lV⟩, ⟨kG, lG⟩, ⟨kP, lP⟩, ⟨kT, lT⟩, ⟨⟨LB1, LB2, LB3, LB4, LB5, LB6, LB7⟩, ⟨LH1, LH2, LH3, LH4, LH5, LH6, LH7⟩, ⟨LL1, LL2, LL3, LL4, LL5, LL6, LL7⟩⟩, hKB, hHA, hKL, hCJ⟩ := hA0
    obtain ⟨dDy, dEv, dG, dP, dV, dB, dL, dH⟩ := hB0
    have hnb := hW.1
    have hnl := hW.2.1
    refine wpW (cs := [(42, ce_X4_needArgument_t), (49, ce_Jx4a65c_size_8abf5), (161, ce_X4_allottedHour_t G D S), (229, ce_X4_payFor G D S), (233, ce_X4_warn G D S), (236, ce_X4_evict G D S)]) (stop := [44, 63, 72]) (n := 200) (env_cons (ceS (by decide +kernel) ⟨by decide, by decide, by decide +kernel⟩ (by decide) (ok_X4_needArgument_t G)) (env_cons (ceV (by decide +kernel) ⟨by decide, by decide, by decide +kernel⟩ (by decide) rfl (ok_Jx4a65c_size_8abf5 G)) (env_cons (ceV (by decide +kernel) ⟨by decide, by decide, by decide +kernel⟩ (by decide) rfl (ok_X4_allottedHour_t G G D S hW)) (env_cons (ceV (by decide +kernel) ⟨by decide, by decide, by decide +kernel⟩ (by decide) rfl (ok_X4_payFor G G D S hW)) (env_cons (ceV (by decide +kernel) ⟨by decide, by decide, by decide +kernel⟩ (by decide) rfl (ok_X4_warn G G D S hW)) (env_cons (ceV (by decide +kernel) ⟨by decide, by decide, by decide +kernel⟩ (by decide) rfl (ok_X4_evict G G D S hW)) (env_nil0 (env_hh rfl)))))))) ?_
    simp only [↓wpN_S, ↓step_u, ↓stC_s, stC_s, ↓stF_u, stF_u, ↓stepI, lenI, ↓kN_u, isS, ↓gI_0, ↓gI_S, ↓gL_0, ↓gL_S, ↓gD_0, ↓gD_S, ↓gR_0, ↓gR_S, ↓sI_c, ↓sL_c, ↓sD_c, ↓sR_c, ↓s1_r, ↓s1_i, ↓vR_r, ↓vR_n, ↓s0_n, s0_n, ↓oR_u, ↓sP_u, ↓sPa_0, ↓sPa_S, ↓lkC_c, ↓callK_u, ↓cQ_s, ↓cQ_n, putL, putW, clr, kil, catS, catN, refF, booF, finF, nF, nmOf_0, nmOf_1, nmOf_2, nmOf_3, nmOf_4, nmOf_5, nmOf_6, nmOf_50, nmOf_51, nmOf_52, ↓reduceIte, reduceIte, Bool.false_eq_true, eq_self, true_or, or_true, true_and, and_true, false_or, or_false, Nat.reduceAdd, Nat.reduceSub, Nat.reduceEqDiff, Nat.reduceLT, Nat.reduceLeDiff, reduceCtorEq, true_implies, List.length_cons, List.length_nil, List.replicate, List.cons_append, List.nil_append, mrt_X4_pass, mhh_X4_pass, mow_X4_pass, mnl_X4_pass, DX4_pass_0, DX4_pass_1, DX4_pass_2, DX4_pass_4, DX4_pass_7, DX4_pass_8, DX4_pass_11, DX4_pass_12, DX4_pass_13, DX4_pass_16, DX4_pass_19, DX4_pass_22, DX4_pass_23, DX4_pass_25, DX4_pass_28, DX4_pass_29, DX4_pass_30, DX4_pass_33, DX4_pass_34, DX4_pass_35, DX4_pass_36, DX4_pass_37, DX4_pass_38, DX4_pass_41, DX4_pass_42, DX4_pass_44, DX4_pass_46, DX4_pass_47, DX4_pass_50, DX4_pass_53, DX4_pass_56, DX4_pass_57, DX4_pass_58, DX4_pass_60, DX4_pass_63, DX4_pass_66, DX4_pass_69, DX4_pass_72, DX4_pass_73, DX4_pass_76, DX4_pass_77, DX4_pass_80, DX4_pass_81, DX4_pass_82, DX4_pass_85, DX4_pass_86, DX4_pass_87, DX4_pass_90, DX4_pass_93, DX4_pass_96, DX4_pass_97, DX4_pass_100, DX4_pass_101, DX4_pass_102, ce_X4_needArgument_t, ↓ct_X4_needArgument_t, ycl_X4_needArgument, ce_Jx4a65c_size_8abf5, ↓ct_Jx4a65c_size_8abf5, ycl_Jx4a65c_size_8abf5, ce_X4_allottedHour_t, ↓ct_X4_allottedHour_t, ycl_X4_allottedHour, ce_X4_payFor, ↓ct_X4_payFor, ycl_X4_payFor, ce_X4_warn, ↓ct_X4_warn, ycl_X4_warn, ce_X4_evict, ↓ct_X4_evict, ycl_X4_evict, cX_nil mhh_X4_pass]
    simp (disch := omega) only [i32_lit, i32_neg, i32_add, i32_mul, i32_sub, i32_nI, i32_lt, i32_le, i32_eq, inR_i, i32_clamp, i32_div, i32_max, i32_min, ite_max, ite_min, b2i_0, b2i_1, b2i_01, i32_toInt, tn_i, Int.toNat_natCast, em_t, true_and, and_true, Int.reduceToNat, Int.reduceLE, Int.reduceLT, Int.reduceAdd, Int.reduceMul, Int.reduceSub, Int.reduceNeg, Int.reduceEq, true_implies, not_true_eq_false, false_implies, not_false_eq_true, kC, rC0, rC1, rC2, rC3, rC4, kQ, rQ0, rQ1, kV, lV, kG, lG, kP, lP, kT, lT, LB1, LB2, LB3, LH1, LH2, LH3, LL1, LL2, LL3, dDy, dEv, true_and, and_true, Option.some.injEq, exists_eq_left', nmOf_0, nmOf_1, nmOf_2, nmOf_3, nmOf_4, nmOf_5, nmOf_6, Nat.add_sub_cancel, Nat.reduceSub, Nat.reduceLT, Nat.reduceEqDiff, ne_eq, not_false_eq_true, hI]
    trace_state
    done
