/-! ===== the class: warn, evict ===== -/
def wrN (S : SS) (n : Nat) : SS := (S.1, S.2.1, S.2.2.1, fun l k => if (l < n ∧ S.lf l 6 ≠ 0) ∧ k = 7 then wv S l else S.lf l k, S.2.2.2.2)
theorem lf_wrN {S : SS} {n l k : Nat} : (wrN S n).lf l k = if (l < n ∧ S.lf l 6 ≠ 0) ∧ k = 7 then wv S l else S.lf l k := rfl
theorem sml_wrN {S : SS} {n : Nat} : sml (wrN S n) S := ⟨rfl, rfl, rfl, rfl, fun l k hk => by rw [lf_wrN, if_neg (by omega)]⟩
theorem wrN_0 {S : SS} : wrN S 0 = S := SS_ext rfl rfl (fun _ _ => rfl) (fun l k => by rw [lf_wrN, if_neg (by omega)]) (fun _ _ => rfl) (fun _ => rfl) (fun _ => rfl) rfl rfl
theorem wrN_k {S : SS} {n : Nat} (h : S.lf n 6 = 0) : wrN S n = wrN S (n + 1) := by
  refine SS_ext rfl rfl (fun _ _ => rfl) (fun l k => ?_) (fun _ _ => rfl) (fun _ => rfl) (fun _ => rfl) rfl rfl
  rw [lf_wrN, lf_wrN]
  by_cases q : (l < n ∧ S.lf l 6 ≠ 0) ∧ k = 7
  · rw [if_pos q, if_pos (⟨⟨by omega, q.1.2⟩, q.2⟩ : (l < n + 1 ∧ S.lf l 6 ≠ 0) ∧ k = 7)]
  · rw [if_neg q, if_neg (fun z : (l < n + 1 ∧ S.lf l 6 ≠ 0) ∧ k = 7 => q ⟨⟨by rcases Nat.lt_or_ge l n with u | u; exact u; exact absurd (by rw [show l = n by omega]; exact h) z.1.2, z.1.2⟩, z.2⟩)]
theorem wrN_s {S : SS} {n : Nat} (h : S.lf n 6 ≠ 0) : (wrN S n).uL n 7 (wv S n) = wrN S (n + 1) := by
  refine SS_ext rfl rfl (fun _ _ => rfl) (fun l k => ?_) (fun _ _ => rfl) (fun _ => rfl) (fun _ => rfl) rfl rfl
  rw [lf_uL, lf_wrN, lf_wrN]
  by_cases e : l = n ∧ k = 7
  · rw [if_pos e, if_pos (⟨⟨by omega, by rw [e.1]; exact h⟩, e.2⟩ : (l < n + 1 ∧ S.lf l 6 ≠ 0) ∧ k = 7), e.1]
  · rw [if_neg e]
    by_cases q : (l < n ∧ S.lf l 6 ≠ 0) ∧ k = 7
    · rw [if_pos q, if_pos (⟨⟨by omega, q.1.2⟩, q.2⟩ : (l < n + 1 ∧ S.lf l 6 ≠ 0) ∧ k = 7)]
    · rw [if_neg q, if_neg (fun z : (l < n + 1 ∧ S.lf l 6 ≠ 0) ∧ k = 7 => q ⟨⟨by omega, z.1.2⟩, z.2⟩)]
theorem WF_wrN {S : SS} {n : Nat} (hW : WF S) (hw : WW S) : WF (wrN S n) := by
  refine WF_l hW rfl rfl rfl rfl ⟨hW.2.2.2.2.2.1, hW.2.2.2.2.2.2.1⟩ (fun l hl => ?_)
  have h := hW.2.2.2.1 l hl
  have e2 : (wrN S n).nb = S.nb := rfl
  simp only [lf_wrN, e2, Nat.reduceEqDiff, and_false, if_false, and_true]
  by_cases u : l < n ∧ S.lf l 6 ≠ 0
  · have h2 := wv_b hW hw hl u.2
    rw [if_pos u]; omega
  · rw [if_neg u]; exact h
def ct_X4_warn (G : GT) (D : WD) (S : SS) : Ct := fun As h Q _ => sR As fun c r => s0 r (CI G h D S ∧ WW S ∧ c = D 0 0 ∧ ∀ h', Fr h h' (WO D S) → CI G h' D (wrN S S.nl) → Q none h')
def ce_X4_warn (G : GT) (D : WD) (S : SS) : CE := (0, yX4_warn, MX4_warn, 0, 11, 0, 0, ct_X4_warn G D S)
set_option maxRecDepth 100000 in
set_option maxHeartbeats 4000000 in
theorem lp_X4_warn (G : GT) {D : WD} {S0 : SS} (hW0 : WF S0) (hw0 : WW S0) {h0 : Hp} {Q : Option Value → Hp → Prop} {QX : String → Hp → Prop} (hq : ∀ h', Fr h0 h' (WO D S0) → CI G h' D (wrN S0 S0.nl) → Q none h') :
    ∀ k n : Nat, n + k = S0.nl → ∀ S, S = wrN S0 n → WF S → ∀ h, Fr h0 h (WO D S0) → CI G h D S → ∀ o2 o3, Wp G MX4_warn false 11 Q QX 2 [some (.ref (D 0 0)), some (.int (i32 n)), o2, o3] [] h (0, 0) := by
  intro k
  induction k with
  | zero =>
    intro n hn S e hW h f hI o2 o3
    have en : n = S0.nl := by omega
    have hz := hq h f (by rw [← en, ← e]; exact hI)
    have e1 : S.nl = S0.nl := by rw [e]; rfl
    have hD := hI.cd
    have hA0 := hD.1
    have hB0 := hD.2
    obtain ⟨⟨kC, rC0, rC1, rC2, rC3, rC4⟩, ⟨kQ, rQ0, rQ1⟩, ⟨kV, lV⟩, ⟨kG, lG⟩, ⟨kP, lP⟩, ⟨kT, lT⟩, ⟨⟨LB1, LB2, LB3, LB4, LB5, LB6, LB7⟩, ⟨LH1, LH2, LH3, LH4, LH5, LH6, LH7⟩, ⟨LL1, LL2, LL3, LL4, LL5, LL6, LL7⟩⟩, hKB, hHA, hKL, hCJ⟩ := hA0
    obtain ⟨dDy, dEv, dG, dP, dV, dB, dL, dH⟩ := hB0
    have hnb := hW.1
    have hnl := hW.2.1
    refine wpW (cs := [(49, ce_Jx4a65c_size_8abf5), (84, ce_Jx4a65c_get_915e3), (201, ce_X4_shortHours G D S), (261, ce_X2_hourCount G D S)]) (stop := [2, 70]) (n := 200) (env_cons (ceV (by decide +kernel) ⟨by decide, by decide, by decide +kernel⟩ (by decide) rfl (ok_Jx4a65c_size_8abf5 G)) (env_cons (ceV (by decide +kernel) ⟨by decide, by decide, by decide +kernel⟩ (by decide) rfl (ok_Jx4a65c_get_915e3 G)) (env_cons (ceV (by decide +kernel) ⟨by decide, by decide, by decide +kernel⟩ (by decide) rfl (ok_X4_shortHours G G D S hW)) (env_cons (ceV (by decide +kernel) ⟨by decide, by decide, by decide +kernel⟩ (by decide) rfl (ok_X2_hourCount G G D S hW)) (env_nil0 (env_hh rfl)))))) ?_
    simp only [↓wpN_S, ↓step_u, ↓stC_s, stC_s, ↓stF_u, stF_u, ↓stepI, lenI, ↓kN_u, isS, ↓gI_0, ↓gI_S, ↓gL_0, ↓gL_S, ↓gD_0, ↓gD_S, ↓gR_0, ↓gR_S, ↓sI_c, ↓sL_c, ↓sD_c, ↓sR_c, ↓s1_r, ↓s1_i, ↓vR_r, ↓vR_n, ↓s0_n, s0_n, ↓oR_u, ↓sP_u, ↓sPa_0, ↓sPa_S, ↓lkC_c, ↓callK_u, ↓cQ_s, ↓cQ_n, putL, putW, clr, kil, catS, catN, refF, booF, finF, nF, nmOf_0, nmOf_1, nmOf_2, nmOf_3, nmOf_4, nmOf_5, nmOf_6, nmOf_50, nmOf_51, nmOf_52, ↓reduceIte, reduceIte, Bool.false_eq_true, eq_self, true_or, or_true, true_and, and_true, false_or, or_false, Nat.reduceAdd, Nat.reduceSub, Nat.reduceEqDiff, Nat.reduceLT, Nat.reduceLeDiff, reduceCtorEq, true_implies, List.length_cons, List.length_nil, List.replicate, List.cons_append, List.nil_append, mrt_X4_warn, mhh_X4_warn, mow_X4_warn, mnl_X4_warn, DX4_warn_0, DX4_warn_1, DX4_warn_2, DX4_warn_3, DX4_warn_4, DX4_warn_7, DX4_warn_10, DX4_warn_13, DX4_warn_14, DX4_warn_17, DX4_warn_18, DX4_warn_21, DX4_warn_24, DX4_warn_25, DX4_warn_26, DX4_warn_29, DX4_warn_32, DX4_warn_33, DX4_warn_34, DX4_warn_35, DX4_warn_38, DX4_warn_39, DX4_warn_40, DX4_warn_43, DX4_warn_46, DX4_warn_47, DX4_warn_50, DX4_warn_51, DX4_warn_52, DX4_warn_53, DX4_warn_54, DX4_warn_57, DX4_warn_58, DX4_warn_61, DX4_warn_62, DX4_warn_63, DX4_warn_66, DX4_warn_67, DX4_warn_70, DX4_warn_73, DX4_warn_76, nxr, ce_Jx4a65c_size_8abf5, ↓ct_Jx4a65c_size_8abf5, ycl_Jx4a65c_size_8abf5, ce_Jx4a65c_get_915e3, ↓ct_Jx4a65c_get_915e3, ycl_Jx4a65c_get_915e3, ce_X4_shortHours, ↓ct_X4_shortHours, ycl_X4_shortHours, ce_X2_hourCount, ↓ct_X2_hourCount, ycl_X2_hourCount, cX_nil mhh_X4_warn]
    simp (disch := omega) only [i32_lit, i32_neg, i32_add, i32_mul, i32_sub, i32_nI, i32_lt, i32_le, i32_eq, inR_i, i32_clamp, i32_div, i32_max, i32_min, ite_max, ite_min, b2i_0, b2i_1, b2i_01, i32_toInt, tn_i, Int.toNat_natCast, em_t, true_and, and_true, Int.reduceToNat, Int.reduceLE, Int.reduceLT, Int.reduceAdd, Int.reduceMul, Int.reduceSub, Int.reduceNeg, Int.reduceEq, true_implies, not_true_eq_false, false_implies, not_false_eq_true, kC, rC0, rC1, rC2, rC3, rC4, kQ, rQ0, rQ1, kV, lV, kG, lG, kP, lP, kT, lT, LB1, LB2, LB3, LH1, LH2, LH3, LL1, LL2, LL3, dDy, dEv, true_and, and_true, Option.some.injEq, exists_eq_left', nmOf_0, nmOf_1, nmOf_2, nmOf_3, nmOf_4, nmOf_5, nmOf_6, Nat.add_sub_cancel, Nat.reduceSub, Nat.reduceLT, Nat.reduceEqDiff, ne_eq, not_false_eq_true]
    exact ⟨fun _ => hz, fun z => by omega⟩
  | succ k ih =>
    intro n hn S e hW h f hI o2 o3
    have e1 : S.nl = S0.nl := by rw [e]; rfl
    have hn' : n < S.nl := by omega
    have eL : ∀ k, S.lf n k = S0.lf n k := fun k => by rw [e, lf_wrN, if_neg (by omega)]
    have hjp : ∀ S' : SS, S' = wrN S0 (n + 1) → WF S' → ∀ h', Fr h0 h' (WO D S0) → CI G h' D S' → ∀ o2 o3, Wp G MX4_warn false 11 Q QX 70 [some (.ref (D 0 0)), some (.int (i32 n)), o2, o3] [] h' (0, 0) := fun S' e' hW' h' f' hI' o2 o3 => by
      refine wpW (cs := [(49, ce_Jx4a65c_size_8abf5), (84, ce_Jx4a65c_get_915e3), (201, ce_X4_shortHours G D S), (261, ce_X2_hourCount G D S)]) (stop := [2]) (n := 200) (env_cons (ceV (by decide +kernel) ⟨by decide, by decide, by decide +kernel⟩ (by decide) rfl (ok_Jx4a65c_size_8abf5 G)) (env_cons (ceV (by decide +kernel) ⟨by decide, by decide, by decide +kernel⟩ (by decide) rfl (ok_Jx4a65c_get_915e3 G)) (env_cons (ceV (by decide +kernel) ⟨by decide, by decide, by decide +kernel⟩ (by decide) rfl (ok_X4_shortHours G G D S hW)) (env_cons (ceV (by decide +kernel) ⟨by decide, by decide, by decide +kernel⟩ (by decide) rfl (ok_X2_hourCount G G D S hW)) (env_nil0 (env_hh rfl)))))) ?_
      simp only [↓wpN_S, ↓step_u, ↓stC_s, stC_s, ↓stF_u, stF_u, ↓stepI, lenI, ↓kN_u, isS, ↓gI_0, ↓gI_S, ↓gL_0, ↓gL_S, ↓gD_0, ↓gD_S, ↓gR_0, ↓gR_S, ↓sI_c, ↓sL_c, ↓sD_c, ↓sR_c, ↓s1_r, ↓s1_i, ↓vR_r, ↓vR_n, ↓s0_n, s0_n, ↓oR_u, ↓sP_u, ↓sPa_0, ↓sPa_S, ↓lkC_c, ↓callK_u, ↓cQ_s, ↓cQ_n, putL, putW, clr, kil, catS, catN, refF, booF, finF, nF, nmOf_0, nmOf_1, nmOf_2, nmOf_3, nmOf_4, nmOf_5, nmOf_6, nmOf_50, nmOf_51, nmOf_52, ↓reduceIte, reduceIte, Bool.false_eq_true, eq_self, true_or, or_true, true_and, and_true, false_or, or_false, Nat.reduceAdd, Nat.reduceSub, Nat.reduceEqDiff, Nat.reduceLT, Nat.reduceLeDiff, reduceCtorEq, true_implies, List.length_cons, List.length_nil, List.replicate, List.cons_append, List.nil_append, mrt_X4_warn, mhh_X4_warn, mow_X4_warn, mnl_X4_warn, DX4_warn_0, DX4_warn_1, DX4_warn_2, DX4_warn_3, DX4_warn_4, DX4_warn_7, DX4_warn_10, DX4_warn_13, DX4_warn_14, DX4_warn_17, DX4_warn_18, DX4_warn_21, DX4_warn_24, DX4_warn_25, DX4_warn_26, DX4_warn_29, DX4_warn_32, DX4_warn_33, DX4_warn_34, DX4_warn_35, DX4_warn_38, DX4_warn_39, DX4_warn_40, DX4_warn_43, DX4_warn_46, DX4_warn_47, DX4_warn_50, DX4_warn_51, DX4_warn_52, DX4_warn_53, DX4_warn_54, DX4_warn_57, DX4_warn_58, DX4_warn_61, DX4_warn_62, DX4_warn_63, DX4_warn_66, DX4_warn_67, DX4_warn_70, DX4_warn_73, DX4_warn_76, nxr, ce_Jx4a65c_size_8abf5, ↓ct_Jx4a65c_size_8abf5, ycl_Jx4a65c_size_8abf5, ce_Jx4a65c_get_915e3, ↓ct_Jx4a65c_get_915e3, ycl_Jx4a65c_get_915e3, ce_X4_shortHours, ↓ct_X4_shortHours, ycl_X4_shortHours, ce_X2_hourCount, ↓ct_X2_hourCount, ycl_X2_hourCount, cX_nil mhh_X4_warn]
      simp (disch := omega) only [i32_lit, i32_neg, i32_add, i32_mul, i32_sub, i32_nI, i32_lt, i32_le, i32_eq, inR_i, i32_clamp, i32_div, i32_max, i32_min, ite_max, ite_min, b2i_0, b2i_1, b2i_01, i32_toInt, tn_i, Int.toNat_natCast, em_t, true_and, and_true, Int.reduceToNat, Int.reduceLE, Int.reduceLT, Int.reduceAdd, Int.reduceMul, Int.reduceSub, Int.reduceNeg, Int.reduceEq, true_implies, not_true_eq_false, false_implies, not_false_eq_true]
      rw [show (n : Int) + 1 = ((n + 1 : Nat) : Int) by omega]
      exact ih (n + 1) (by omega) S' e' hW' h' f' hI' o2 o3
    have hD := hI.cd
    have esh : shH S n = shH S0 n := by
      rw [e]
      obtain ⟨s1, s2, s3, s4, s5⟩ := sml_wrN (S := S0) (n := n)
      exact shH_cg s1 s2 s3 s4 s5 n
    have hsb : 0 ≤ shH S n ∧ shH S n ≤ 12 := cnt_b (fun r => isSh S n r = true) inferInstance 12
    have hA0 := hD.1
    have hB0 := hD.2
    obtain ⟨⟨kC, rC0, rC1, rC2, rC3, rC4⟩, ⟨kQ, rQ0, rQ1⟩, ⟨kV, lV⟩, ⟨kG, lG⟩, ⟨kP, lP⟩, ⟨kT, lT⟩, ⟨⟨LB1, LB2, LB3, LB4, LB5, LB6, LB7⟩, ⟨LH1, LH2, LH3, LH4, LH5, LH6, LH7⟩, ⟨LL1, LL2, LL3, LL4, LL5, LL6, LL7⟩⟩, hKB, hHA, hKL, hCJ⟩ := hA0
    obtain ⟨dDy, dEv, dG, dP, dV, dB, dL, dH⟩ := hB0
    have hnb := hW.1
    have hnl := hW.2.1
    have kL := hKL n hn'
    obtain ⟨eL0, eL1, eL2, eL3, eL4, eL5, eL6, eL7, eL8, eL9⟩ := dL n hn'
    have qL := LL7 n hn'
    obtain ⟨kqL, lqL⟩ := LL6 (by omega)
    obtain ⟨vL0, vL0', vL1, vL1', vL2, vL2', vL3, vL4, vL4', vL5, vL5', vL6, vL7, vL7'⟩ := hW.2.2.2.1 n hn'
    refine wpW (cs := [(49, ce_Jx4a65c_size_8abf5), (84, ce_Jx4a65c_get_915e3), (201, ce_X4_shortHours G D S), (261, ce_X2_hourCount G D S)]) (stop := [2, 38, 70]) (n := 200) (env_cons (ceV (by decide +kernel) ⟨by decide, by decide, by decide +kernel⟩ (by decide) rfl (ok_Jx4a65c_size_8abf5 G)) (env_cons (ceV (by decide +kernel) ⟨by decide, by decide, by decide +kernel⟩ (by decide) rfl (ok_Jx4a65c_get_915e3 G)) (env_cons (ceV (by decide +kernel) ⟨by decide, by decide, by decide +kernel⟩ (by decide) rfl (ok_X4_shortHours G G D S hW)) (env_cons (ceV (by decide +kernel) ⟨by decide, by decide, by decide +kernel⟩ (by decide) rfl (ok_X2_hourCount G G D S hW)) (env_nil0 (env_hh rfl)))))) ?_
    simp only [↓wpN_S, ↓step_u, ↓stC_s, stC_s, ↓stF_u, stF_u, ↓stepI, lenI, ↓kN_u, isS, ↓gI_0, ↓gI_S, ↓gL_0, ↓gL_S, ↓gD_0, ↓gD_S, ↓gR_0, ↓gR_S, ↓sI_c, ↓sL_c, ↓sD_c, ↓sR_c, ↓s1_r, ↓s1_i, ↓vR_r, ↓vR_n, ↓s0_n, s0_n, ↓oR_u, ↓sP_u, ↓sPa_0, ↓sPa_S, ↓lkC_c, ↓callK_u, ↓cQ_s, ↓cQ_n, putL, putW, clr, kil, catS, catN, refF, booF, finF, nF, nmOf_0, nmOf_1, nmOf_2, nmOf_3, nmOf_4, nmOf_5, nmOf_6, nmOf_50, nmOf_51, nmOf_52, ↓reduceIte, reduceIte, Bool.false_eq_true, eq_self, true_or, or_true, true_and, and_true, false_or, or_false, Nat.reduceAdd, Nat.reduceSub, Nat.reduceEqDiff, Nat.reduceLT, Nat.reduceLeDiff, reduceCtorEq, true_implies, List.length_cons, List.length_nil, List.replicate, List.cons_append, List.nil_append, mrt_X4_warn, mhh_X4_warn, mow_X4_warn, mnl_X4_warn, DX4_warn_0, DX4_warn_1, DX4_warn_2, DX4_warn_3, DX4_warn_4, DX4_warn_7, DX4_warn_10, DX4_warn_13, DX4_warn_14, DX4_warn_17, DX4_warn_18, DX4_warn_21, DX4_warn_24, DX4_warn_25, DX4_warn_26, DX4_warn_29, DX4_warn_32, DX4_warn_33, DX4_warn_34, DX4_warn_35, DX4_warn_38, DX4_warn_39, DX4_warn_40, DX4_warn_43, DX4_warn_46, DX4_warn_47, DX4_warn_50, DX4_warn_51, DX4_warn_52, DX4_warn_53, DX4_warn_54, DX4_warn_57, DX4_warn_58, DX4_warn_61, DX4_warn_62, DX4_warn_63, DX4_warn_66, DX4_warn_67, DX4_warn_70, DX4_warn_73, DX4_warn_76, nxr, ce_Jx4a65c_size_8abf5, ↓ct_Jx4a65c_size_8abf5, ycl_Jx4a65c_size_8abf5, ce_Jx4a65c_get_915e3, ↓ct_Jx4a65c_get_915e3, ycl_Jx4a65c_get_915e3, ce_X4_shortHours, ↓ct_X4_shortHours, ycl_X4_shortHours, ce_X2_hourCount, ↓ct_X2_hourCount, ycl_X2_hourCount, cX_nil mhh_X4_warn]
    simp (disch := omega) only [i32_lit, i32_neg, i32_add, i32_mul, i32_sub, i32_nI, i32_lt, i32_le, i32_eq, inR_i, i32_clamp, i32_div, i32_max, i32_min, ite_max, ite_min, b2i_0, b2i_1, b2i_01, i32_toInt, tn_i, Int.toNat_natCast, em_t, true_and, and_true, Int.reduceToNat, Int.reduceLE, Int.reduceLT, Int.reduceAdd, Int.reduceMul, Int.reduceSub, Int.reduceNeg, Int.reduceEq, true_implies, not_true_eq_false, false_implies, not_false_eq_true, kC, rC0, rC1, rC2, rC3, rC4, kQ, rQ0, rQ1, kV, lV, kG, lG, kP, lP, kT, lT, LB1, LB2, LB3, LH1, LH2, LH3, LL1, LL2, LL3, dDy, dEv, true_and, and_true, Option.some.injEq, exists_eq_left', nmOf_0, nmOf_1, nmOf_2, nmOf_3, nmOf_4, nmOf_5, nmOf_6, Nat.add_sub_cancel, Nat.reduceSub, Nat.reduceLT, Nat.reduceEqDiff, ne_eq, not_false_eq_true, kL, eL0, eL1, eL2, eL3, eL4, eL5, eL6, eL7, eL8, eL9, qL, kqL, lqL, hI]
    refine ⟨fun z => by omega, fun _ => ⟨by omega, by omega, by omega, fun z => ?_, fun z => ⟨n, hn', rfl, fun h' f' hI' => ?_⟩⟩⟩
    · exact hjp S (by rw [e]; exact wrN_k (by rw [← eL]; exact z)) hW h f hI _ _
    · have h6 : S0.lf n 6 ≠ 0 := by rw [← eL]; exact z
      have wb := wv_b hW0 hw0 (show n < S0.nl by omega) h6
      have hf2 : Fr h0 h' (WO D S0) := f.tr (f'.up (fun a ha => WK.wo a ha))
      have ew : wv S0 n = if 2 * shH S n > S.lf n 3 - S.lf n 2 + 1 then S.lf n 7 + 1 else 0 := by unfold wv; rw [esh, eL, eL, eL]
      have hfin : ∀ o3, Wp G MX4_warn false 11 Q QX 70 [some (.ref (D 0 0)), some (.int (i32 n)), some (.ref (D 3 n)), o3] [] (setI h' 3 8 (D 3 n) (i32 (wv S0 n))) (0, 0) := hjp (S.uL n 7 (wv S0 n)) (by rw [e]; exact wrN_s h6) (WF_uL hW (WL_uL hW.2.2.2.1 (Or.inr (Or.inr (Or.inl ⟨rfl, wb⟩))))) _ (hf2.tr (Fr.sI (WO.l (by omega)))) (CI_pay (k := 7) hI' hn' (by omega)) _
      rw [ew] at hfin
      have hD := hI'.cd
      have hD1 := hD
      have hA0 := hD.1
      have hB0 := hD.2
      obtain ⟨⟨kC, rC0, rC1, rC2, rC3, rC4⟩, ⟨kQ, rQ0, rQ1⟩, ⟨kV, lV⟩, ⟨kG, lG⟩, ⟨kP, lP⟩, ⟨kT, lT⟩, ⟨⟨LB1, LB2, LB3, LB4, LB5, LB6, LB7⟩, ⟨LH1, LH2, LH3, LH4, LH5, LH6, LH7⟩, ⟨LL1, LL2, LL3, LL4, LL5, LL6, LL7⟩⟩, hKB, hHA, hKL, hCJ⟩ := hA0
      obtain ⟨dDy, dEv, dG, dP, dV, dB, dL, dH⟩ := hB0
      have hnb := hW.1
      have hnl := hW.2.1
      have kL := hKL n hn'
      obtain ⟨eL0, eL1, eL2, eL3, eL4, eL5, eL6, eL7, eL8, eL9⟩ := dL n hn'
      have qL := LL7 n hn'
      obtain ⟨kqL, lqL⟩ := LL6 (by omega)
      obtain ⟨vL0, vL0', vL1, vL1', vL2, vL2', vL3, vL4, vL4', vL5, vL5', vL6, vL7, vL7'⟩ := hW.2.2.2.1 n hn'
      refine wpW (cs := [(49, ce_Jx4a65c_size_8abf5), (84, ce_Jx4a65c_get_915e3), (201, ce_X4_shortHours G D S), (261, ce_X2_hourCount G D S)]) (stop := [70]) (n := 200) (env_cons (ceV (by decide +kernel) ⟨by decide, by decide, by decide +kernel⟩ (by decide) rfl (ok_Jx4a65c_size_8abf5 G)) (env_cons (ceV (by decide +kernel) ⟨by decide, by decide, by decide +kernel⟩ (by decide) rfl (ok_Jx4a65c_get_915e3 G)) (env_cons (ceV (by decide +kernel) ⟨by decide, by decide, by decide +kernel⟩ (by decide) rfl (ok_X4_shortHours G G D S hW)) (env_cons (ceV (by decide +kernel) ⟨by decide, by decide, by decide +kernel⟩ (by decide) rfl (ok_X2_hourCount G G D S hW)) (env_nil0 (env_hh rfl)))))) ?_
      simp only [↓wpN_S, ↓step_u, ↓stC_s, stC_s, ↓stF_u, stF_u, ↓stepI, lenI, ↓kN_u, isS, ↓gI_0, ↓gI_S, ↓gL_0, ↓gL_S, ↓gD_0, ↓gD_S, ↓gR_0, ↓gR_S, ↓sI_c, ↓sL_c, ↓sD_c, ↓sR_c, ↓s1_r, ↓s1_i, ↓vR_r, ↓vR_n, ↓s0_n, s0_n, ↓oR_u, ↓sP_u, ↓sPa_0, ↓sPa_S, ↓lkC_c, ↓callK_u, ↓cQ_s, ↓cQ_n, putL, putW, clr, kil, catS, catN, refF, booF, finF, nF, nmOf_0, nmOf_1, nmOf_2, nmOf_3, nmOf_4, nmOf_5, nmOf_6, nmOf_50, nmOf_51, nmOf_52, ↓reduceIte, reduceIte, Bool.false_eq_true, eq_self, true_or, or_true, true_and, and_true, false_or, or_false, Nat.reduceAdd, Nat.reduceSub, Nat.reduceEqDiff, Nat.reduceLT, Nat.reduceLeDiff, reduceCtorEq, true_implies, List.length_cons, List.length_nil, List.replicate, List.cons_append, List.nil_append, mrt_X4_warn, mhh_X4_warn, mow_X4_warn, mnl_X4_warn, DX4_warn_0, DX4_warn_1, DX4_warn_2, DX4_warn_3, DX4_warn_4, DX4_warn_7, DX4_warn_10, DX4_warn_13, DX4_warn_14, DX4_warn_17, DX4_warn_18, DX4_warn_21, DX4_warn_24, DX4_warn_25, DX4_warn_26, DX4_warn_29, DX4_warn_32, DX4_warn_33, DX4_warn_34, DX4_warn_35, DX4_warn_38, DX4_warn_39, DX4_warn_40, DX4_warn_43, DX4_warn_46, DX4_warn_47, DX4_warn_50, DX4_warn_51, DX4_warn_52, DX4_warn_53, DX4_warn_54, DX4_warn_57, DX4_warn_58, DX4_warn_61, DX4_warn_62, DX4_warn_63, DX4_warn_66, DX4_warn_67, DX4_warn_70, DX4_warn_73, DX4_warn_76, nxr, ce_Jx4a65c_size_8abf5, ↓ct_Jx4a65c_size_8abf5, ycl_Jx4a65c_size_8abf5, ce_Jx4a65c_get_915e3, ↓ct_Jx4a65c_get_915e3, ycl_Jx4a65c_get_915e3, ce_X4_shortHours, ↓ct_X4_shortHours, ycl_X4_shortHours, ce_X2_hourCount, ↓ct_X2_hourCount, ycl_X2_hourCount, cX_nil mhh_X4_warn]
      simp (disch := omega) only [i32_lit, i32_neg, i32_add, i32_mul, i32_sub, i32_nI, i32_lt, i32_le, i32_eq, inR_i, i32_clamp, i32_div, i32_max, i32_min, ite_max, ite_min, b2i_0, b2i_1, b2i_01, i32_toInt, tn_i, Int.toNat_natCast, em_t, true_and, and_true, Int.reduceToNat, Int.reduceLE, Int.reduceLT, Int.reduceAdd, Int.reduceMul, Int.reduceSub, Int.reduceNeg, Int.reduceEq, true_implies, not_true_eq_false, false_implies, not_false_eq_true, kC, rC0, rC1, rC2, rC3, rC4, kQ, rQ0, rQ1, kV, lV, kG, lG, kP, lP, kT, lT, LB1, LB2, LB3, LH1, LH2, LH3, LL1, LL2, LL3, dDy, dEv, true_and, and_true, Option.some.injEq, exists_eq_left', nmOf_0, nmOf_1, nmOf_2, nmOf_3, nmOf_4, nmOf_5, nmOf_6, Nat.add_sub_cancel, Nat.reduceSub, Nat.reduceLT, Nat.reduceEqDiff, ne_eq, not_false_eq_true, kL, eL0, eL1, eL2, eL3, eL4, eL5, eL6, eL7, eL8, eL9, qL, kqL, lqL, hD1]
      refine ⟨n, hn', rfl, ?_⟩
      rw [i32_le (by omega) (by omega)]
      exact ⟨fun z => by rw [if_neg (by omega)] at hfin; exact hfin _, fun z => by rw [if_pos (by omega)] at hfin; exact hfin _⟩
set_option maxRecDepth 100000 in
set_option maxHeartbeats 4000000 in
theorem ok_X4_warn (G : GT) (G : GT) (D : WD) (S : SS) (hW : WF S) : OKm G yX4_warn MX4_warn 11 0 0 (ct_X4_warn G D S) := by
  refine mkOK (ini := false) (by decide) rfl (by first | exact fun _ => rfl | (intro hh; cases hh)) (fun As h Q QX hc => ?_)
  replace hc := sR_e hc; obtain ⟨c, r, rfl, hc⟩ := hc
  replace hc := s0_e hc; obtain ⟨rfl, hc⟩ := hc
  obtain ⟨hI, hw, rfl, hq⟩ := hc
  have hz := lp_X4_warn (Q := Q) (QX := QX) G hW hw hq S.nl 0 (Nat.zero_add _) S wrN_0.symm hW h Fr.rf hI none none
  refine ⟨Nat.le_of_ble_eq_true rfl, ?_⟩
  simp only [ent, entL, catN, List.length_cons, List.length_nil, List.replicate, List.cons_append, List.nil_append, reduceIte, Nat.reduceEqDiff,  Nat.reduceAdd, Nat.reduceSub, mnl_X4_warn]
  refine wpW (cs := [(49, ce_Jx4a65c_size_8abf5), (84, ce_Jx4a65c_get_915e3), (201, ce_X4_shortHours G D S), (261, ce_X2_hourCount G D S)]) (stop := [2]) (n := 200) (env_cons (ceV (by decide +kernel) ⟨by decide, by decide, by decide +kernel⟩ (by decide) rfl (ok_Jx4a65c_size_8abf5 G)) (env_cons (ceV (by decide +kernel) ⟨by decide, by decide, by decide +kernel⟩ (by decide) rfl (ok_Jx4a65c_get_915e3 G)) (env_cons (ceV (by decide +kernel) ⟨by decide, by decide, by decide +kernel⟩ (by decide) rfl (ok_X4_shortHours G G D S hW)) (env_cons (ceV (by decide +kernel) ⟨by decide, by decide, by decide +kernel⟩ (by decide) rfl (ok_X2_hourCount G G D S hW)) (env_nil0 (env_hh rfl)))))) ?_
  simp only [↓wpN_S, ↓step_u, ↓stC_s, stC_s, ↓stF_u, stF_u, ↓stepI, lenI, ↓kN_u, isS, ↓gI_0, ↓gI_S, ↓gL_0, ↓gL_S, ↓gD_0, ↓gD_S, ↓gR_0, ↓gR_S, ↓sI_c, ↓sL_c, ↓sD_c, ↓sR_c, ↓s1_r, ↓s1_i, ↓vR_r, ↓vR_n, ↓s0_n, s0_n, ↓oR_u, ↓sP_u, ↓sPa_0, ↓sPa_S, ↓lkC_c, ↓callK_u, ↓cQ_s, ↓cQ_n, putL, putW, clr, kil, catS, catN, refF, booF, finF, nF, nmOf_0, nmOf_1, nmOf_2, nmOf_3, nmOf_4, nmOf_5, nmOf_6, nmOf_50, nmOf_51, nmOf_52, ↓reduceIte, reduceIte, Bool.false_eq_true, eq_self, true_or, or_true, true_and, and_true, false_or, or_false, Nat.reduceAdd, Nat.reduceSub, Nat.reduceEqDiff, Nat.reduceLT, Nat.reduceLeDiff, reduceCtorEq, true_implies, List.length_cons, List.length_nil, List.replicate, List.cons_append, List.nil_append, mrt_X4_warn, mhh_X4_warn, mow_X4_warn, mnl_X4_warn, DX4_warn_0, DX4_warn_1, DX4_warn_2, DX4_warn_3, DX4_warn_4, DX4_warn_7, DX4_warn_10, DX4_warn_13, DX4_warn_14, DX4_warn_17, DX4_warn_18, DX4_warn_21, DX4_warn_24, DX4_warn_25, DX4_warn_26, DX4_warn_29, DX4_warn_32, DX4_warn_33, DX4_warn_34, DX4_warn_35, DX4_warn_38, DX4_warn_39, DX4_warn_40, DX4_warn_43, DX4_warn_46, DX4_warn_47, DX4_warn_50, DX4_warn_51, DX4_warn_52, DX4_warn_53, DX4_warn_54, DX4_warn_57, DX4_warn_58, DX4_warn_61, DX4_warn_62, DX4_warn_63, DX4_warn_66, DX4_warn_67, DX4_warn_70, DX4_warn_73, DX4_warn_76, nxr, ce_Jx4a65c_size_8abf5, ↓ct_Jx4a65c_size_8abf5, ycl_Jx4a65c_size_8abf5, ce_Jx4a65c_get_915e3, ↓ct_Jx4a65c_get_915e3, ycl_Jx4a65c_get_915e3, ce_X4_shortHours, ↓ct_X4_shortHours, ycl_X4_shortHours, ce_X2_hourCount, ↓ct_X2_hourCount, ycl_X2_hourCount, cX_nil mhh_X4_warn]
  exact hz
/-! evict -/
def evcN (S : SS) (n : Nat) : SS := (S.1, S.2.1, S.2.2.1, fun l k => if (l < n ∧ S.lf l 6 ≠ 0 ∧ 2 ≤ S.lf l 7) ∧ k = 6 then 0 else S.lf l k, S.2.2.2.2.1, S.2.2.2.2.2.1, S.2.2.2.2.2.2.1, S.dy, S.ev + sumN (fun l => if S.lf l 6 ≠ 0 ∧ 2 ≤ S.lf l 7 then 1 else 0) n)
theorem lf_evcN {S : SS} {n l k : Nat} : (evcN S n).lf l k = if (l < n ∧ S.lf l 6 ≠ 0 ∧ 2 ≤ S.lf l 7) ∧ k = 6 then 0 else S.lf l k := rfl
theorem evcN_0 {S : SS} : evcN S 0 = S := SS_ext rfl rfl (fun _ _ => rfl) (fun l k => by rw [lf_evcN, if_neg (by omega)]) (fun _ _ => rfl) (fun _ => rfl) (fun _ => rfl) rfl (Int.add_zero _)
theorem evcN_k {S : SS} {n : Nat} (h : ¬ (S.lf n 6 ≠ 0 ∧ 2 ≤ S.lf n 7)) : evcN S n = evcN S (n + 1) := by
  refine SS_ext rfl rfl (fun _ _ => rfl) (fun l k => ?_) (fun _ _ => rfl) (fun _ => rfl) (fun _ => rfl) rfl ?_
  · rw [lf_evcN, lf_evcN]
    by_cases q : (l < n ∧ S.lf l 6 ≠ 0 ∧ 2 ≤ S.lf l 7) ∧ k = 6
    · rw [if_pos q, if_pos (⟨⟨by omega, q.1.2⟩, q.2⟩ : (l < n + 1 ∧ S.lf l 6 ≠ 0 ∧ 2 ≤ S.lf l 7) ∧ k = 6)]
    · rw [if_neg q, if_neg (fun z : (l < n + 1 ∧ S.lf l 6 ≠ 0 ∧ 2 ≤ S.lf l 7) ∧ k = 6 => q ⟨⟨by rcases Nat.lt_or_ge l n with u | u; exact u; exact absurd z.1.2 (by rw [show l = n by omega]; exact h), z.1.2⟩, z.2⟩)]
  · show S.ev + sumN _ n = S.ev + (sumN _ n + (if S.lf n 6 ≠ 0 ∧ 2 ≤ S.lf n 7 then 1 else 0))
    rw [if_neg h]
    omega
theorem evcN_s {S : SS} {n : Nat} (h : S.lf n 6 ≠ 0 ∧ 2 ≤ S.lf n 7) : ((evcN S n).uL n 6 0).uE ((evcN S n).ev + 1) = evcN S (n + 1) := by
  refine SS_ext rfl rfl (fun _ _ => rfl) (fun l k => ?_) (fun _ _ => rfl) (fun _ => rfl) (fun _ => rfl) rfl ?_
  · show ((evcN S n).uL n 6 0).lf l k = _
    rw [lf_uL, lf_evcN, lf_evcN]
    by_cases e : l = n ∧ k = 6
    · rw [if_pos e, if_pos (⟨⟨by omega, by rw [e.1]; exact h⟩, e.2⟩ : (l < n + 1 ∧ S.lf l 6 ≠ 0 ∧ 2 ≤ S.lf l 7) ∧ k = 6)]
    · rw [if_neg e]
      by_cases q : (l < n ∧ S.lf l 6 ≠ 0 ∧ 2 ≤ S.lf l 7) ∧ k = 6
      · rw [if_pos q, if_pos (⟨⟨by omega, q.1.2⟩, q.2⟩ : (l < n + 1 ∧ S.lf l 6 ≠ 0 ∧ 2 ≤ S.lf l 7) ∧ k = 6)]
      · rw [if_neg q, if_neg (fun z : (l < n + 1 ∧ S.lf l 6 ≠ 0 ∧ 2 ≤ S.lf l 7) ∧ k = 6 => q ⟨⟨by omega, z.1.2⟩, z.2⟩)]
  · show S.ev + sumN _ n + 1 = S.ev + (sumN _ n + (if S.lf n 6 ≠ 0 ∧ 2 ≤ S.lf n 7 then 1 else 0))
    rw [if_pos h]
    omega
theorem ev_eq {T : SS} : evcN (wrN T T.nl) T.nl = evN T T.nl := by
  have e6 : ∀ l, (wrN T T.nl).lf l 6 = T.lf l 6 := fun l => by rw [lf_wrN, if_neg (by omega)]
  have e7 : ∀ l, l < T.nl → T.lf l 6 ≠ 0 → (wrN T T.nl).lf l 7 = wv T l := fun l h1 h2 => by rw [lf_wrN, if_pos ⟨⟨h1, h2⟩, rfl⟩]
  refine SS_ext rfl rfl (fun _ _ => rfl) (fun l k => ?_) (fun _ _ => rfl) (fun _ => rfl) (fun _ => rfl) rfl ?_
  · rw [lf_evcN, lf_evN]
    by_cases q : l < T.nl ∧ T.lf l 6 ≠ 0
    · rw [if_pos (q : l < T.nl ∧ T.lf l 6 ≠ 0), e6, e7 l q.1 q.2]
      by_cases z : k = 7
      · rw [if_neg (by omega), if_pos z, lf_wrN, if_pos ⟨q, z⟩]
      · rw [if_neg z]
        by_cases y : k = 6 ∧ 2 ≤ wv T l
        · rw [if_pos y, if_pos ⟨⟨q.1, q.2, y.2⟩, y.1⟩]
        · rw [if_neg y, if_neg (fun x => y ⟨x.2, x.1.2.2⟩), lf_wrN, if_neg (fun x => z x.2)]
    · rw [if_neg (q : ¬ (l < T.nl ∧ T.lf l 6 ≠ 0)), e6, if_neg (fun x => q ⟨x.1.1, x.1.2.1⟩), lf_wrN, if_neg (fun x => q x.1)]
  · show T.ev + sumN _ T.nl = T.ev + sumN _ T.nl
    congr 1
    exact sumN_congr _ (fun l hl => by
      rw [e6]
      by_cases q : T.lf l 6 ≠ 0
      · rw [e7 l hl q]
      · rw [if_neg (fun x => q x.1), if_neg (fun x => q x.1)])

