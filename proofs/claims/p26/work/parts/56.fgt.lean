/-! ===== the class: what is forgotten ===== -/
/-- only the marks of hours have changed -/
def FO (h h' : Hp) (D : WD) : Prop := (∀ a, kd h' a = kd h a) ∧ (∀ c k a, ¬ (c = 2 ∧ (k = 4 ∨ k = 11) ∧ ∃ r, r < 12 ∧ a = D 2 r) → fi h' c k a = fi h c k a) ∧ (∀ c k a, fr h' c k a = fr h c k a) ∧ (∀ a, ln h' a = ln h a) ∧ (∀ a i, ia h' a i = ia h a i) ∧ (∀ a i, ja h' a i = ja h a i) ∧ (∀ a i, ra h' a i = ra h a i)
theorem FO.rf {h : Hp} {D : WD} : FO h h D := ⟨fun _ => rfl, fun _ _ _ _ => rfl, fun _ _ _ => rfl, fun _ => rfl, fun _ _ => rfl, fun _ _ => rfl, fun _ _ => rfl⟩
theorem FO.tr {h h' h'' : Hp} {D : WD} (f : FO h h' D) (g : FO h' h'' D) : FO h h'' D := ⟨fun a => (g.1 a).trans (f.1 a), fun c k a q => (g.2.1 c k a q).trans (f.2.1 c k a q), fun c k a => (g.2.2.1 c k a).trans (f.2.2.1 c k a), fun a => (g.2.2.2.1 a).trans (f.2.2.2.1 a), fun a i => (g.2.2.2.2.1 a i).trans (f.2.2.2.2.1 a i), fun a i => (g.2.2.2.2.2.1 a i).trans (f.2.2.2.2.2.1 a i), fun a i => (g.2.2.2.2.2.2 a i).trans (f.2.2.2.2.2.2 a i)⟩
theorem FO.sI {h : Hp} {D : WD} {r k : Nat} {v : Int32} (hr : r < 12) (hk : k = 4 ∨ k = 11) : FO h (setI h 2 k (D 2 r) v) D := ⟨fun _ => rfl, fun c k' a q => by rw [fi_setI, if_neg (fun z => q ⟨z.1, by rw [z.2.1]; exact hk, r, hr, z.2.2⟩)], fun _ _ _ => rfl, fun _ => rfl, fun _ _ => rfl, fun _ _ => rfl, fun _ _ => rfl⟩
theorem CD.fo {G : GT} {h h' : Hp} {D : WD} {S : SS} (hD : CD G h D S) (f : FO h h' D) : CD G h' D S := by
  obtain ⟨g1, g2, g3, g4, g5, g6, g7⟩ := f
  obtain ⟨⟨⟨a1, a2, a3, a4, a5, a6⟩, ⟨b1, b2, b3⟩, c1, c2, c3, c4, ⟨d1, d2, d3⟩, e1, e2, e3, e4⟩, ⟨p1, p2, p3, p4, p5, p6, p7, p8⟩⟩ := hD
  have gl : ∀ {a q cap n f}, Lst G h a q cap n f → Lst G h' a q cap n f := fun hL => hL.eq (g1 _) (g2 _ _ _ (by omega)) (g3 _ _ _) (g1 _) (g4 _) (fun i => g7 _ i)
  have q1 := fun k a => g2 1 k a (by omega)
  have q3 := fun k a => g2 3 k a (by omega)
  have q5 := fun k a => g2 5 k a (by omega)
  have q20 := fun a => g2 2 0 a (by omega)
  have q21 := fun a => g2 2 1 a (by omega)
  have q22 := fun a => g2 2 2 a (by omega)
  have q23 := fun a => g2 2 3 a (by omega)
  refine ⟨?_, ?_⟩
  · simp only [CA, HA, g1, g3, g4]
    exact ⟨⟨a1, a2, a3, a4, a5, a6⟩, ⟨b1, b2, b3⟩, c1, c2, c3, c4, ⟨gl d1, gl d2, gl d3⟩, e1, e2, e3, e4⟩
  · simp only [CB, BD, LD, HD, q1, q3, q5, q20, q21, q22, q23, g5]
    exact ⟨p1, p2, p3, p4, p5, p6, p7, p8⟩
/-- all is forgotten; what is let is forgotten -/
def CF (h : Hp) (D : WD) (n : Nat) : Prop := ∀ r, r < n → fi h 2 4 (D 2 r) = i32 0 ∧ fi h 2 11 (D 2 r) = i32 0
theorem CF.ci {G : GT} {h : Hp} {D : WD} {S : SS} (hF : CF h D 12) (hD : CD G h D S) : CI G h D S := ⟨hD.1, hD.2, fun r hr => by
  obtain ⟨h1, h2⟩ := hF r hr
  have ne : ¬ i32 0 = i32 1 := by rw [i32_eq (by omega) (by omega)]; omega
  exact ⟨Or.inl h1, Or.inl h2, fun z => absurd (h1.symm.trans z) ne, fun z => absurd (h2.symm.trans z) ne⟩⟩
def ct_X4_forgetShades (G : GT) (D : WD) (S : SS) : Ct := fun As h Q _ => sR As fun c r => s0 r (CD G h D S ∧ c = D 0 0 ∧ ∀ h', FO h h' D → CF h' D 12 → Q none h')
def ce_X4_forgetShades (G : GT) (D : WD) (S : SS) : CE := (0, yX4_forgetShades, MX4_forgetShades, 0, 3, 0, 0, ct_X4_forgetShades G D S)
set_option maxRecDepth 100000 in
set_option maxHeartbeats 4000000 in
theorem lp_X4_forgetShades (G : GT) {D : WD} {S : SS} (hW : WF S) {h0 : Hp} {Q : Option Value → Hp → Prop} {QX : String → Hp → Prop} (hq : ∀ h', FO h0 h' D → CF h' D 12 → Q none h') :
    ∀ k n : Nat, n + k = 12 → ∀ h, FO h0 h D → CD G h D S → CF h D n → Wp G MX4_forgetShades false 3 Q QX 2 [some (.ref (D 0 0)), some (.int (i32 n))] [] h (0, 0) := by
  intro k
  induction k with
  | zero =>
    intro n hn h f hD hF
    have e : n = 12 := by omega
    subst e
    have hz := hq h f hF
    have hA0 := hD.1
    have hB0 := hD.2
    obtain ⟨⟨kC, rC0, rC1, rC2, rC3, rC4⟩, ⟨kQ, rQ0, rQ1⟩, ⟨kV, lV⟩, ⟨kG, lG⟩, ⟨kP, lP⟩, ⟨kT, lT⟩, ⟨⟨LB1, LB2, LB3, LB4, LB5, LB6, LB7⟩, ⟨LH1, LH2, LH3, LH4, LH5, LH6, LH7⟩, ⟨LL1, LL2, LL3, LL4, LL5, LL6, LL7⟩⟩, hKB, hHA, hKL, hCJ⟩ := hA0
    obtain ⟨dDy, dEv, dG, dP, dV, dB, dL, dH⟩ := hB0
    have hnb := hW.1
    have hnl := hW.2.1
    refine wpW (cs := [(49, ce_Jx4a65c_size_8abf5), (84, ce_Jx4a65c_get_915e3), (124, ce_X1_forgetShade G D S)]) (stop := [2]) (n := 200) (env_cons (ceV (by decide +kernel) ⟨by decide, by decide, by decide +kernel⟩ (by decide) rfl (ok_Jx4a65c_size_8abf5 G)) (env_cons (ceV (by decide +kernel) ⟨by decide, by decide, by decide +kernel⟩ (by decide) rfl (ok_Jx4a65c_get_915e3 G)) (env_cons (ceV (by decide +kernel) ⟨by decide, by decide, by decide +kernel⟩ (by decide) rfl (ok_X1_forgetShade G G D S hW)) (env_nil0 (env_hh rfl))))) ?_
    simp only [↓wpN_S, ↓step_u, ↓stC_s, stC_s, ↓stF_u, stF_u, ↓stepI, lenI, ↓kN_u, isS, ↓gI_0, ↓gI_S, ↓gL_0, ↓gL_S, ↓gD_0, ↓gD_S, ↓gR_0, ↓gR_S, ↓sI_c, ↓sL_c, ↓sD_c, ↓sR_c, ↓s1_r, ↓s1_i, ↓vR_r, ↓vR_n, ↓s0_n, s0_n, ↓oR_u, ↓sP_u, ↓sPa_0, ↓sPa_S, ↓lkC_c, ↓callK_u, ↓cQ_s, ↓cQ_n, putL, putW, clr, kil, catS, catN, refF, booF, finF, nF, nmOf_0, nmOf_1, nmOf_2, nmOf_3, nmOf_4, nmOf_5, nmOf_6, nmOf_50, nmOf_51, nmOf_52, ↓reduceIte, reduceIte, Bool.false_eq_true, eq_self, true_or, or_true, true_and, and_true, false_or, or_false, Nat.reduceAdd, Nat.reduceSub, Nat.reduceEqDiff, Nat.reduceLT, Nat.reduceLeDiff, reduceCtorEq, true_implies, List.length_cons, List.length_nil, List.replicate, List.cons_append, List.nil_append, mrt_X4_forgetShades, mhh_X4_forgetShades, mow_X4_forgetShades, mnl_X4_forgetShades, DX4_forgetShades_0, DX4_forgetShades_1, DX4_forgetShades_2, DX4_forgetShades_3, DX4_forgetShades_4, DX4_forgetShades_7, DX4_forgetShades_10, DX4_forgetShades_13, DX4_forgetShades_14, DX4_forgetShades_17, DX4_forgetShades_18, DX4_forgetShades_21, DX4_forgetShades_24, DX4_forgetShades_27, DX4_forgetShades_30, DX4_forgetShades_33, ce_Jx4a65c_size_8abf5, ↓ct_Jx4a65c_size_8abf5, ycl_Jx4a65c_size_8abf5, ce_Jx4a65c_get_915e3, ↓ct_Jx4a65c_get_915e3, ycl_Jx4a65c_get_915e3, ce_X1_forgetShade, ↓ct_X1_forgetShade, ycl_X1_forgetShade, cX_nil mhh_X4_forgetShades]
    simp (disch := omega) only [i32_lit, i32_neg, i32_add, i32_mul, i32_sub, i32_nI, i32_lt, i32_le, i32_eq, inR_i, i32_clamp, i32_div, i32_max, i32_min, ite_max, ite_min, b2i_0, b2i_1, b2i_01, i32_toInt, tn_i, Int.toNat_natCast, em_t, true_and, and_true, Int.reduceToNat, Int.reduceLE, Int.reduceLT, Int.reduceAdd, Int.reduceMul, Int.reduceSub, Int.reduceNeg, Int.reduceEq, true_implies, not_true_eq_false, false_implies, not_false_eq_true, kC, rC0, rC1, rC2, rC3, rC4, kQ, rQ0, rQ1, kV, lV, kG, lG, kP, lP, kT, lT, LB1, LB2, LB3, LH1, LH2, LH3, LL1, LL2, LL3, dDy, dEv, true_and, and_true, Option.some.injEq, exists_eq_left', nmOf_0, nmOf_1, nmOf_2, nmOf_3, nmOf_4, nmOf_5, nmOf_6, Nat.add_sub_cancel, Nat.reduceSub, Nat.reduceLT, Nat.reduceEqDiff, ne_eq, not_false_eq_true]
    exact ⟨fun _ => hz, fun z => by omega⟩
  | succ k ih =>
    intro n hn h f hD hF
    have hn' : n < 12 := by omega
    have f1 : FO h (setI (setI h 2 4 (D 2 n) 0) 2 11 (D 2 n) 0) D := (FO.sI hn' (by omega)).tr (FO.sI hn' (by omega))
    have hs := ih (n + 1) (by omega) _ (f.tr f1) (hD.fo f1) (fun r hr => by
      have e := hD.1.2.2.2.2.2.2.2.2.2.2.2.1
      by_cases q : r = n
      · subst q
        refine ⟨?_, ?_⟩
        · rw [fi_setI, if_neg (by omega), fi_setI, if_pos ⟨rfl, rfl, rfl⟩]; rfl
        · rw [fi_setI, if_pos ⟨rfl, rfl, rfl⟩]; rfl
      · have ne : ¬ D 2 r = D 2 n := fun z => q (hD.1.2.2.2.2.2.2.2.2.2.2.2.1 r n (by omega) hn' z)
        obtain ⟨h1, h2⟩ := hF r (by omega)
        exact ⟨by rw [fi_setI, if_neg (fun z => ne z.2.2), fi_setI, if_neg (fun z => ne z.2.2)]; exact h1, by rw [fi_setI, if_neg (fun z => ne z.2.2), fi_setI, if_neg (fun z => ne z.2.2)]; exact h2⟩)
    have hA0 := hD.1
    have hB0 := hD.2
    obtain ⟨⟨kC, rC0, rC1, rC2, rC3, rC4⟩, ⟨kQ, rQ0, rQ1⟩, ⟨kV, lV⟩, ⟨kG, lG⟩, ⟨kP, lP⟩, ⟨kT, lT⟩, ⟨⟨LB1, LB2, LB3, LB4, LB5, LB6, LB7⟩, ⟨LH1, LH2, LH3, LH4, LH5, LH6, LH7⟩, ⟨LL1, LL2, LL3, LL4, LL5, LL6, LL7⟩⟩, hKB, hHA, hKL, hCJ⟩ := hA0
    obtain ⟨dDy, dEv, dG, dP, dV, dB, dL, dH⟩ := hB0
    have hnb := hW.1
    have hnl := hW.2.1
    obtain ⟨kH, ⟨rH5, rH6, rH7, rH8, rH12⟩, ⟨kH4, lH4⟩, ⟨kH5, lH5⟩, ⟨kH6, lH6⟩, ⟨kH7, lH7⟩⟩ := hHA n hn'
    obtain ⟨eH0, eH1, eH2, eH3⟩ := dH n hn'
    have qH := LH7 n hn'
    obtain ⟨kqH, lqH⟩ := LH6 (by omega)
    obtain ⟨vH0, vH0', vH1, vH1', -, vH2, vH2'⟩ := hW.2.2.2.2.1 n hn'
    refine wpW (cs := [(49, ce_Jx4a65c_size_8abf5), (84, ce_Jx4a65c_get_915e3), (124, ce_X1_forgetShade G D S)]) (stop := [2]) (n := 200) (env_cons (ceV (by decide +kernel) ⟨by decide, by decide, by decide +kernel⟩ (by decide) rfl (ok_Jx4a65c_size_8abf5 G)) (env_cons (ceV (by decide +kernel) ⟨by decide, by decide, by decide +kernel⟩ (by decide) rfl (ok_Jx4a65c_get_915e3 G)) (env_cons (ceV (by decide +kernel) ⟨by decide, by decide, by decide +kernel⟩ (by decide) rfl (ok_X1_forgetShade G G D S hW)) (env_nil0 (env_hh rfl))))) ?_
    simp only [↓wpN_S, ↓step_u, ↓stC_s, stC_s, ↓stF_u, stF_u, ↓stepI, lenI, ↓kN_u, isS, ↓gI_0, ↓gI_S, ↓gL_0, ↓gL_S, ↓gD_0, ↓gD_S, ↓gR_0, ↓gR_S, ↓sI_c, ↓sL_c, ↓sD_c, ↓sR_c, ↓s1_r, ↓s1_i, ↓vR_r, ↓vR_n, ↓s0_n, s0_n, ↓oR_u, ↓sP_u, ↓sPa_0, ↓sPa_S, ↓lkC_c, ↓callK_u, ↓cQ_s, ↓cQ_n, putL, putW, clr, kil, catS, catN, refF, booF, finF, nF, nmOf_0, nmOf_1, nmOf_2, nmOf_3, nmOf_4, nmOf_5, nmOf_6, nmOf_50, nmOf_51, nmOf_52, ↓reduceIte, reduceIte, Bool.false_eq_true, eq_self, true_or, or_true, true_and, and_true, false_or, or_false, Nat.reduceAdd, Nat.reduceSub, Nat.reduceEqDiff, Nat.reduceLT, Nat.reduceLeDiff, reduceCtorEq, true_implies, List.length_cons, List.length_nil, List.replicate, List.cons_append, List.nil_append, mrt_X4_forgetShades, mhh_X4_forgetShades, mow_X4_forgetShades, mnl_X4_forgetShades, DX4_forgetShades_0, DX4_forgetShades_1, DX4_forgetShades_2, DX4_forgetShades_3, DX4_forgetShades_4, DX4_forgetShades_7, DX4_forgetShades_10, DX4_forgetShades_13, DX4_forgetShades_14, DX4_forgetShades_17, DX4_forgetShades_18, DX4_forgetShades_21, DX4_forgetShades_24, DX4_forgetShades_27, DX4_forgetShades_30, DX4_forgetShades_33, ce_Jx4a65c_size_8abf5, ↓ct_Jx4a65c_size_8abf5, ycl_Jx4a65c_size_8abf5, ce_Jx4a65c_get_915e3, ↓ct_Jx4a65c_get_915e3, ycl_Jx4a65c_get_915e3, ce_X1_forgetShade, ↓ct_X1_forgetShade, ycl_X1_forgetShade, cX_nil mhh_X4_forgetShades]
    simp (disch := omega) only [i32_lit, i32_neg, i32_add, i32_mul, i32_sub, i32_nI, i32_lt, i32_le, i32_eq, inR_i, i32_clamp, i32_div, i32_max, i32_min, ite_max, ite_min, b2i_0, b2i_1, b2i_01, i32_toInt, tn_i, Int.toNat_natCast, em_t, true_and, and_true, Int.reduceToNat, Int.reduceLE, Int.reduceLT, Int.reduceAdd, Int.reduceMul, Int.reduceSub, Int.reduceNeg, Int.reduceEq, true_implies, not_true_eq_false, false_implies, not_false_eq_true, kC, rC0, rC1, rC2, rC3, rC4, kQ, rQ0, rQ1, kV, lV, kG, lG, kP, lP, kT, lT, LB1, LB2, LB3, LH1, LH2, LH3, LL1, LL2, LL3, dDy, dEv, true_and, and_true, Option.some.injEq, exists_eq_left', nmOf_0, nmOf_1, nmOf_2, nmOf_3, nmOf_4, nmOf_5, nmOf_6, Nat.add_sub_cancel, Nat.reduceSub, Nat.reduceLT, Nat.reduceEqDiff, ne_eq, not_false_eq_true, kH, rH5, rH6, rH7, rH8, rH12, kH4, lH4, kH5, lH5, kH6, lH6, kH7, lH7, eH0, eH1, eH2, eH3, qH, kqH, lqH]
    rw [show (n : Int) + 1 = ((n + 1 : Nat) : Int) by omega]
    exact ⟨fun z => by omega, fun _ => ⟨by omega, by omega, by omega, hs⟩⟩
set_option maxRecDepth 100000 in
set_option maxHeartbeats 4000000 in
theorem ok_X4_forgetShades (G : GT) (G : GT) (D : WD) (S : SS) (hW : WF S) : OKm G yX4_forgetShades MX4_forgetShades 3 0 0 (ct_X4_forgetShades G D S) := by
  refine mkOK (ini := false) (by decide) rfl (by first | exact fun _ => rfl | (intro hh; cases hh)) (fun As h Q QX hc => ?_)
  replace hc := sR_e hc; obtain ⟨c, r, rfl, hc⟩ := hc
  replace hc := s0_e hc; obtain ⟨rfl, hc⟩ := hc
  obtain ⟨hD, rfl, hq⟩ := hc
  have hz := lp_X4_forgetShades (Q := Q) (QX := QX) G hW hq 12 0 (by omega) h FO.rf hD (fun r hr => by omega)
  refine ⟨Nat.le_of_ble_eq_true rfl, ?_⟩
  simp only [ent, entL, catN, List.length_cons, List.length_nil, List.replicate, List.cons_append, List.nil_append, reduceIte, Nat.reduceEqDiff,  Nat.reduceAdd, Nat.reduceSub, mnl_X4_forgetShades]
  refine wpW (cs := [(49, ce_Jx4a65c_size_8abf5), (84, ce_Jx4a65c_get_915e3), (124, ce_X1_forgetShade G D S)]) (stop := [2]) (n := 200) (env_cons (ceV (by decide +kernel) ⟨by decide, by decide, by decide +kernel⟩ (by decide) rfl (ok_Jx4a65c_size_8abf5 G)) (env_cons (ceV (by decide +kernel) ⟨by decide, by decide, by decide +kernel⟩ (by decide) rfl (ok_Jx4a65c_get_915e3 G)) (env_cons (ceV (by decide +kernel) ⟨by decide, by decide, by decide +kernel⟩ (by decide) rfl (ok_X1_forgetShade G G D S hW)) (env_nil0 (env_hh rfl))))) ?_
  simp only [↓wpN_S, ↓step_u, ↓stC_s, stC_s, ↓stF_u, stF_u, ↓stepI, lenI, ↓kN_u, isS, ↓gI_0, ↓gI_S, ↓gL_0, ↓gL_S, ↓gD_0, ↓gD_S, ↓gR_0, ↓gR_S, ↓sI_c, ↓sL_c, ↓sD_c, ↓sR_c, ↓s1_r, ↓s1_i, ↓vR_r, ↓vR_n, ↓s0_n, s0_n, ↓oR_u, ↓sP_u, ↓sPa_0, ↓sPa_S, ↓lkC_c, ↓callK_u, ↓cQ_s, ↓cQ_n, putL, putW, clr, kil, catS, catN, refF, booF, finF, nF, nmOf_0, nmOf_1, nmOf_2, nmOf_3, nmOf_4, nmOf_5, nmOf_6, nmOf_50, nmOf_51, nmOf_52, ↓reduceIte, reduceIte, Bool.false_eq_true, eq_self, true_or, or_true, true_and, and_true, false_or, or_false, Nat.reduceAdd, Nat.reduceSub, Nat.reduceEqDiff, Nat.reduceLT, Nat.reduceLeDiff, reduceCtorEq, true_implies, List.length_cons, List.length_nil, List.replicate, List.cons_append, List.nil_append, mrt_X4_forgetShades, mhh_X4_forgetShades, mow_X4_forgetShades, mnl_X4_forgetShades, DX4_forgetShades_0, DX4_forgetShades_1, DX4_forgetShades_2, DX4_forgetShades_3, DX4_forgetShades_4, DX4_forgetShades_7, DX4_forgetShades_10, DX4_forgetShades_13, DX4_forgetShades_14, DX4_forgetShades_17, DX4_forgetShades_18, DX4_forgetShades_21, DX4_forgetShades_24, DX4_forgetShades_27, DX4_forgetShades_30, DX4_forgetShades_33, ce_Jx4a65c_size_8abf5, ↓ct_Jx4a65c_size_8abf5, ycl_Jx4a65c_size_8abf5, ce_Jx4a65c_get_915e3, ↓ct_Jx4a65c_get_915e3, ycl_Jx4a65c_get_915e3, ce_X1_forgetShade, ↓ct_X1_forgetShade, ycl_X1_forgetShade, cX_nil mhh_X4_forgetShades]
  exact hz
def ct_X4_forgetAllotments (G : GT) (D : WD) (S : SS) : Ct := fun As h Q _ => sR As fun c r => s0 r (CD G h D S ∧ c = D 0 0 ∧ ∀ h', FO h h' D → (∀ r, r < 12 → fi h' 2 4 (D 2 r) = fi h 2 4 (D 2 r) ∧ fi h' 2 11 (D 2 r) = i32 0) → Q none h')
def ce_X4_forgetAllotments (G : GT) (D : WD) (S : SS) : CE := (0, yX4_forgetAllotments, MX4_forgetAllotments, 0, 3, 0, 0, ct_X4_forgetAllotments G D S)
set_option maxRecDepth 100000 in
set_option maxHeartbeats 4000000 in
theorem lp_X4_forgetAllotments (G : GT) {D : WD} {S : SS} (hW : WF S) {h0 : Hp} {Q : Option Value → Hp → Prop} {QX : String → Hp → Prop} (hq : ∀ h', FO h0 h' D → (∀ r, r < 12 → fi h' 2 4 (D 2 r) = fi h0 2 4 (D 2 r) ∧ fi h' 2 11 (D 2 r) = i32 0) → Q none h') :
    ∀ k n : Nat, n + k = 12 → ∀ h, FO h0 h D → CD G h D S → (∀ r, r < 12 → fi h 2 4 (D 2 r) = fi h0 2 4 (D 2 r)) → (∀ r, r < n → fi h 2 11 (D 2 r) = i32 0) → Wp G MX4_forgetAllotments false 3 Q QX 2 [some (.ref (D 0 0)), some (.int (i32 n))] [] h (0, 0) := by
  intro k
  induction k with
  | zero =>
    intro n hn h f hD h4 h11
    have e : n = 12 := by omega
    subst e
    have hz := hq h f (fun r hr => ⟨h4 r hr, h11 r hr⟩)
    have hA0 := hD.1
    have hB0 := hD.2
    obtain ⟨⟨kC, rC0, rC1, rC2, rC3, rC4⟩, ⟨kQ, rQ0, rQ1⟩, ⟨kV, lV⟩, ⟨kG, lG⟩, ⟨kP, lP⟩, ⟨kT, lT⟩, ⟨⟨LB1, LB2, LB3, LB4, LB5, LB6, LB7⟩, ⟨LH1, LH2, LH3, LH4, LH5, LH6, LH7⟩, ⟨LL1, LL2, LL3, LL4, LL5, LL6, LL7⟩⟩, hKB, hHA, hKL, hCJ⟩ := hA0
    obtain ⟨dDy, dEv, dG, dP, dV, dB, dL, dH⟩ := hB0
    have hnb := hW.1
    have hnl := hW.2.1
    refine wpW (cs := [(49, ce_Jx4a65c_size_8abf5), (84, ce_Jx4a65c_get_915e3)]) (stop := [2]) (n := 200) (env_cons (ceV (by decide +kernel) ⟨by decide, by decide, by decide +kernel⟩ (by decide) rfl (ok_Jx4a65c_size_8abf5 G)) (env_cons (ceV (by decide +kernel) ⟨by decide, by decide, by decide +kernel⟩ (by decide) rfl (ok_Jx4a65c_get_915e3 G)) (env_nil0 (env_hh rfl)))) ?_
    simp only [↓wpN_S, ↓step_u, ↓stC_s, stC_s, ↓stF_u, stF_u, ↓stepI, lenI, ↓kN_u, isS, ↓gI_0, ↓gI_S, ↓gL_0, ↓gL_S, ↓gD_0, ↓gD_S, ↓gR_0, ↓gR_S, ↓sI_c, ↓sL_c, ↓sD_c, ↓sR_c, ↓s1_r, ↓s1_i, ↓vR_r, ↓vR_n, ↓s0_n, s0_n, ↓oR_u, ↓sP_u, ↓sPa_0, ↓sPa_S, ↓lkC_c, ↓callK_u, ↓cQ_s, ↓cQ_n, putL, putW, clr, kil, catS, catN, refF, booF, finF, nF, nmOf_0, nmOf_1, nmOf_2, nmOf_3, nmOf_4, nmOf_5, nmOf_6, nmOf_50, nmOf_51, nmOf_52, ↓reduceIte, reduceIte, Bool.false_eq_true, eq_self, true_or, or_true, true_and, and_true, false_or, or_false, Nat.reduceAdd, Nat.reduceSub, Nat.reduceEqDiff, Nat.reduceLT, Nat.reduceLeDiff, reduceCtorEq, true_implies, List.length_cons, List.length_nil, List.replicate, List.cons_append, List.nil_append, mrt_X4_forgetAllotments, mhh_X4_forgetAllotments, mow_X4_forgetAllotments, mnl_X4_forgetAllotments, DX4_forgetAllotments_0, DX4_forgetAllotments_1, DX4_forgetAllotments_2, DX4_forgetAllotments_3, DX4_forgetAllotments_4, DX4_forgetAllotments_7, DX4_forgetAllotments_10, DX4_forgetAllotments_13, DX4_forgetAllotments_14, DX4_forgetAllotments_17, DX4_forgetAllotments_18, DX4_forgetAllotments_21, DX4_forgetAllotments_24, DX4_forgetAllotments_25, DX4_forgetAllotments_28, DX4_forgetAllotments_31, DX4_forgetAllotments_34, ce_Jx4a65c_size_8abf5, ↓ct_Jx4a65c_size_8abf5, ycl_Jx4a65c_size_8abf5, ce_Jx4a65c_get_915e3, ↓ct_Jx4a65c_get_915e3, ycl_Jx4a65c_get_915e3, cX_nil mhh_X4_forgetAllotments]
    simp (disch := omega) only [i32_lit, i32_neg, i32_add, i32_mul, i32_sub, i32_nI, i32_lt, i32_le, i32_eq, inR_i, i32_clamp, i32_div, i32_max, i32_min, ite_max, ite_min, b2i_0, b2i_1, b2i_01, i32_toInt, tn_i, Int.toNat_natCast, em_t, true_and, and_true, Int.reduceToNat, Int.reduceLE, Int.reduceLT, Int.reduceAdd, Int.reduceMul, Int.reduceSub, Int.reduceNeg, Int.reduceEq, true_implies, not_true_eq_false, false_implies, not_false_eq_true, kC, rC0, rC1, rC2, rC3, rC4, kQ, rQ0, rQ1, kV, lV, kG, lG, kP, lP, kT, lT, LB1, LB2, LB3, LH1, LH2, LH3, LL1, LL2, LL3, dDy, dEv, true_and, and_true, Option.some.injEq, exists_eq_left', nmOf_0, nmOf_1, nmOf_2, nmOf_3, nmOf_4, nmOf_5, nmOf_6, Nat.add_sub_cancel, Nat.reduceSub, Nat.reduceLT, Nat.reduceEqDiff, ne_eq, not_false_eq_true]
    exact ⟨fun _ => hz, fun z => by omega⟩
  | succ k ih =>
    intro n hn h f hD h4 h11
    have hn' : n < 12 := by omega
    have f1 : FO h (setI h 2 11 (D 2 n) (i32 0)) D := FO.sI hn' (by omega)
    have hs := ih (n + 1) (by omega) _ (f.tr f1) (hD.fo f1) (fun r hr => by rw [fi_setI, if_neg (by omega)]; exact h4 r hr) (fun r hr => by
      by_cases q : r = n
      · subst q
        rw [fi_setI, if_pos ⟨rfl, rfl, rfl⟩]
      · have ne : ¬ D 2 r = D 2 n := fun z => q (hD.1.2.2.2.2.2.2.2.2.2.2.2.1 r n (by omega) hn' z)
        rw [fi_setI, if_neg (fun z => ne z.2.2)]
        exact h11 r (by omega))
    have hA0 := hD.1
    have hB0 := hD.2
    obtain ⟨⟨kC, rC0, rC1, rC2, rC3, rC4⟩, ⟨kQ, rQ0, rQ1⟩, ⟨kV, lV⟩, ⟨kG, lG⟩, ⟨kP, lP⟩, ⟨kT, lT⟩, ⟨⟨LB1, LB2, LB3, LB4, LB5, LB6, LB7⟩, ⟨LH1, LH2, LH3, LH4, LH5, LH6, LH7⟩, ⟨LL1, LL2, LL3, LL4, LL5, LL6, LL7⟩⟩, hKB, hHA, hKL, hCJ⟩ := hA0
    obtain ⟨dDy, dEv, dG, dP, dV, dB, dL, dH⟩ := hB0
    have hnb := hW.1
    have hnl := hW.2.1
    obtain ⟨kH, ⟨rH5, rH6, rH7, rH8, rH12⟩, ⟨kH4, lH4⟩, ⟨kH5, lH5⟩, ⟨kH6, lH6⟩, ⟨kH7, lH7⟩⟩ := hHA n hn'
    obtain ⟨eH0, eH1, eH2, eH3⟩ := dH n hn'
    have qH := LH7 n hn'
    obtain ⟨kqH, lqH⟩ := LH6 (by omega)
    obtain ⟨vH0, vH0', vH1, vH1', -, vH2, vH2'⟩ := hW.2.2.2.2.1 n hn'
    refine wpW (cs := [(49, ce_Jx4a65c_size_8abf5), (84, ce_Jx4a65c_get_915e3)]) (stop := [2]) (n := 200) (env_cons (ceV (by decide +kernel) ⟨by decide, by decide, by decide +kernel⟩ (by decide) rfl (ok_Jx4a65c_size_8abf5 G)) (env_cons (ceV (by decide +kernel) ⟨by decide, by decide, by decide +kernel⟩ (by decide) rfl (ok_Jx4a65c_get_915e3 G)) (env_nil0 (env_hh rfl)))) ?_
    simp only [↓wpN_S, ↓step_u, ↓stC_s, stC_s, ↓stF_u, stF_u, ↓stepI, lenI, ↓kN_u, isS, ↓gI_0, ↓gI_S, ↓gL_0, ↓gL_S, ↓gD_0, ↓gD_S, ↓gR_0, ↓gR_S, ↓sI_c, ↓sL_c, ↓sD_c, ↓sR_c, ↓s1_r, ↓s1_i, ↓vR_r, ↓vR_n, ↓s0_n, s0_n, ↓oR_u, ↓sP_u, ↓sPa_0, ↓sPa_S, ↓lkC_c, ↓callK_u, ↓cQ_s, ↓cQ_n, putL, putW, clr, kil, catS, catN, refF, booF, finF, nF, nmOf_0, nmOf_1, nmOf_2, nmOf_3, nmOf_4, nmOf_5, nmOf_6, nmOf_50, nmOf_51, nmOf_52, ↓reduceIte, reduceIte, Bool.false_eq_true, eq_self, true_or, or_true, true_and, and_true, false_or, or_false, Nat.reduceAdd, Nat.reduceSub, Nat.reduceEqDiff, Nat.reduceLT, Nat.reduceLeDiff, reduceCtorEq, true_implies, List.length_cons, List.length_nil, List.replicate, List.cons_append, List.nil_append, mrt_X4_forgetAllotments, mhh_X4_forgetAllotments, mow_X4_forgetAllotments, mnl_X4_forgetAllotments, DX4_forgetAllotments_0, DX4_forgetAllotments_1, DX4_forgetAllotments_2, DX4_forgetAllotments_3, DX4_forgetAllotments_4, DX4_forgetAllotments_7, DX4_forgetAllotments_10, DX4_forgetAllotments_13, DX4_forgetAllotments_14, DX4_forgetAllotments_17, DX4_forgetAllotments_18, DX4_forgetAllotments_21, DX4_forgetAllotments_24, DX4_forgetAllotments_25, DX4_forgetAllotments_28, DX4_forgetAllotments_31, DX4_forgetAllotments_34, ce_Jx4a65c_size_8abf5, ↓ct_Jx4a65c_size_8abf5, ycl_Jx4a65c_size_8abf5, ce_Jx4a65c_get_915e3, ↓ct_Jx4a65c_get_915e3, ycl_Jx4a65c_get_915e3, cX_nil mhh_X4_forgetAllotments]
    simp (disch := omega) only [i32_lit, i32_neg, i32_add, i32_mul, i32_sub, i32_nI, i32_lt, i32_le, i32_eq, inR_i, i32_clamp, i32_div, i32_max, i32_min, ite_max, ite_min, b2i_0, b2i_1, b2i_01, i32_toInt, tn_i, Int.toNat_natCast, em_t, true_and, and_true, Int.reduceToNat, Int.reduceLE, Int.reduceLT, Int.reduceAdd, Int.reduceMul, Int.reduceSub, Int.reduceNeg, Int.reduceEq, true_implies, not_true_eq_false, false_implies, not_false_eq_true, kC, rC0, rC1, rC2, rC3, rC4, kQ, rQ0, rQ1, kV, lV, kG, lG, kP, lP, kT, lT, LB1, LB2, LB3, LH1, LH2, LH3, LL1, LL2, LL3, dDy, dEv, true_and, and_true, Option.some.injEq, exists_eq_left', nmOf_0, nmOf_1, nmOf_2, nmOf_3, nmOf_4, nmOf_5, nmOf_6, Nat.add_sub_cancel, Nat.reduceSub, Nat.reduceLT, Nat.reduceEqDiff, ne_eq, not_false_eq_true, kH, rH5, rH6, rH7, rH8, rH12, kH4, lH4, kH5, lH5, kH6, lH6, kH7, lH7, eH0, eH1, eH2, eH3, qH, kqH, lqH]
    rw [show (n : Int) + 1 = ((n + 1 : Nat) : Int) by omega]
    exact ⟨fun z => by omega, fun _ => ⟨by omega, by omega, by omega, hs⟩⟩
set_option maxRecDepth 100000 in
set_option maxHeartbeats 4000000 in
theorem ok_X4_forgetAllotments (G : GT) (G : GT) (D : WD) (S : SS) (hW : WF S) : OKm G yX4_forgetAllotments MX4_forgetAllotments 3 0 0 (ct_X4_forgetAllotments G D S) := by
  refine mkOK (ini := false) (by decide) rfl (by first | exact fun _ => rfl | (intro hh; cases hh)) (fun As h Q QX hc => ?_)
  replace hc := sR_e hc; obtain ⟨c, r, rfl, hc⟩ := hc
  replace hc := s0_e hc; obtain ⟨rfl, hc⟩ := hc
  obtain ⟨hD, rfl, hq⟩ := hc
  have hz := lp_X4_forgetAllotments (Q := Q) (QX := QX) G hW hq 12 0 (by omega) h FO.rf hD (fun r hr => rfl) (fun r hr => by omega)
  refine ⟨Nat.le_of_ble_eq_true rfl, ?_⟩
  simp only [ent, entL, catN, List.length_cons, List.length_nil, List.replicate, List.cons_append, List.nil_append, reduceIte, Nat.reduceEqDiff,  Nat.reduceAdd, Nat.reduceSub, mnl_X4_forgetAllotments]
  refine wpW (cs := [(49, ce_Jx4a65c_size_8abf5), (84, ce_Jx4a65c_get_915e3)]) (stop := [2]) (n := 200) (env_cons (ceV (by decide +kernel) ⟨by decide, by decide, by decide +kernel⟩ (by decide) rfl (ok_Jx4a65c_size_8abf5 G)) (env_cons (ceV (by decide +kernel) ⟨by decide, by decide, by decide +kernel⟩ (by decide) rfl (ok_Jx4a65c_get_915e3 G)) (env_nil0 (env_hh rfl)))) ?_
  simp only [↓wpN_S, ↓step_u, ↓stC_s, stC_s, ↓stF_u, stF_u, ↓stepI, lenI, ↓kN_u, isS, ↓gI_0, ↓gI_S, ↓gL_0, ↓gL_S, ↓gD_0, ↓gD_S, ↓gR_0, ↓gR_S, ↓sI_c, ↓sL_c, ↓sD_c, ↓sR_c, ↓s1_r, ↓s1_i, ↓vR_r, ↓vR_n, ↓s0_n, s0_n, ↓oR_u, ↓sP_u, ↓sPa_0, ↓sPa_S, ↓lkC_c, ↓callK_u, ↓cQ_s, ↓cQ_n, putL, putW, clr, kil, catS, catN, refF, booF, finF, nF, nmOf_0, nmOf_1, nmOf_2, nmOf_3, nmOf_4, nmOf_5, nmOf_6, nmOf_50, nmOf_51, nmOf_52, ↓reduceIte, reduceIte, Bool.false_eq_true, eq_self, true_or, or_true, true_and, and_true, false_or, or_false, Nat.reduceAdd, Nat.reduceSub, Nat.reduceEqDiff, Nat.reduceLT, Nat.reduceLeDiff, reduceCtorEq, true_implies, List.length_cons, List.length_nil, List.replicate, List.cons_append, List.nil_append, mrt_X4_forgetAllotments, mhh_X4_forgetAllotments, mow_X4_forgetAllotments, mnl_X4_forgetAllotments, DX4_forgetAllotments_0, DX4_forgetAllotments_1, DX4_forgetAllotments_2, DX4_forgetAllotments_3, DX4_forgetAllotments_4, DX4_forgetAllotments_7, DX4_forgetAllotments_10, DX4_forgetAllotments_13, DX4_forgetAllotments_14, DX4_forgetAllotments_17, DX4_forgetAllotments_18, DX4_forgetAllotments_21, DX4_forgetAllotments_24, DX4_forgetAllotments_25, DX4_forgetAllotments_28, DX4_forgetAllotments_31, DX4_forgetAllotments_34, ce_Jx4a65c_size_8abf5, ↓ct_Jx4a65c_size_8abf5, ycl_Jx4a65c_size_8abf5, ce_Jx4a65c_get_915e3, ↓ct_Jx4a65c_get_915e3, ycl_Jx4a65c_get_915e3, cX_nil mhh_X4_forgetAllotments]
  exact hz
/-- hours that were measured still are -/
theorem HM.fo {h h' : Hp} {D : WD} {S : SS} {r : Nat} (hM : HM h D S r) (f : FO h h' D) : HM h' D S r := hM.st (fun i => f.2.2.2.2.1 _ i) (fun i => f.2.2.2.2.1 _ i) (fun i => f.2.2.2.2.1 _ i) (f.2.1 _ _ _ (by omega)) (f.2.1 _ _ _ (by omega))
theorem CI.fa {G : GT} {h h' : Hp} {D : WD} {S : SS} (hD : CD G h D S) (hH : ∀ r, r < 12 → (fi h 2 4 (D 2 r) = i32 0 ∨ fi h 2 4 (D 2 r) = i32 1) ∧ (fi h 2 4 (D 2 r) = i32 1 → HM h D S r)) (f : FO h h' D) (hF : ∀ r, r < 12 → fi h' 2 4 (D 2 r) = fi h 2 4 (D 2 r) ∧ fi h' 2 11 (D 2 r) = i32 0) : CI G h' D S := by
  have hD' := hD.fo f
  refine ⟨hD'.1, hD'.2, fun r hr => ?_⟩
  obtain ⟨h1, h2⟩ := hF r hr
  obtain ⟨k1, k2⟩ := hH r hr
  have ne : ¬ i32 0 = i32 1 := by rw [i32_eq (by omega) (by omega)]; omega
  exact ⟨by rw [h1]; exact k1, Or.inl h2, fun z => (k2 (h1.symm.trans z)).fo f, fun z => absurd (h2.symm.trans z) ne⟩
/-- the class's own -/
def WO (D : WD) (S : SS) : Nat → Prop := fun a => (∃ i, i ≤ 11 ∧ a = D 0 i) ∨ (∃ b, b < S.nb ∧ a = D 1 b) ∨ (∃ l, l < S.nl ∧ a = D 3 l) ∨ ∃ t r, (t = 2 ∨ 4 ≤ t ∧ t ≤ 7) ∧ r < 12 ∧ a = D t r
theorem WO.s {D : WD} {S : SS} {i : Nat} (h : i ≤ 11) : WO D S (D 0 i) := Or.inl ⟨i, h, rfl⟩
theorem WO.b {D : WD} {S : SS} {i : Nat} (h : i < S.nb) : WO D S (D 1 i) := Or.inr (Or.inl ⟨i, h, rfl⟩)
theorem WO.l {D : WD} {S : SS} {i : Nat} (h : i < S.nl) : WO D S (D 3 i) := Or.inr (Or.inr (Or.inl ⟨i, h, rfl⟩))
theorem WO.h {D : WD} {S : SS} {t r : Nat} (ht : t = 2 ∨ 4 ≤ t ∧ t ≤ 7) (h : r < 12) : WO D S (D t r) := Or.inr (Or.inr (Or.inr ⟨t, r, ht, h, rfl⟩))
theorem WK.wo {D : WD} {S : SS} (a : Nat) (h : WK D a) : WO D S a := by
  rcases h with rfl | ⟨r, hr, h | h | h | h | h⟩
  · exact WO.s (by omega)
  all_goals (rw [h]; exact WO.h (by omega) hr)
theorem FO.fr {h h' : Hp} {D : WD} {S : SS} (f : FO h h' D) : Fr h h' (WO D S) := fun a _ => by
  obtain ⟨g1, g2, g3, g4, g5, g6, g7⟩ := f
  exact ⟨⟨g1 a, g4 a⟩, fun q => ⟨fun c k => g2 c k a (fun z => by obtain ⟨r, hr, e⟩ := z.2.2; exact q (e ▸ WO.h (by omega) hr)), fun c k => g3 c k a, fun i => g5 a i, fun i => g6 a i, fun i => g7 a i⟩⟩
/-- a call that changes the state -/
def nxc (G : GT) (h : Hp) (D : WD) (S S' : SS) (Q : Option Value → Hp → Prop) (v : Value) : Prop := ∀ h' D', D' 0 0 = D 0 0 → Fr h h' (WO D S) → (∀ a, WO D' S' a → WO D S a ∨ kd h a = 0) → CI G h' D' S' → Q (some v) h'
/-! a building's height -/
theorem CD_h {G : GT} {h : Hp} {D : WD} {S : SS} {b : Nat} {v : Int} (hD : CD G h D S) (hb : b < S.nb) : CD G (setI h 1 6 (D 1 b) (i32 v)) D (S.uB b 4 v) := by
  obtain ⟨⟨a, a', c1, c2, c3, c4, d, e1, e2, e3, e4⟩, ⟨p1, p2, p3, p4, p5, p6, p7, p8⟩⟩ := hD
  have hcv : ∀ x y, isCov (S.uB b 4 v) x y = isCov S x y := fun x y => by
    unfold isCov
    have : cov (S.uB b 4 v) = cov S := by
      funext i x y
      unfold cov
      simp only [bf_uB, Nat.reduceEqDiff, and_false, if_false]
    rw [this]
    rfl
  refine ⟨⟨a, a', c1, c2, c3, c4, d, e1, e2, e3, e4⟩, ⟨p1, p2, p3, p4, fun k hk => by rw [hcv]; exact p5 k hk, fun i hi => ?_, p7, p8⟩⟩
  obtain ⟨q0, q1, q2, q3, q4, q5, q6, q7⟩ := p6 i hi
  have hi' : i < S.nb := hi
  simp only [BD, bf_uB, fi_setI, Nat.reduceEqDiff, and_false, false_and, if_false, and_true, true_and]
  refine ⟨q0, q1, q2, q3, q4, q5, ?_, q7⟩
  by_cases z : i = b
  · subst z; simp only [if_true]
  · rw [if_neg (fun y => z (e4.1 i b hi' hb y)), if_neg z]; exact q6
def ct_X4_changeHeight (G : GT) (D : WD) (S : SS) : Ct := fun As h Q _ => sR As fun c r => sR r fun a r => sI r fun v r => s0 r (CD G h D S ∧ c = D 0 0 ∧ (1 ≤ v.toInt ∧ v.toInt ≤ 9) ∧ ∃ b, b < S.nb ∧ a = D 1 b ∧ ∀ h', Fr h h' (WO D S) → CI G h' D (S.uB b 4 v.toInt) → Q none h')
def ce_X4_changeHeight (G : GT) (D : WD) (S : SS) : CE := (0, yX4_changeHeight, MX4_changeHeight, 2, 4, 0, 0, ct_X4_changeHeight G D S)
set_option maxRecDepth 100000 in
set_option maxHeartbeats 4000000 in
theorem tl_X4_changeHeight (G : GT) {D : WD} {S : SS} (hW : WF S) {h : Hp} {o1 o2 : Option Value} {Q : Option Value → Hp → Prop} {QX : String → Hp → Prop} (hD : CD G h D S) (hq : ∀ h', FO h h' D → CF h' D 12 → Q none h') :
    Wp G MX4_changeHeight false 4 Q QX 5 [some (.ref (D 0 0)), o1, o2] [] h (0, 0) := by
  have hD0 := hD
  have hA0 := hD.1
  have hB0 := hD.2
  obtain ⟨⟨kC, rC0, rC1, rC2, rC3, rC4⟩, ⟨kQ, rQ0, rQ1⟩, ⟨kV, lV⟩, ⟨kG, lG⟩, ⟨kP, lP⟩, ⟨kT, lT⟩, ⟨⟨LB1, LB2, LB3, LB4, LB5, LB6, LB7⟩, ⟨LH1, LH2, LH3, LH4, LH5, LH6, LH7⟩, ⟨LL1, LL2, LL3, LL4, LL5, LL6, LL7⟩⟩, hKB, hHA, hKL, hCJ⟩ := hA0
  obtain ⟨dDy, dEv, dG, dP, dV, dB, dL, dH⟩ := hB0
  have hnb := hW.1
  have hnl := hW.2.1
  refine wpW (cs := [(73, ce_X4_forgetShades G D S)]) (stop := []) (n := 200) (env_cons (ceV (by decide +kernel) ⟨by decide, by decide, by decide +kernel⟩ (by decide) rfl (ok_X4_forgetShades G G D S hW)) (env_nil0 (env_hh rfl))) ?_
  simp only [↓wpN_S, ↓step_u, ↓stC_s, stC_s, ↓stF_u, stF_u, ↓stepI, lenI, ↓kN_u, isS, ↓gI_0, ↓gI_S, ↓gL_0, ↓gL_S, ↓gD_0, ↓gD_S, ↓gR_0, ↓gR_S, ↓sI_c, ↓sL_c, ↓sD_c, ↓sR_c, ↓s1_r, ↓s1_i, ↓vR_r, ↓vR_n, ↓s0_n, s0_n, ↓oR_u, ↓sP_u, ↓sPa_0, ↓sPa_S, ↓lkC_c, ↓callK_u, ↓cQ_s, ↓cQ_n, putL, putW, clr, kil, catS, catN, refF, booF, finF, nF, nmOf_0, nmOf_1, nmOf_2, nmOf_3, nmOf_4, nmOf_5, nmOf_6, nmOf_50, nmOf_51, nmOf_52, ↓reduceIte, reduceIte, Bool.false_eq_true, eq_self, true_or, or_true, true_and, and_true, false_or, or_false, Nat.reduceAdd, Nat.reduceSub, Nat.reduceEqDiff, Nat.reduceLT, Nat.reduceLeDiff, reduceCtorEq, true_implies, List.length_cons, List.length_nil, List.replicate, List.cons_append, List.nil_append, mrt_X4_changeHeight, mhh_X4_changeHeight, mow_X4_changeHeight, mnl_X4_changeHeight, DX4_changeHeight_0, DX4_changeHeight_1, DX4_changeHeight_2, DX4_changeHeight_5, DX4_changeHeight_6, DX4_changeHeight_9, ce_X4_forgetShades, ↓ct_X4_forgetShades, ycl_X4_forgetShades, cX_nil mhh_X4_changeHeight]
  simp (disch := omega) only [i32_lit, i32_neg, i32_add, i32_mul, i32_sub, i32_nI, i32_lt, i32_le, i32_eq, inR_i, i32_clamp, i32_div, i32_max, i32_min, ite_max, ite_min, b2i_0, b2i_1, b2i_01, i32_toInt, tn_i, Int.toNat_natCast, em_t, true_and, and_true, Int.reduceToNat, Int.reduceLE, Int.reduceLT, Int.reduceAdd, Int.reduceMul, Int.reduceSub, Int.reduceNeg, Int.reduceEq, true_implies, not_true_eq_false, false_implies, not_false_eq_true, kC, rC0, rC1, rC2, rC3, rC4, kQ, rQ0, rQ1, kV, lV, kG, lG, kP, lP, kT, lT, LB1, LB2, LB3, LH1, LH2, LH3, LL1, LL2, LL3, dDy, dEv, true_and, and_true, Option.some.injEq, exists_eq_left', nmOf_0, nmOf_1, nmOf_2, nmOf_3, nmOf_4, nmOf_5, nmOf_6, Nat.add_sub_cancel, Nat.reduceSub, Nat.reduceLT, Nat.reduceEqDiff, ne_eq, not_false_eq_true, hD0]
  exact hq
set_option maxRecDepth 100000 in
set_option maxHeartbeats 4000000 in
theorem ok_X4_changeHeight (G : GT) (G : GT) (D : WD) (S : SS) (hW : WF S) : OKm G yX4_changeHeight MX4_changeHeight 4 0 0 (ct_X4_changeHeight G D S) := by
  refine mkOK (ini := false) (by decide) rfl (by first | exact fun _ => rfl | (intro hh; cases hh)) (fun As h Q QX hc => ?_)
  replace hc := sR_e hc; obtain ⟨c, r, rfl, hc⟩ := hc
  replace hc := sR_e hc; obtain ⟨a, r, rfl, hc⟩ := hc
  replace hc := sI_e hc; obtain ⟨v, r, rfl, hc⟩ := hc
  replace hc := s0_e hc; obtain ⟨rfl, hc⟩ := hc
  obtain ⟨hD, rfl, hv, b, hb, rfl, hq⟩ := hc
  obtain ⟨vV, hvV, rfl⟩ := i32_all v
  rw [i32_toInt hvV] at hv hq
  have hz := tl_X4_changeHeight (o1 := some (.ref (D 1 b))) (o2 := some (.int (i32 vV))) (Q := Q) (QX := QX) G (WF_uB4 (b := b) hW hv) (CD_h (v := vV) hD hb) (fun h' g1 g2 => hq h' ((Fr.sI (WO.b hb)).tr g1.fr) (g2.ci ((CD_h hD hb).fo g1)))
  have hA0 := hD.1
  have hB0 := hD.2
  obtain ⟨⟨kC, rC0, rC1, rC2, rC3, rC4⟩, ⟨kQ, rQ0, rQ1⟩, ⟨kV, lV⟩, ⟨kG, lG⟩, ⟨kP, lP⟩, ⟨kT, lT⟩, ⟨⟨LB1, LB2, LB3, LB4, LB5, LB6, LB7⟩, ⟨LH1, LH2, LH3, LH4, LH5, LH6, LH7⟩, ⟨LL1, LL2, LL3, LL4, LL5, LL6, LL7⟩⟩, hKB, hHA, hKL, hCJ⟩ := hA0
  obtain ⟨dDy, dEv, dG, dP, dV, dB, dL, dH⟩ := hB0
  have hnb := hW.1
  have hnl := hW.2.1
  have kB := hKB b hb
  obtain ⟨eB0, eB1, eB2, eB3, eB4, eB5, eB6, eB7⟩ := dB b hb
  have qB := LB7 b hb
  obtain ⟨kqB, lqB⟩ := LB6 (by omega)
  obtain ⟨vB0, vB2, vB2', vB02, vB1, vB3, vB3', vB13, vB4, vB4', vB5, vB5', vB6⟩ := hW.2.2.1 b hb
  refine ⟨Nat.le_of_ble_eq_true rfl, ?_⟩
  simp only [ent, entL, catN, List.length_cons, List.length_nil, List.replicate, List.cons_append, List.nil_append, reduceIte, Nat.reduceEqDiff,  Nat.reduceAdd, Nat.reduceSub, mnl_X4_changeHeight]
  refine wpW (cs := [(73, ce_X4_forgetShades G D S)]) (stop := [5]) (n := 200) (env_cons (ceV (by decide +kernel) ⟨by decide, by decide, by decide +kernel⟩ (by decide) rfl (ok_X4_forgetShades G G D S hW)) (env_nil0 (env_hh rfl))) ?_
  simp only [↓wpN_S, ↓step_u, ↓stC_s, stC_s, ↓stF_u, stF_u, ↓stepI, lenI, ↓kN_u, isS, ↓gI_0, ↓gI_S, ↓gL_0, ↓gL_S, ↓gD_0, ↓gD_S, ↓gR_0, ↓gR_S, ↓sI_c, ↓sL_c, ↓sD_c, ↓sR_c, ↓s1_r, ↓s1_i, ↓vR_r, ↓vR_n, ↓s0_n, s0_n, ↓oR_u, ↓sP_u, ↓sPa_0, ↓sPa_S, ↓lkC_c, ↓callK_u, ↓cQ_s, ↓cQ_n, putL, putW, clr, kil, catS, catN, refF, booF, finF, nF, nmOf_0, nmOf_1, nmOf_2, nmOf_3, nmOf_4, nmOf_5, nmOf_6, nmOf_50, nmOf_51, nmOf_52, ↓reduceIte, reduceIte, Bool.false_eq_true, eq_self, true_or, or_true, true_and, and_true, false_or, or_false, Nat.reduceAdd, Nat.reduceSub, Nat.reduceEqDiff, Nat.reduceLT, Nat.reduceLeDiff, reduceCtorEq, true_implies, List.length_cons, List.length_nil, List.replicate, List.cons_append, List.nil_append, mrt_X4_changeHeight, mhh_X4_changeHeight, mow_X4_changeHeight, mnl_X4_changeHeight, DX4_changeHeight_0, DX4_changeHeight_1, DX4_changeHeight_2, DX4_changeHeight_5, DX4_changeHeight_6, DX4_changeHeight_9, ce_X4_forgetShades, ↓ct_X4_forgetShades, ycl_X4_forgetShades, cX_nil mhh_X4_changeHeight]
  simp (disch := omega) only [i32_lit, i32_neg, i32_add, i32_mul, i32_sub, i32_nI, i32_lt, i32_le, i32_eq, inR_i, i32_clamp, i32_div, i32_max, i32_min, ite_max, ite_min, b2i_0, b2i_1, b2i_01, i32_toInt, tn_i, Int.toNat_natCast, em_t, true_and, and_true, Int.reduceToNat, Int.reduceLE, Int.reduceLT, Int.reduceAdd, Int.reduceMul, Int.reduceSub, Int.reduceNeg, Int.reduceEq, true_implies, not_true_eq_false, false_implies, not_false_eq_true, kC, rC0, rC1, rC2, rC3, rC4, kQ, rQ0, rQ1, kV, lV, kG, lG, kP, lP, kT, lT, LB1, LB2, LB3, LH1, LH2, LH3, LL1, LL2, LL3, dDy, dEv, true_and, and_true, Option.some.injEq, exists_eq_left', nmOf_0, nmOf_1, nmOf_2, nmOf_3, nmOf_4, nmOf_5, nmOf_6, Nat.add_sub_cancel, Nat.reduceSub, Nat.reduceLT, Nat.reduceEqDiff, ne_eq, not_false_eq_true, kB, eB0, eB1, eB2, eB3, eB4, eB5, eB6, eB7, qB, kqB, lqB]
  exact hz

