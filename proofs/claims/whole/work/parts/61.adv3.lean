/-! ===== the class: fewestFree, advise ===== -/
def ct_X4_fewestFree (G : GT) (D : WD) (S : SS) : Ct := fun As h Q _ => sR As fun c r => sI r fun b r => sI r fun f r => sI r fun l r => sI r fun p r => s0 r (CI G h D S ∧ c = D 0 0 ∧ (0 ≤ b.toInt ∧ b.toInt < S.nb) ∧ (0 ≤ f.toInt ∧ f.toInt ≤ l.toInt ∧ l.toInt ≤ 11) ∧ (1 ≤ p.toInt ∧ p.toInt ≤ 99) ∧ nxr G h D S Q (.int (i32 (itsN S (tn b) p.toInt (tn f) (l.toInt - f.toInt + 1).toNat))))
def ce_X4_fewestFree (G : GT) (D : WD) (S : SS) : CE := (0, yX4_fewestFree, MX4_fewestFree, 4, 10, 0, 0, ct_X4_fewestFree G D S)
set_option maxRecDepth 100000 in
set_option maxHeartbeats 4000000 in
theorem lp_X4_fewestFree (G : GT) {D : WD} {S : SS} (hW : WF S) {h0 : Hp} {b r0 n0 : Nat} {p : Int} {Q : Option Value → Hp → Prop} {QX : String → Hp → Prop} (hb : b < S.nb) (hp : 1 ≤ p ∧ p ≤ 99) (hr : r0 + n0 ≤ 12) (hq : nxr G h0 D S Q (.int (i32 (itsN S b p r0 n0)))) :
    ∀ k n : Nat, n + k = n0 → ∀ h, Fr h0 h (WK D) → CI G h D S → Wp G MX4_fewestFree false 10 Q QX 8 [some (.ref (D 0 0)), some (.int (i32 b)), some (.int (i32 r0)), some (.int (i32 (r0 + n0 - 1))), some (.int (i32 p)), some (.int (i32 (itsN S b p r0 n))), some (.int (i32 (r0 + n)))] [] h (0, 0) := by
  intro k
  induction k with
  | zero =>
    intro n hn h f hI
    have e : n = n0 := by omega
    subst e
    have hz := hq h f hI
    have hD := hI.cd
    have hA0 := hD.1
    have hB0 := hD.2
    obtain ⟨⟨kC, rC0, rC1, rC2, rC3, rC4⟩, ⟨kQ, rQ0, rQ1⟩, ⟨kV, lV⟩, ⟨kG, lG⟩, ⟨kP, lP⟩, ⟨kT, lT⟩, ⟨⟨LB1, LB2, LB3, LB4, LB5, LB6, LB7⟩, ⟨LH1, LH2, LH3, LH4, LH5, LH6, LH7⟩, ⟨LL1, LL2, LL3, LL4, LL5, LL6, LL7⟩⟩, hKB, hHA, hKL, hCJ⟩ := hA0
    obtain ⟨dDy, dEv, dG, dP, dV, dB, dL, dH⟩ := hB0
    have hnb := hW.1
    have hnl := hW.2.1
    refine wpW (cs := [(161, ce_X4_allottedHour G D S), (316, ce_X4_freeIn G D S), (320, ce_min)]) (stop := [8, 23]) (n := 200) (env_cons (ceV (by decide +kernel) ⟨by decide, by decide, by decide +kernel⟩ (by decide) rfl (ok_X4_allottedHour G G D S hW)) (env_cons (ceV (by decide +kernel) ⟨by decide, by decide, by decide +kernel⟩ (by decide) rfl (ok_X4_freeIn G G D S hW)) (env_cons (ce_minOK (by decide +kernel)) (env_nil0 (env_hh rfl))))) ?_
    simp only [↓wpN_S, ↓step_u, ↓stC_s, stC_s, ↓stF_u, stF_u, ↓stepI, lenI, ↓kN_u, isS, ↓gI_0, ↓gI_S, ↓gL_0, ↓gL_S, ↓gD_0, ↓gD_S, ↓gR_0, ↓gR_S, ↓sI_c, ↓sL_c, ↓sD_c, ↓sR_c, ↓s1_r, ↓s1_i, ↓vR_r, ↓vR_n, ↓s0_n, s0_n, ↓oR_u, ↓sP_u, ↓sPa_0, ↓sPa_S, ↓lkC_c, ↓callK_u, ↓cQ_s, ↓cQ_n, putL, putW, clr, kil, catS, catN, refF, booF, finF, nF, nmOf_0, nmOf_1, nmOf_2, nmOf_3, nmOf_4, nmOf_5, nmOf_6, nmOf_50, nmOf_51, nmOf_52, ↓reduceIte, reduceIte, Bool.false_eq_true, eq_self, true_or, or_true, true_and, and_true, false_or, or_false, Nat.reduceAdd, Nat.reduceSub, Nat.reduceEqDiff, Nat.reduceLT, Nat.reduceLeDiff, reduceCtorEq, true_implies, List.length_cons, List.length_nil, List.replicate, List.cons_append, List.nil_append, mrt_X4_fewestFree, mhh_X4_fewestFree, mow_X4_fewestFree, mnl_X4_fewestFree, DX4_fewestFree_0, DX4_fewestFree_3, DX4_fewestFree_5, DX4_fewestFree_6, DX4_fewestFree_8, DX4_fewestFree_10, DX4_fewestFree_11, DX4_fewestFree_14, DX4_fewestFree_16, DX4_fewestFree_17, DX4_fewestFree_18, DX4_fewestFree_20, DX4_fewestFree_23, DX4_fewestFree_24, DX4_fewestFree_26, DX4_fewestFree_29, DX4_fewestFree_32, DX4_fewestFree_34, DX4_fewestFree_37, DX4_fewestFree_40, DX4_fewestFree_42, ce_X4_allottedHour, ↓ct_X4_allottedHour, ycl_X4_allottedHour, ce_X4_freeIn, ↓ct_X4_freeIn, ycl_X4_freeIn, ce_min, cX_nil mhh_X4_fewestFree]
    simp (disch := omega) only [i32_lit, i32_neg, i32_add, i32_mul, i32_sub, i32_nI, i32_lt, i32_le, i32_eq, inR_i, i32_clamp, i32_div, i32_max, i32_min, ite_max, ite_min, b2i_0, b2i_1, b2i_01, i32_toInt, tn_i, Int.toNat_natCast, em_t, true_and, and_true, Int.reduceToNat, Int.reduceLE, Int.reduceLT, Int.reduceAdd, Int.reduceMul, Int.reduceSub, Int.reduceNeg, Int.reduceEq, true_implies, not_true_eq_false, false_implies, not_false_eq_true, kC, rC0, rC1, rC2, rC3, rC4, kQ, rQ0, rQ1, kV, lV, kG, lG, kP, lP, kT, lT, LB1, LB2, LB3, LH1, LH2, LH3, LL1, LL2, LL3, dDy, dEv, true_and, and_true, Option.some.injEq, exists_eq_left', nmOf_0, nmOf_1, nmOf_2, nmOf_3, nmOf_4, nmOf_5, nmOf_6, Nat.add_sub_cancel, Nat.reduceSub, Nat.reduceLT, Nat.reduceEqDiff, ne_eq, not_false_eq_true]
    exact ⟨fun _ => hz, fun z => by omega⟩
  | succ k ih =>
    intro n hn h f hI
    have hD := hI.cd
    have hi := itsN_b hW b p r0 n
    have hf := free_b (b : Int) (r0 + n) p S.nl hW
    have hA0 := hD.1
    have hB0 := hD.2
    obtain ⟨⟨kC, rC0, rC1, rC2, rC3, rC4⟩, ⟨kQ, rQ0, rQ1⟩, ⟨kV, lV⟩, ⟨kG, lG⟩, ⟨kP, lP⟩, ⟨kT, lT⟩, ⟨⟨LB1, LB2, LB3, LB4, LB5, LB6, LB7⟩, ⟨LH1, LH2, LH3, LH4, LH5, LH6, LH7⟩, ⟨LL1, LL2, LL3, LL4, LL5, LL6, LL7⟩⟩, hKB, hHA, hKL, hCJ⟩ := hA0
    obtain ⟨dDy, dEv, dG, dP, dV, dB, dL, dH⟩ := hB0
    have hnb := hW.1
    have hnl := hW.2.1
    refine wpW (cs := [(161, ce_X4_allottedHour G D S), (316, ce_X4_freeIn G D S), (320, ce_min)]) (stop := [8, 23]) (n := 200) (env_cons (ceV (by decide +kernel) ⟨by decide, by decide, by decide +kernel⟩ (by decide) rfl (ok_X4_allottedHour G G D S hW)) (env_cons (ceV (by decide +kernel) ⟨by decide, by decide, by decide +kernel⟩ (by decide) rfl (ok_X4_freeIn G G D S hW)) (env_cons (ce_minOK (by decide +kernel)) (env_nil0 (env_hh rfl))))) ?_
    simp only [↓wpN_S, ↓step_u, ↓stC_s, stC_s, ↓stF_u, stF_u, ↓stepI, lenI, ↓kN_u, isS, ↓gI_0, ↓gI_S, ↓gL_0, ↓gL_S, ↓gD_0, ↓gD_S, ↓gR_0, ↓gR_S, ↓sI_c, ↓sL_c, ↓sD_c, ↓sR_c, ↓s1_r, ↓s1_i, ↓vR_r, ↓vR_n, ↓s0_n, s0_n, ↓oR_u, ↓sP_u, ↓sPa_0, ↓sPa_S, ↓lkC_c, ↓callK_u, ↓cQ_s, ↓cQ_n, putL, putW, clr, kil, catS, catN, refF, booF, finF, nF, nmOf_0, nmOf_1, nmOf_2, nmOf_3, nmOf_4, nmOf_5, nmOf_6, nmOf_50, nmOf_51, nmOf_52, ↓reduceIte, reduceIte, Bool.false_eq_true, eq_self, true_or, or_true, true_and, and_true, false_or, or_false, Nat.reduceAdd, Nat.reduceSub, Nat.reduceEqDiff, Nat.reduceLT, Nat.reduceLeDiff, reduceCtorEq, true_implies, List.length_cons, List.length_nil, List.replicate, List.cons_append, List.nil_append, mrt_X4_fewestFree, mhh_X4_fewestFree, mow_X4_fewestFree, mnl_X4_fewestFree, DX4_fewestFree_0, DX4_fewestFree_3, DX4_fewestFree_5, DX4_fewestFree_6, DX4_fewestFree_8, DX4_fewestFree_10, DX4_fewestFree_11, DX4_fewestFree_14, DX4_fewestFree_16, DX4_fewestFree_17, DX4_fewestFree_18, DX4_fewestFree_20, DX4_fewestFree_23, DX4_fewestFree_24, DX4_fewestFree_26, DX4_fewestFree_29, DX4_fewestFree_32, DX4_fewestFree_34, DX4_fewestFree_37, DX4_fewestFree_40, DX4_fewestFree_42, ce_X4_allottedHour, ↓ct_X4_allottedHour, ycl_X4_allottedHour, ce_X4_freeIn, ↓ct_X4_freeIn, ycl_X4_freeIn, ce_min, cX_nil mhh_X4_fewestFree]
    simp (disch := omega) only [i32_lit, i32_neg, i32_add, i32_mul, i32_sub, i32_nI, i32_lt, i32_le, i32_eq, inR_i, i32_clamp, i32_div, i32_max, i32_min, ite_max, ite_min, b2i_0, b2i_1, b2i_01, i32_toInt, tn_i, Int.toNat_natCast, em_t, true_and, and_true, Int.reduceToNat, Int.reduceLE, Int.reduceLT, Int.reduceAdd, Int.reduceMul, Int.reduceSub, Int.reduceNeg, Int.reduceEq, true_implies, not_true_eq_false, false_implies, not_false_eq_true, kC, rC0, rC1, rC2, rC3, rC4, kQ, rQ0, rQ1, kV, lV, kG, lG, kP, lP, kT, lT, LB1, LB2, LB3, LH1, LH2, LH3, LL1, LL2, LL3, dDy, dEv, true_and, and_true, Option.some.injEq, exists_eq_left', nmOf_0, nmOf_1, nmOf_2, nmOf_3, nmOf_4, nmOf_5, nmOf_6, Nat.add_sub_cancel, Nat.reduceSub, Nat.reduceLT, Nat.reduceEqDiff, ne_eq, not_false_eq_true, hI]
    refine ⟨fun z => by omega, fun _ => ⟨by omega, fun h' f' hI' hM' hL' => ?_⟩⟩
    rw [show ((r0 : Int) + n).toNat = r0 + n by omega] at hM' hL' ⊢
    have hs := ih (n + 1) (by omega) h' (f.tr f') hI'
    unfold itsN at hs
    rw [show (r0 : Int) + ((n + 1 : Nat) : Int) = r0 + n + 1 by omega] at hs
    obtain ⟨r1, hr1⟩ : ∃ r1, r1 = r0 + n := ⟨_, rfl⟩
    have hr2 : r1 < 12 := by omega
    rw [← hr1] at hM' hL' hs hf ⊢
    have hD := hI'.cd
    have hD1 := hD
    have hA0 := hD.1
    have hB0 := hD.2
    obtain ⟨⟨kC, rC0, rC1, rC2, rC3, rC4⟩, ⟨kQ, rQ0, rQ1⟩, ⟨kV, lV⟩, ⟨kG, lG⟩, ⟨kP, lP⟩, ⟨kT, lT⟩, ⟨⟨LB1, LB2, LB3, LB4, LB5, LB6, LB7⟩, ⟨LH1, LH2, LH3, LH4, LH5, LH6, LH7⟩, ⟨LL1, LL2, LL3, LL4, LL5, LL6, LL7⟩⟩, hKB, hHA, hKL, hCJ⟩ := hA0
    obtain ⟨dDy, dEv, dG, dP, dV, dB, dL, dH⟩ := hB0
    have hnb := hW.1
    have hnl := hW.2.1
    obtain ⟨kH, ⟨rH5, rH6, rH7, rH8, rH12⟩, ⟨kH4, lH4⟩, ⟨kH5, lH5⟩, ⟨kH6, lH6⟩, ⟨kH7, lH7⟩⟩ := hHA r1 hr2
    obtain ⟨eH0, eH1, eH2, eH3⟩ := dH r1 hr2
    have qH := LH7 r1 hr2
    obtain ⟨kqH, lqH⟩ := LH6 (by omega)
    obtain ⟨vH0, vH0', vH1, vH1', -, vH2, vH2'⟩ := hW.2.2.2.2.1 r1 hr2
    refine wpW (cs := [(161, ce_X4_allottedHour G D S), (316, ce_X4_freeIn G D S), (320, ce_min)]) (stop := [8]) (n := 200) (env_cons (ceV (by decide +kernel) ⟨by decide, by decide, by decide +kernel⟩ (by decide) rfl (ok_X4_allottedHour G G D S hW)) (env_cons (ceV (by decide +kernel) ⟨by decide, by decide, by decide +kernel⟩ (by decide) rfl (ok_X4_freeIn G G D S hW)) (env_cons (ce_minOK (by decide +kernel)) (env_nil0 (env_hh rfl))))) ?_
    simp only [↓wpN_S, ↓step_u, ↓stC_s, stC_s, ↓stF_u, stF_u, ↓stepI, lenI, ↓kN_u, isS, ↓gI_0, ↓gI_S, ↓gL_0, ↓gL_S, ↓gD_0, ↓gD_S, ↓gR_0, ↓gR_S, ↓sI_c, ↓sL_c, ↓sD_c, ↓sR_c, ↓s1_r, ↓s1_i, ↓vR_r, ↓vR_n, ↓s0_n, s0_n, ↓oR_u, ↓sP_u, ↓sPa_0, ↓sPa_S, ↓lkC_c, ↓callK_u, ↓cQ_s, ↓cQ_n, putL, putW, clr, kil, catS, catN, refF, booF, finF, nF, nmOf_0, nmOf_1, nmOf_2, nmOf_3, nmOf_4, nmOf_5, nmOf_6, nmOf_50, nmOf_51, nmOf_52, ↓reduceIte, reduceIte, Bool.false_eq_true, eq_self, true_or, or_true, true_and, and_true, false_or, or_false, Nat.reduceAdd, Nat.reduceSub, Nat.reduceEqDiff, Nat.reduceLT, Nat.reduceLeDiff, reduceCtorEq, true_implies, List.length_cons, List.length_nil, List.replicate, List.cons_append, List.nil_append, mrt_X4_fewestFree, mhh_X4_fewestFree, mow_X4_fewestFree, mnl_X4_fewestFree, DX4_fewestFree_0, DX4_fewestFree_3, DX4_fewestFree_5, DX4_fewestFree_6, DX4_fewestFree_8, DX4_fewestFree_10, DX4_fewestFree_11, DX4_fewestFree_14, DX4_fewestFree_16, DX4_fewestFree_17, DX4_fewestFree_18, DX4_fewestFree_20, DX4_fewestFree_23, DX4_fewestFree_24, DX4_fewestFree_26, DX4_fewestFree_29, DX4_fewestFree_32, DX4_fewestFree_34, DX4_fewestFree_37, DX4_fewestFree_40, DX4_fewestFree_42, ce_X4_allottedHour, ↓ct_X4_allottedHour, ycl_X4_allottedHour, ce_X4_freeIn, ↓ct_X4_freeIn, ycl_X4_freeIn, ce_min, cX_nil mhh_X4_fewestFree]
    simp (disch := omega) only [i32_lit, i32_neg, i32_add, i32_mul, i32_sub, i32_nI, i32_lt, i32_le, i32_eq, inR_i, i32_clamp, i32_div, i32_max, i32_min, ite_max, ite_min, b2i_0, b2i_1, b2i_01, i32_toInt, tn_i, Int.toNat_natCast, em_t, true_and, and_true, Int.reduceToNat, Int.reduceLE, Int.reduceLT, Int.reduceAdd, Int.reduceMul, Int.reduceSub, Int.reduceNeg, Int.reduceEq, true_implies, not_true_eq_false, false_implies, not_false_eq_true, kC, rC0, rC1, rC2, rC3, rC4, kQ, rQ0, rQ1, kV, lV, kG, lG, kP, lP, kT, lT, LB1, LB2, LB3, LH1, LH2, LH3, LL1, LL2, LL3, dDy, dEv, true_and, and_true, Option.some.injEq, exists_eq_left', nmOf_0, nmOf_1, nmOf_2, nmOf_3, nmOf_4, nmOf_5, nmOf_6, Nat.add_sub_cancel, Nat.reduceSub, Nat.reduceLT, Nat.reduceEqDiff, ne_eq, not_false_eq_true, kH, rH5, rH6, rH7, rH8, rH12, kH4, lH4, kH5, lH5, kH6, lH6, kH7, lH7, eH0, eH1, eH2, eH3, qH, kqH, lqH, hD1]
    refine ⟨by omega, hp, r1, hr2, rfl, hM', hL', ?_⟩
    rw [i32_min (by omega) (by omega)]
    exact hs
set_option maxRecDepth 100000 in
set_option maxHeartbeats 4000000 in
theorem ok_X4_fewestFree (G : GT) (G : GT) (D : WD) (S : SS) (hW : WF S) : OKm G yX4_fewestFree MX4_fewestFree 10 0 0 (ct_X4_fewestFree G D S) := by
  refine mkOK (ini := false) (by decide) rfl (by first | exact fun _ => rfl | (intro hh; cases hh)) (fun As h Q QX hc => ?_)
  replace hc := sR_e hc; obtain ⟨c, r, rfl, hc⟩ := hc
  replace hc := sI_e hc; obtain ⟨b, r, rfl, hc⟩ := hc
  replace hc := sI_e hc; obtain ⟨f, r, rfl, hc⟩ := hc
  replace hc := sI_e hc; obtain ⟨l, r, rfl, hc⟩ := hc
  replace hc := sI_e hc; obtain ⟨p, r, rfl, hc⟩ := hc
  replace hc := s0_e hc; obtain ⟨rfl, hc⟩ := hc
  obtain ⟨hI, rfl, hb, hf, hp, hq⟩ := hc
  obtain ⟨bV, hbV, rfl⟩ := i32_all b
  obtain ⟨fV, hfV, rfl⟩ := i32_all f
  obtain ⟨nV, hnV, rfl⟩ := i32_all l
  obtain ⟨pV, hpV, rfl⟩ := i32_all p
  simp only [i32_toInt hbV, tn_i hbV, i32_toInt hfV, tn_i hfV, i32_toInt hnV, i32_toInt hpV] at hb hf hp hq
  have hb2 := hb.2
  have hf2 := hf.2
  obtain ⟨b, rfl⟩ := Int.eq_ofNat_of_zero_le hb.1
  obtain ⟨r0, rfl⟩ := Int.eq_ofNat_of_zero_le hf.1
  obtain ⟨n0, hn0⟩ := Int.eq_ofNat_of_zero_le (show 0 ≤ nV - r0 + 1 by omega)
  rw [hn0] at hq
  simp only [Int.toNat_natCast] at hq
  have hz := lp_X4_fewestFree (Q := Q) (QX := QX) G hW (show b < S.nb by omega) hp (show r0 + n0 ≤ 12 by omega) hq n0 0 (Nat.zero_add _) h Fr.rf hI
  rw [show (r0 : Int) + n0 - 1 = nV by omega, show (r0 : Int) + ((0 : Nat) : Int) = r0 by omega] at hz
  refine ⟨Nat.le_of_ble_eq_true rfl, ?_⟩
  simp only [ent, entL, catN, List.length_cons, List.length_nil, List.replicate, List.cons_append, List.nil_append, reduceIte, Nat.reduceEqDiff,  Nat.reduceAdd, Nat.reduceSub, mnl_X4_fewestFree]
  refine wpW (cs := [(161, ce_X4_allottedHour G D S), (316, ce_X4_freeIn G D S), (320, ce_min)]) (stop := [8]) (n := 200) (env_cons (ceV (by decide +kernel) ⟨by decide, by decide, by decide +kernel⟩ (by decide) rfl (ok_X4_allottedHour G G D S hW)) (env_cons (ceV (by decide +kernel) ⟨by decide, by decide, by decide +kernel⟩ (by decide) rfl (ok_X4_freeIn G G D S hW)) (env_cons (ce_minOK (by decide +kernel)) (env_nil0 (env_hh rfl))))) ?_
  simp only [↓wpN_S, ↓step_u, ↓stC_s, stC_s, ↓stF_u, stF_u, ↓stepI, lenI, ↓kN_u, isS, ↓gI_0, ↓gI_S, ↓gL_0, ↓gL_S, ↓gD_0, ↓gD_S, ↓gR_0, ↓gR_S, ↓sI_c, ↓sL_c, ↓sD_c, ↓sR_c, ↓s1_r, ↓s1_i, ↓vR_r, ↓vR_n, ↓s0_n, s0_n, ↓oR_u, ↓sP_u, ↓sPa_0, ↓sPa_S, ↓lkC_c, ↓callK_u, ↓cQ_s, ↓cQ_n, putL, putW, clr, kil, catS, catN, refF, booF, finF, nF, nmOf_0, nmOf_1, nmOf_2, nmOf_3, nmOf_4, nmOf_5, nmOf_6, nmOf_50, nmOf_51, nmOf_52, ↓reduceIte, reduceIte, Bool.false_eq_true, eq_self, true_or, or_true, true_and, and_true, false_or, or_false, Nat.reduceAdd, Nat.reduceSub, Nat.reduceEqDiff, Nat.reduceLT, Nat.reduceLeDiff, reduceCtorEq, true_implies, List.length_cons, List.length_nil, List.replicate, List.cons_append, List.nil_append, mrt_X4_fewestFree, mhh_X4_fewestFree, mow_X4_fewestFree, mnl_X4_fewestFree, DX4_fewestFree_0, DX4_fewestFree_3, DX4_fewestFree_5, DX4_fewestFree_6, DX4_fewestFree_8, DX4_fewestFree_10, DX4_fewestFree_11, DX4_fewestFree_14, DX4_fewestFree_16, DX4_fewestFree_17, DX4_fewestFree_18, DX4_fewestFree_20, DX4_fewestFree_23, DX4_fewestFree_24, DX4_fewestFree_26, DX4_fewestFree_29, DX4_fewestFree_32, DX4_fewestFree_34, DX4_fewestFree_37, DX4_fewestFree_40, DX4_fewestFree_42, ce_X4_allottedHour, ↓ct_X4_allottedHour, ycl_X4_allottedHour, ce_X4_freeIn, ↓ct_X4_freeIn, ycl_X4_freeIn, ce_min, cX_nil mhh_X4_fewestFree]
  exact hz
def ct_X4_advise_t (G : GT) (D : WD) (S : SS) : Ct := fun As h Q QX => sR As fun c r => sI r fun f r => sI r fun l r => sI r fun p r => sI r fun w r => s0 r (CI G h D S ∧ c = D 0 0 ∧ (advC f.toInt l.toInt p.toInt ∧ (0 ≤ w.toInt ∧ w.toInt ≤ 1) → nxr G h D S Q (.int (i32 (advV S f.toInt l.toInt p.toInt w.toInt)))) ∧ (¬ advC f.toInt l.toInt p.toInt → QX IAE h) ∧ (advC f.toInt l.toInt p.toInt ∧ ¬ (0 ≤ w.toInt ∧ w.toInt ≤ 1) → QX IOB h))
def ce_X4_advise_t (G : GT) (D : WD) (S : SS) : CE := (0, yX4_advise, MX4_advise, 4, 11, 8, 48, ct_X4_advise_t G D S)
set_option maxRecDepth 100000 in
set_option maxHeartbeats 4000000 in
theorem lp_X4_advise (G : GT) {D : WD} {S : SS} (hW : WF S) {h0 : Hp} {r0 n0 : Nat} {p w : Int} {Q : Option Value → Hp → Prop} {QX : String → Hp → Prop} (hp : 1 ≤ p ∧ p ≤ 99) (hw : w = 0 ∨ w = 1) (hn0 : 1 ≤ n0) (hr : r0 + n0 ≤ 12) (hq : nxr G h0 D S Q (.int (i32 (if w = 0 then (advN S p r0 n0 S.nb).1 else (advN S p r0 n0 S.nb).2)))) :
    ∀ k n : Nat, n + k = S.nb → ∀ h, Fr h0 h (WK D) → CI G h D S → ∀ o8, Wp G MX4_advise false 11 Q QX 35 [some (.ref (D 0 0)), some (.int (i32 r0)), some (.int (i32 (r0 + n0 - 1))), some (.int (i32 p)), some (.int (i32 w)), some (.int (i32 (advN S p r0 n0 n).1)), some (.int (i32 (advN S p r0 n0 n).2)), some (.int (i32 n)), o8] [] h (0, 0) := by
  intro k
  induction k with
  | zero =>
    intro n hn h f hI o8
    have e : n = S.nb := by omega
    subst e
    have hz := hq h f hI
    have hD := hI.cd
    have hA0 := hD.1
    have hB0 := hD.2
    obtain ⟨⟨kC, rC0, rC1, rC2, rC3, rC4⟩, ⟨kQ, rQ0, rQ1⟩, ⟨kV, lV⟩, ⟨kG, lG⟩, ⟨kP, lP⟩, ⟨kT, lT⟩, ⟨⟨LB1, LB2, LB3, LB4, LB5, LB6, LB7⟩, ⟨LH1, LH2, LH3, LH4, LH5, LH6, LH7⟩, ⟨LL1, LL2, LL3, LL4, LL5, LL6, LL7⟩⟩, hKB, hHA, hKL, hCJ⟩ := hA0
    obtain ⟨dDy, dEv, dG, dP, dV, dB, dL, dH⟩ := hB0
    have hnb := hW.1
    have hnl := hW.2.1
    refine wpW (cs := [(42, ce_X4_needArgument_t), (130, ce_X4_needIndex_t), (49, ce_Jx4a65c_size_8abf5), (84, ce_Jx4a65c_get_915e3), (251, ce_X4_fewestFree G D S)]) (stop := [35]) (n := 200) (env_cons (ceS (by decide +kernel) ⟨by decide, by decide, by decide +kernel⟩ (by decide) (ok_X4_needArgument_t G)) (env_cons (ceS (by decide +kernel) ⟨by decide, by decide, by decide +kernel⟩ (by decide) (ok_X4_needIndex_t G)) (env_cons (ceV (by decide +kernel) ⟨by decide, by decide, by decide +kernel⟩ (by decide) rfl (ok_Jx4a65c_size_8abf5 G)) (env_cons (ceV (by decide +kernel) ⟨by decide, by decide, by decide +kernel⟩ (by decide) rfl (ok_Jx4a65c_get_915e3 G)) (env_cons (ceV (by decide +kernel) ⟨by decide, by decide, by decide +kernel⟩ (by decide) rfl (ok_X4_fewestFree G G D S hW)) (env_nil0 (env_hh rfl))))))) ?_
    simp only [↓wpN_S, ↓step_u, ↓stC_s, stC_s, ↓stF_u, stF_u, ↓stepI, lenI, ↓kN_u, isS, ↓gI_0, ↓gI_S, ↓gL_0, ↓gL_S, ↓gD_0, ↓gD_S, ↓gR_0, ↓gR_S, ↓sI_c, ↓sL_c, ↓sD_c, ↓sR_c, ↓s1_r, ↓s1_i, ↓vR_r, ↓vR_n, ↓s0_n, s0_n, ↓oR_u, ↓sP_u, ↓sPa_0, ↓sPa_S, ↓lkC_c, ↓callK_u, ↓cQ_s, ↓cQ_n, putL, putW, clr, kil, catS, catN, refF, booF, finF, nF, nmOf_0, nmOf_1, nmOf_2, nmOf_3, nmOf_4, nmOf_5, nmOf_6, nmOf_50, nmOf_51, nmOf_52, ↓reduceIte, reduceIte, Bool.false_eq_true, eq_self, true_or, or_true, true_and, and_true, false_or, or_false, Nat.reduceAdd, Nat.reduceSub, Nat.reduceEqDiff, Nat.reduceLT, Nat.reduceLeDiff, reduceCtorEq, true_implies, List.length_cons, List.length_nil, List.replicate, List.cons_append, List.nil_append, mrt_X4_advise, mhh_X4_advise, mow_X4_advise, mnl_X4_advise, DX4_advise_0, DX4_advise_1, DX4_advise_2, DX4_advise_4, DX4_advise_7, DX4_advise_8, DX4_advise_9, DX4_advise_10, DX4_advise_13, DX4_advise_14, DX4_advise_15, DX4_advise_17, DX4_advise_20, DX4_advise_22, DX4_advise_23, DX4_advise_26, DX4_advise_27, DX4_advise_29, DX4_advise_30, DX4_advise_32, DX4_advise_33, DX4_advise_35, DX4_advise_37, DX4_advise_38, DX4_advise_41, DX4_advise_44, DX4_advise_47, DX4_advise_50, DX4_advise_51, DX4_advise_54, DX4_advise_57, DX4_advise_59, DX4_advise_62, DX4_advise_65, DX4_advise_68, DX4_advise_71, DX4_advise_72, DX4_advise_74, DX4_advise_75, DX4_advise_76, DX4_advise_77, DX4_advise_80, DX4_advise_82, DX4_advise_84, DX4_advise_86, DX4_advise_89, DX4_advise_91, DX4_advise_93, DX4_advise_95, DX4_advise_97, DX4_advise_100, DX4_advise_103, DX4_advise_105, DX4_advise_108, DX4_advise_110, DX4_advise_113, DX4_advise_115, nxr, ce_X4_needArgument_t, ↓ct_X4_needArgument_t, ycl_X4_needArgument, ce_X4_needIndex_t, ↓ct_X4_needIndex_t, ycl_X4_needIndex, ce_Jx4a65c_size_8abf5, ↓ct_Jx4a65c_size_8abf5, ycl_Jx4a65c_size_8abf5, ce_Jx4a65c_get_915e3, ↓ct_Jx4a65c_get_915e3, ycl_Jx4a65c_get_915e3, ce_X4_fewestFree, ↓ct_X4_fewestFree, ycl_X4_fewestFree, cX_nil mhh_X4_advise]
    simp (disch := omega) only [i32_lit, i32_neg, i32_add, i32_mul, i32_sub, i32_nI, i32_lt, i32_le, i32_eq, inR_i, i32_clamp, i32_div, i32_max, i32_min, ite_max, ite_min, b2i_0, b2i_1, b2i_01, i32_toInt, tn_i, Int.toNat_natCast, em_t, true_and, and_true, Int.reduceToNat, Int.reduceLE, Int.reduceLT, Int.reduceAdd, Int.reduceMul, Int.reduceSub, Int.reduceNeg, Int.reduceEq, true_implies, not_true_eq_false, false_implies, not_false_eq_true, kC, rC0, rC1, rC2, rC3, rC4, kQ, rQ0, rQ1, kV, lV, kG, lG, kP, lP, kT, lT, LB1, LB2, LB3, LH1, LH2, LH3, LL1, LL2, LL3, dDy, dEv, true_and, and_true, Option.some.injEq, exists_eq_left', nmOf_0, nmOf_1, nmOf_2, nmOf_3, nmOf_4, nmOf_5, nmOf_6, Nat.add_sub_cancel, Nat.reduceSub, Nat.reduceLT, Nat.reduceEqDiff, ne_eq, not_false_eq_true]
    refine ⟨fun _ => ⟨fun z => ?_, fun z => ?_⟩, fun z => by omega⟩
    · rw [if_neg z] at hz; exact hz
    · rw [if_pos z] at hz; exact hz
  | succ k ih =>
    intro n hn h f hI o8
    have hD := hI.cd
    have hn' : n < S.nb := by omega
    have hi := itsN_b hW n p r0 n0
    have ha := advN_b hW p r0 n0 n
    have hA0 := hD.1
    have hB0 := hD.2
    obtain ⟨⟨kC, rC0, rC1, rC2, rC3, rC4⟩, ⟨kQ, rQ0, rQ1⟩, ⟨kV, lV⟩, ⟨kG, lG⟩, ⟨kP, lP⟩, ⟨kT, lT⟩, ⟨⟨LB1, LB2, LB3, LB4, LB5, LB6, LB7⟩, ⟨LH1, LH2, LH3, LH4, LH5, LH6, LH7⟩, ⟨LL1, LL2, LL3, LL4, LL5, LL6, LL7⟩⟩, hKB, hHA, hKL, hCJ⟩ := hA0
    obtain ⟨dDy, dEv, dG, dP, dV, dB, dL, dH⟩ := hB0
    have hnb := hW.1
    have hnl := hW.2.1
    have kB := hKB n hn'
    obtain ⟨eB0, eB1, eB2, eB3, eB4, eB5, eB6, eB7⟩ := dB n hn'
    have qB := LB7 n hn'
    obtain ⟨kqB, lqB⟩ := LB6 (by omega)
    obtain ⟨vB0, vB2, vB2', vB02, vB1, vB3, vB3', vB13, vB4, vB4', vB5, vB5', vB6⟩ := hW.2.2.1 n hn'
    refine wpW (cs := [(42, ce_X4_needArgument_t), (130, ce_X4_needIndex_t), (49, ce_Jx4a65c_size_8abf5), (84, ce_Jx4a65c_get_915e3), (251, ce_X4_fewestFree G D S)]) (stop := [35]) (n := 200) (env_cons (ceS (by decide +kernel) ⟨by decide, by decide, by decide +kernel⟩ (by decide) (ok_X4_needArgument_t G)) (env_cons (ceS (by decide +kernel) ⟨by decide, by decide, by decide +kernel⟩ (by decide) (ok_X4_needIndex_t G)) (env_cons (ceV (by decide +kernel) ⟨by decide, by decide, by decide +kernel⟩ (by decide) rfl (ok_Jx4a65c_size_8abf5 G)) (env_cons (ceV (by decide +kernel) ⟨by decide, by decide, by decide +kernel⟩ (by decide) rfl (ok_Jx4a65c_get_915e3 G)) (env_cons (ceV (by decide +kernel) ⟨by decide, by decide, by decide +kernel⟩ (by decide) rfl (ok_X4_fewestFree G G D S hW)) (env_nil0 (env_hh rfl))))))) ?_
    simp only [↓wpN_S, ↓step_u, ↓stC_s, stC_s, ↓stF_u, stF_u, ↓stepI, lenI, ↓kN_u, isS, ↓gI_0, ↓gI_S, ↓gL_0, ↓gL_S, ↓gD_0, ↓gD_S, ↓gR_0, ↓gR_S, ↓sI_c, ↓sL_c, ↓sD_c, ↓sR_c, ↓s1_r, ↓s1_i, ↓vR_r, ↓vR_n, ↓s0_n, s0_n, ↓oR_u, ↓sP_u, ↓sPa_0, ↓sPa_S, ↓lkC_c, ↓callK_u, ↓cQ_s, ↓cQ_n, putL, putW, clr, kil, catS, catN, refF, booF, finF, nF, nmOf_0, nmOf_1, nmOf_2, nmOf_3, nmOf_4, nmOf_5, nmOf_6, nmOf_50, nmOf_51, nmOf_52, ↓reduceIte, reduceIte, Bool.false_eq_true, eq_self, true_or, or_true, true_and, and_true, false_or, or_false, Nat.reduceAdd, Nat.reduceSub, Nat.reduceEqDiff, Nat.reduceLT, Nat.reduceLeDiff, reduceCtorEq, true_implies, List.length_cons, List.length_nil, List.replicate, List.cons_append, List.nil_append, mrt_X4_advise, mhh_X4_advise, mow_X4_advise, mnl_X4_advise, DX4_advise_0, DX4_advise_1, DX4_advise_2, DX4_advise_4, DX4_advise_7, DX4_advise_8, DX4_advise_9, DX4_advise_10, DX4_advise_13, DX4_advise_14, DX4_advise_15, DX4_advise_17, DX4_advise_20, DX4_advise_22, DX4_advise_23, DX4_advise_26, DX4_advise_27, DX4_advise_29, DX4_advise_30, DX4_advise_32, DX4_advise_33, DX4_advise_35, DX4_advise_37, DX4_advise_38, DX4_advise_41, DX4_advise_44, DX4_advise_47, DX4_advise_50, DX4_advise_51, DX4_advise_54, DX4_advise_57, DX4_advise_59, DX4_advise_62, DX4_advise_65, DX4_advise_68, DX4_advise_71, DX4_advise_72, DX4_advise_74, DX4_advise_75, DX4_advise_76, DX4_advise_77, DX4_advise_80, DX4_advise_82, DX4_advise_84, DX4_advise_86, DX4_advise_89, DX4_advise_91, DX4_advise_93, DX4_advise_95, DX4_advise_97, DX4_advise_100, DX4_advise_103, DX4_advise_105, DX4_advise_108, DX4_advise_110, DX4_advise_113, DX4_advise_115, nxr, ce_X4_needArgument_t, ↓ct_X4_needArgument_t, ycl_X4_needArgument, ce_X4_needIndex_t, ↓ct_X4_needIndex_t, ycl_X4_needIndex, ce_Jx4a65c_size_8abf5, ↓ct_Jx4a65c_size_8abf5, ycl_Jx4a65c_size_8abf5, ce_Jx4a65c_get_915e3, ↓ct_Jx4a65c_get_915e3, ycl_Jx4a65c_get_915e3, ce_X4_fewestFree, ↓ct_X4_fewestFree, ycl_X4_fewestFree, cX_nil mhh_X4_advise]
    simp (disch := omega) only [i32_lit, i32_neg, i32_add, i32_mul, i32_sub, i32_nI, i32_lt, i32_le, i32_eq, inR_i, i32_clamp, i32_div, i32_max, i32_min, ite_max, ite_min, b2i_0, b2i_1, b2i_01, i32_toInt, tn_i, Int.toNat_natCast, em_t, true_and, and_true, Int.reduceToNat, Int.reduceLE, Int.reduceLT, Int.reduceAdd, Int.reduceMul, Int.reduceSub, Int.reduceNeg, Int.reduceEq, true_implies, not_true_eq_false, false_implies, not_false_eq_true, kC, rC0, rC1, rC2, rC3, rC4, kQ, rQ0, rQ1, kV, lV, kG, lG, kP, lP, kT, lT, LB1, LB2, LB3, LH1, LH2, LH3, LL1, LL2, LL3, dDy, dEv, true_and, and_true, Option.some.injEq, exists_eq_left', nmOf_0, nmOf_1, nmOf_2, nmOf_3, nmOf_4, nmOf_5, nmOf_6, Nat.add_sub_cancel, Nat.reduceSub, Nat.reduceLT, Nat.reduceEqDiff, ne_eq, not_false_eq_true, kB, eB0, eB1, eB2, eB3, eB4, eB5, eB6, eB7, qB, kqB, lqB, hI]
    rw [show (n : Int) + 1 = ((n + 1 : Nat) : Int) by omega, show ((r0 : Int) + n0 - 1 - r0 + 1).toNat = n0 by omega]
    have ea : advN S p r0 n0 (n + 1) = if S.bf n 6 = 1 ∧ (advN S p r0 n0 n).2 < itsN S n p r0 n0 then ((n : Int), itsN S n p r0 n0) else advN S p r0 n0 n := rfl
    refine ⟨fun z => by omega, fun _ => ⟨by omega, by omega, by omega, fun z => ?_, fun z => ⟨by omega, by omega, hp, fun h' f' hI' => ?_⟩⟩⟩
    · have hs := ih (n + 1) (by omega) h f hI o8
      rw [ea, if_neg (show ¬ (S.bf n 6 = 1 ∧ (advN S p r0 n0 n).2 < itsN S n p r0 n0) by omega)] at hs
      exact hs
    · rw [i32_le (by omega) (by omega)]
      refine ⟨fun y => ?_, fun y => ?_⟩
      · have hs := ih (n + 1) (by omega) h' (f.tr f') hI' (some (.int (i32 (itsN S n p r0 n0))))
        rw [ea, if_neg (show ¬ (S.bf n 6 = 1 ∧ (advN S p r0 n0 n).2 < itsN S n p r0 n0) by omega)] at hs
        exact hs
      · have hs := ih (n + 1) (by omega) h' (f.tr f') hI' (some (.int (i32 (itsN S n p r0 n0))))
        rw [ea, if_pos (show S.bf n 6 = 1 ∧ (advN S p r0 n0 n).2 < itsN S n p r0 n0 by omega)] at hs
        exact hs
set_option maxRecDepth 100000 in
set_option maxHeartbeats 4000000 in
theorem ok_X4_advise_t (G : GT) (G : GT) (D : WD) (S : SS) (hW : WF S) : OKm G yX4_advise MX4_advise 11 8 48 (ct_X4_advise_t G D S) := by
  refine mkOK (ini := false) (by decide) rfl (by first | exact fun _ => rfl | (intro hh; cases hh)) (fun As h Q QX hc => ?_)
  replace hc := sR_e hc; obtain ⟨c, r, rfl, hc⟩ := hc
  replace hc := sI_e hc; obtain ⟨f, r, rfl, hc⟩ := hc
  replace hc := sI_e hc; obtain ⟨l, r, rfl, hc⟩ := hc
  replace hc := sI_e hc; obtain ⟨p, r, rfl, hc⟩ := hc
  replace hc := sI_e hc; obtain ⟨w, r, rfl, hc⟩ := hc
  replace hc := s0_e hc; obtain ⟨rfl, hc⟩ := hc
  obtain ⟨hI, rfl, hq, hx1, hx2⟩ := hc
  obtain ⟨fV, hfV, rfl⟩ := i32_all f
  obtain ⟨nV, hnV, rfl⟩ := i32_all l
  obtain ⟨pV, hpV, rfl⟩ := i32_all p
  obtain ⟨wV, hwV, rfl⟩ := i32_all w
  simp only [i32_toInt hfV, i32_toInt hnV, i32_toInt hpV, i32_toInt hwV] at hq hx1 hx2
  unfold advC at hq hx1 hx2
  have hD := hI.cd
  have hA0 := hD.1
  have hB0 := hD.2
  obtain ⟨⟨kC, rC0, rC1, rC2, rC3, rC4⟩, ⟨kQ, rQ0, rQ1⟩, ⟨kV, lV⟩, ⟨kG, lG⟩, ⟨kP, lP⟩, ⟨kT, lT⟩, ⟨⟨LB1, LB2, LB3, LB4, LB5, LB6, LB7⟩, ⟨LH1, LH2, LH3, LH4, LH5, LH6, LH7⟩, ⟨LL1, LL2, LL3, LL4, LL5, LL6, LL7⟩⟩, hKB, hHA, hKL, hCJ⟩ := hA0
  obtain ⟨dDy, dEv, dG, dP, dV, dB, dL, dH⟩ := hB0
  have hnb := hW.1
  have hnl := hW.2.1
  refine ⟨Nat.le_of_ble_eq_true rfl, ?_⟩
  simp only [ent, entL, catN, List.length_cons, List.length_nil, List.replicate, List.cons_append, List.nil_append, reduceIte, Nat.reduceEqDiff,  Nat.reduceAdd, Nat.reduceSub, mnl_X4_advise]
  refine wpW (cs := [(42, ce_X4_needArgument_t), (130, ce_X4_needIndex_t), (49, ce_Jx4a65c_size_8abf5), (84, ce_Jx4a65c_get_915e3), (251, ce_X4_fewestFree G D S)]) (stop := [35]) (n := 200) (env_cons (ceS (by decide +kernel) ⟨by decide, by decide, by decide +kernel⟩ (by decide) (ok_X4_needArgument_t G)) (env_cons (ceS (by decide +kernel) ⟨by decide, by decide, by decide +kernel⟩ (by decide) (ok_X4_needIndex_t G)) (env_cons (ceV (by decide +kernel) ⟨by decide, by decide, by decide +kernel⟩ (by decide) rfl (ok_Jx4a65c_size_8abf5 G)) (env_cons (ceV (by decide +kernel) ⟨by decide, by decide, by decide +kernel⟩ (by decide) rfl (ok_Jx4a65c_get_915e3 G)) (env_cons (ceV (by decide +kernel) ⟨by decide, by decide, by decide +kernel⟩ (by decide) rfl (ok_X4_fewestFree G G D S hW)) (env_nil0 (env_hh rfl))))))) ?_
  simp only [↓wpN_S, ↓step_u, ↓stC_s, stC_s, ↓stF_u, stF_u, ↓stepI, lenI, ↓kN_u, isS, ↓gI_0, ↓gI_S, ↓gL_0, ↓gL_S, ↓gD_0, ↓gD_S, ↓gR_0, ↓gR_S, ↓sI_c, ↓sL_c, ↓sD_c, ↓sR_c, ↓s1_r, ↓s1_i, ↓vR_r, ↓vR_n, ↓s0_n, s0_n, ↓oR_u, ↓sP_u, ↓sPa_0, ↓sPa_S, ↓lkC_c, ↓callK_u, ↓cQ_s, ↓cQ_n, putL, putW, clr, kil, catS, catN, refF, booF, finF, nF, nmOf_0, nmOf_1, nmOf_2, nmOf_3, nmOf_4, nmOf_5, nmOf_6, nmOf_50, nmOf_51, nmOf_52, ↓reduceIte, reduceIte, Bool.false_eq_true, eq_self, true_or, or_true, true_and, and_true, false_or, or_false, Nat.reduceAdd, Nat.reduceSub, Nat.reduceEqDiff, Nat.reduceLT, Nat.reduceLeDiff, reduceCtorEq, true_implies, List.length_cons, List.length_nil, List.replicate, List.cons_append, List.nil_append, mrt_X4_advise, mhh_X4_advise, mow_X4_advise, mnl_X4_advise, DX4_advise_0, DX4_advise_1, DX4_advise_2, DX4_advise_4, DX4_advise_7, DX4_advise_8, DX4_advise_9, DX4_advise_10, DX4_advise_13, DX4_advise_14, DX4_advise_15, DX4_advise_17, DX4_advise_20, DX4_advise_22, DX4_advise_23, DX4_advise_26, DX4_advise_27, DX4_advise_29, DX4_advise_30, DX4_advise_32, DX4_advise_33, DX4_advise_35, DX4_advise_37, DX4_advise_38, DX4_advise_41, DX4_advise_44, DX4_advise_47, DX4_advise_50, DX4_advise_51, DX4_advise_54, DX4_advise_57, DX4_advise_59, DX4_advise_62, DX4_advise_65, DX4_advise_68, DX4_advise_71, DX4_advise_72, DX4_advise_74, DX4_advise_75, DX4_advise_76, DX4_advise_77, DX4_advise_80, DX4_advise_82, DX4_advise_84, DX4_advise_86, DX4_advise_89, DX4_advise_91, DX4_advise_93, DX4_advise_95, DX4_advise_97, DX4_advise_100, DX4_advise_103, DX4_advise_105, DX4_advise_108, DX4_advise_110, DX4_advise_113, DX4_advise_115, nxr, ce_X4_needArgument_t, ↓ct_X4_needArgument_t, ycl_X4_needArgument, ce_X4_needIndex_t, ↓ct_X4_needIndex_t, ycl_X4_needIndex, ce_Jx4a65c_size_8abf5, ↓ct_Jx4a65c_size_8abf5, ycl_Jx4a65c_size_8abf5, ce_Jx4a65c_get_915e3, ↓ct_Jx4a65c_get_915e3, ycl_Jx4a65c_get_915e3, ce_X4_fewestFree, ↓ct_X4_fewestFree, ycl_X4_fewestFree, cX_nil mhh_X4_advise]
  simp (disch := omega) only [i32_lit, i32_neg, i32_add, i32_mul, i32_sub, i32_nI, i32_lt, i32_le, i32_eq, inR_i, i32_clamp, i32_div, i32_max, i32_min, ite_max, ite_min, b2i_0, b2i_1, b2i_01, i32_toInt, tn_i, Int.toNat_natCast, em_t, true_and, and_true, Int.reduceToNat, Int.reduceLE, Int.reduceLT, Int.reduceAdd, Int.reduceMul, Int.reduceSub, Int.reduceNeg, Int.reduceEq, true_implies, not_true_eq_false, false_implies, not_false_eq_true, kC, rC0, rC1, rC2, rC3, rC4, kQ, rQ0, rQ1, kV, lV, kG, lG, kP, lP, kT, lT, LB1, LB2, LB3, LH1, LH2, LH3, LL1, LL2, LL3, dDy, dEv, true_and, and_true, Option.some.injEq, exists_eq_left', nmOf_0, nmOf_1, nmOf_2, nmOf_3, nmOf_4, nmOf_5, nmOf_6, Nat.add_sub_cancel, Nat.reduceSub, Nat.reduceLT, Nat.reduceEqDiff, ne_eq, not_false_eq_true]
  refine ⟨fun a1 => ⟨fun a2 => ⟨fun a3 => ⟨fun a4 => ?_, fun z => hx2 ⟨⟨by omega, by omega, by omega, by omega⟩, by omega⟩⟩, fun z => hx1 (fun y => z y.2.2.2)⟩, fun z => hx1 (fun y => z (by omega))⟩, fun z => hx1 (fun y => z y.2.1)⟩
  replace hq := hq ⟨⟨by omega, by omega, by omega, by omega⟩, by omega⟩
  obtain ⟨r0, rfl⟩ := Int.eq_ofNat_of_zero_le a2.1
  obtain ⟨n0, hn0⟩ := Int.eq_ofNat_of_zero_le (show 0 ≤ nV - r0 + 1 by omega)
  unfold advV at hq
  rw [hn0] at hq
  simp only [Int.toNat_natCast] at hq
  have hz := lp_X4_advise (w := wV) (Q := Q) (QX := QX) G hW (r0 := r0) (n0 := n0) a3 (by omega) (by omega) (by omega) hq S.nb 0 (Nat.zero_add _) h Fr.rf hI none
  rw [show (r0 : Int) + n0 - 1 = nV by omega] at hz
  exact Wp.z hz
