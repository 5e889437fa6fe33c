/-! ===== the class: isFree ===== -/
def ct_X3_isFree (G : GT) (D : WD) (S : SS) : Ct := fun As h Q _ => sR As fun q r => sR r fun a r => s0 r (CD G h D S ∧ q = D 0 1 ∧ ∃ x y w d, BP h a x y w d ∧ BPn x y w d ∧ ((∀ c, c < 256 → inP x y w d c → isCov S (xC c) (yC c) = false) → Q (some (.int (i32 1))) h) ∧ (¬ (∀ c, c < 256 → inP x y w d c → isCov S (xC c) (yC c) = false) → Q (some (.int (i32 0))) h))
def ce_X3_isFree (G : GT) (D : WD) (S : SS) : CE := (0, yX3_isFree, MX3_isFree, 1, 1, 0, 0, ct_X3_isFree G D S)
set_option maxRecDepth 100000 in
set_option maxHeartbeats 4000000 in
theorem lp_X3_isFree23 (G : GT) {D : WD} {S : SS} (hW : WF S) {h : Hp} {a : Nat} {x y w d cy : Int} {Q : Option Value → Hp → Prop} {QX : String → Hp → Prop} (hD : CD G h D S) (hB : BP h a x y w d) (hn : BPn x y w d) (hcy : y ≤ cy ∧ cy < y + d) (h0 : ¬ (∀ c, c < 256 → inP x y w d c → isCov S (xC c) (yC c) = false) → Q (some (.int (i32 0))) h)
    (hz : (∀ c, c < 256 → inQ x y w d (cy + 1) x c → isCov S (xC c) (yC c) = false) → ∀ o3, Wp G MX3_isFree false 1 Q QX 5 [some (.ref (D 0 1)), some (.ref a), some (.int (i32 (cy + 1))), o3] [] h (0, 0)) :
    ∀ m : Nat, ∀ cx : Int, cx + m = x + w → x ≤ cx → (∀ c, c < 256 → inQ x y w d cy cx c → isCov S (xC c) (yC c) = false) → Wp G MX3_isFree false 1 Q QX 23 [some (.ref (D 0 1)), some (.ref a), some (.int (i32 cy)), some (.int (i32 cx))] [] h (0, 0) := by
  obtain ⟨⟨x1, x2, x3, x4⟩, ⟨y1, y2, y3, y4⟩⟩ := hn
  obtain ⟨b0, b1, b2, b3, b4⟩ := hB
  intro m
  induction m with
  | zero =>
    intro cx hx hx2 hi
    have hz2 := hz (fun c hc hq => hi c hc (by omega))
    refine wpW (cs := [(37, ce_X3_isCovered G D S)]) (stop := [5, 23]) (n := 200) (env_cons (ceV (by decide +kernel) ⟨by decide, by decide, by decide +kernel⟩ (by decide) rfl (ok_X3_isCovered G G D S hW)) (env_nil0 (env_hh rfl))) ?_
    simp only [↓wpN_S, ↓step_u, ↓stC_s, stC_s, ↓stF_u, stF_u, ↓stepI, lenI, ↓kN_u, isS, ↓gI_0, ↓gI_S, ↓gL_0, ↓gL_S, ↓gD_0, ↓gD_S, ↓gR_0, ↓gR_S, ↓sI_c, ↓sL_c, ↓sD_c, ↓sR_c, ↓s1_r, ↓s1_i, ↓vR_r, ↓vR_n, ↓s0_n, s0_n, ↓oR_u, ↓sP_u, ↓sPa_0, ↓sPa_S, ↓lkC_c, ↓callK_u, ↓cQ_s, ↓cQ_n, putL, putW, clr, kil, catS, catN, refF, booF, finF, nF, nmOf_0, nmOf_1, nmOf_2, nmOf_3, nmOf_4, nmOf_5, nmOf_6, nmOf_50, nmOf_51, nmOf_52, ↓reduceIte, reduceIte, Bool.false_eq_true, eq_self, true_or, or_true, true_and, and_true, false_or, or_false, Nat.reduceAdd, Nat.reduceSub, Nat.reduceEqDiff, Nat.reduceLT, Nat.reduceLeDiff, reduceCtorEq, true_implies, List.length_cons, List.length_nil, List.replicate, List.cons_append, List.nil_append, mrt_X3_isFree, mhh_X3_isFree, mow_X3_isFree, mnl_X3_isFree, DX3_isFree_0, DX3_isFree_1, DX3_isFree_4, DX3_isFree_5, DX3_isFree_6, DX3_isFree_7, DX3_isFree_10, DX3_isFree_11, DX3_isFree_14, DX3_isFree_15, DX3_isFree_18, DX3_isFree_19, DX3_isFree_22, DX3_isFree_23, DX3_isFree_24, DX3_isFree_25, DX3_isFree_28, DX3_isFree_29, DX3_isFree_32, DX3_isFree_33, DX3_isFree_36, DX3_isFree_37, DX3_isFree_38, DX3_isFree_40, DX3_isFree_41, DX3_isFree_42, DX3_isFree_43, DX3_isFree_46, DX3_isFree_49, DX3_isFree_50, DX3_isFree_51, DX3_isFree_54, DX3_isFree_57, DX3_isFree_60, DX3_isFree_63, DX3_isFree_64, ce_X3_isCovered, ↓ct_X3_isCovered, ycl_X3_isCovered, cX_nil mhh_X3_isFree]
    simp (disch := omega) only [i32_lit, i32_neg, i32_add, i32_mul, i32_sub, i32_nI, i32_lt, i32_le, i32_eq, inR_i, i32_clamp, i32_div, i32_max, i32_min, ite_max, ite_min, b2i_0, b2i_1, b2i_01, i32_toInt, tn_i, Int.toNat_natCast, em_t, true_and, and_true, Int.reduceToNat, Int.reduceLE, Int.reduceLT, Int.reduceAdd, Int.reduceMul, Int.reduceSub, Int.reduceNeg, Int.reduceEq, true_implies, not_true_eq_false, false_implies, not_false_eq_true, b0, b1, b3]
    exact ⟨fun _ => hz2 _, fun z => by omega⟩
  | succ m ih =>
    intro cx hx hx2 hi
    obtain ⟨c0, hc0⟩ := Int.eq_ofNat_of_zero_le (show 0 ≤ cx + 16 * cy by omega)
    obtain ⟨g1, g2, g3⟩ := cell_xy (u := cx) (v := cy) ⟨by omega, by omega⟩ ⟨by omega, by omega⟩ hc0
    have hD0 := hD
    have hA0 := hD.1
    have hB0 := hD.2
    obtain ⟨⟨kC, rC0, rC1, rC2, rC3, rC4⟩, ⟨kQ, rQ0, rQ1⟩, ⟨kV, lV⟩, ⟨kG, lG⟩, ⟨kP, lP⟩, ⟨kT, lT⟩, ⟨⟨LB1, LB2, LB3, LB4, LB5, LB6, LB7⟩, ⟨LH1, LH2, LH3, LH4, LH5, LH6, LH7⟩, ⟨LL1, LL2, LL3, LL4, LL5, LL6, LL7⟩⟩, hKB, hHA, hKL, hCJ⟩ := hA0
    obtain ⟨dDy, dEv, dG, dP, dV, dB, dL, dH⟩ := hB0
    have hnb := hW.1
    have hnl := hW.2.1
    refine wpW (cs := [(37, ce_X3_isCovered G D S)]) (stop := [5, 23]) (n := 200) (env_cons (ceV (by decide +kernel) ⟨by decide, by decide, by decide +kernel⟩ (by decide) rfl (ok_X3_isCovered G G D S hW)) (env_nil0 (env_hh rfl))) ?_
    simp only [↓wpN_S, ↓step_u, ↓stC_s, stC_s, ↓stF_u, stF_u, ↓stepI, lenI, ↓kN_u, isS, ↓gI_0, ↓gI_S, ↓gL_0, ↓gL_S, ↓gD_0, ↓gD_S, ↓gR_0, ↓gR_S, ↓sI_c, ↓sL_c, ↓sD_c, ↓sR_c, ↓s1_r, ↓s1_i, ↓vR_r, ↓vR_n, ↓s0_n, s0_n, ↓oR_u, ↓sP_u, ↓sPa_0, ↓sPa_S, ↓lkC_c, ↓callK_u, ↓cQ_s, ↓cQ_n, putL, putW, clr, kil, catS, catN, refF, booF, finF, nF, nmOf_0, nmOf_1, nmOf_2, nmOf_3, nmOf_4, nmOf_5, nmOf_6, nmOf_50, nmOf_51, nmOf_52, ↓reduceIte, reduceIte, Bool.false_eq_true, eq_self, true_or, or_true, true_and, and_true, false_or, or_false, Nat.reduceAdd, Nat.reduceSub, Nat.reduceEqDiff, Nat.reduceLT, Nat.reduceLeDiff, reduceCtorEq, true_implies, List.length_cons, List.length_nil, List.replicate, List.cons_append, List.nil_append, mrt_X3_isFree, mhh_X3_isFree, mow_X3_isFree, mnl_X3_isFree, DX3_isFree_0, DX3_isFree_1, DX3_isFree_4, DX3_isFree_5, DX3_isFree_6, DX3_isFree_7, DX3_isFree_10, DX3_isFree_11, DX3_isFree_14, DX3_isFree_15, DX3_isFree_18, DX3_isFree_19, DX3_isFree_22, DX3_isFree_23, DX3_isFree_24, DX3_isFree_25, DX3_isFree_28, DX3_isFree_29, DX3_isFree_32, DX3_isFree_33, DX3_isFree_36, DX3_isFree_37, DX3_isFree_38, DX3_isFree_40, DX3_isFree_41, DX3_isFree_42, DX3_isFree_43, DX3_isFree_46, DX3_isFree_49, DX3_isFree_50, DX3_isFree_51, DX3_isFree_54, DX3_isFree_57, DX3_isFree_60, DX3_isFree_63, DX3_isFree_64, ce_X3_isCovered, ↓ct_X3_isCovered, ycl_X3_isCovered, cX_nil mhh_X3_isFree]
    simp (disch := omega) only [i32_lit, i32_neg, i32_add, i32_mul, i32_sub, i32_nI, i32_lt, i32_le, i32_eq, inR_i, i32_clamp, i32_div, i32_max, i32_min, ite_max, ite_min, b2i_0, b2i_1, b2i_01, i32_toInt, tn_i, Int.toNat_natCast, em_t, true_and, and_true, Int.reduceToNat, Int.reduceLE, Int.reduceLT, Int.reduceAdd, Int.reduceMul, Int.reduceSub, Int.reduceNeg, Int.reduceEq, true_implies, not_true_eq_false, false_implies, not_false_eq_true, kC, rC0, rC1, rC2, rC3, rC4, kQ, rQ0, rQ1, kV, lV, kG, lG, kP, lP, kT, lT, LB1, LB2, LB3, LH1, LH2, LH3, LL1, LL2, LL3, dDy, dEv, true_and, and_true, Option.some.injEq, exists_eq_left', nmOf_0, nmOf_1, nmOf_2, nmOf_3, nmOf_4, nmOf_5, nmOf_6, Nat.add_sub_cancel, Nat.reduceSub, Nat.reduceLT, Nat.reduceEqDiff, ne_eq, not_false_eq_true, b0, b1, b3, hc0, hD0]
    refine ⟨fun z => by omega, fun _ => ⟨by omega, fun z => ?_, fun z => ?_⟩⟩
    · have z' : isCov S (xC c0) (yC c0) = false := Bool.eq_false_iff.mpr z
      refine ih (cx + 1) (by omega) (by omega) (fun c hc hq => ?_)
      by_cases e : c = c0
      · rw [e]; exact z'
      · exact hi c hc (by
          have : ¬ (xC c = cx ∧ yC c = cy) := fun t => e (by unfold xC at t g2; unfold yC at t g3; omega)
          omega)
    · refine h0 (fun t => ?_)
      have t0 := t c0 g1 (by omega)
      have z' : isCov S (xC c0) (yC c0) = true := Classical.not_not.mp z
      rw [z'] at t0
      cases t0
set_option maxRecDepth 100000 in
set_option maxHeartbeats 4000000 in
theorem lp_X3_isFree5 (G : GT) {D : WD} {S : SS} (hW : WF S) {h : Hp} {a : Nat} {x y w d : Int} {Q : Option Value → Hp → Prop} {QX : String → Hp → Prop} (hD : CD G h D S) (hB : BP h a x y w d) (hn : BPn x y w d) (h1 : (∀ c, c < 256 → inP x y w d c → isCov S (xC c) (yC c) = false) → Q (some (.int (i32 1))) h) (h0 : ¬ (∀ c, c < 256 → inP x y w d c → isCov S (xC c) (yC c) = false) → Q (some (.int (i32 0))) h) :
    ∀ m : Nat, ∀ cy : Int, cy + m = y + d → y ≤ cy → (∀ c, c < 256 → inQ x y w d cy x c → isCov S (xC c) (yC c) = false) → ∀ o3, Wp G MX3_isFree false 1 Q QX 5 [some (.ref (D 0 1)), some (.ref a), some (.int (i32 cy)), o3] [] h (0, 0) := by
  have hn0 := hn
  obtain ⟨⟨x1, x2, x3, x4⟩, ⟨y1, y2, y3, y4⟩⟩ := hn
  intro m
  induction m with
  | zero =>
    intro cy hy hy2 hi o3
    have hz := h1 (fun c hc hq => hi c hc (by omega))
    obtain ⟨b0, b1, b2, b3, b4⟩ := hB
    refine wpW (cs := [(37, ce_X3_isCovered G D S)]) (stop := [5, 23]) (n := 200) (env_cons (ceV (by decide +kernel) ⟨by decide, by decide, by decide +kernel⟩ (by decide) rfl (ok_X3_isCovered G G D S hW)) (env_nil0 (env_hh rfl))) ?_
    simp only [↓wpN_S, ↓step_u, ↓stC_s, stC_s, ↓stF_u, stF_u, ↓stepI, lenI, ↓kN_u, isS, ↓gI_0, ↓gI_S, ↓gL_0, ↓gL_S, ↓gD_0, ↓gD_S, ↓gR_0, ↓gR_S, ↓sI_c, ↓sL_c, ↓sD_c, ↓sR_c, ↓s1_r, ↓s1_i, ↓vR_r, ↓vR_n, ↓s0_n, s0_n, ↓oR_u, ↓sP_u, ↓sPa_0, ↓sPa_S, ↓lkC_c, ↓callK_u, ↓cQ_s, ↓cQ_n, putL, putW, clr, kil, catS, catN, refF, booF, finF, nF, nmOf_0, nmOf_1, nmOf_2, nmOf_3, nmOf_4, nmOf_5, nmOf_6, nmOf_50, nmOf_51, nmOf_52, ↓reduceIte, reduceIte, Bool.false_eq_true, eq_self, true_or, or_true, true_and, and_true, false_or, or_false, Nat.reduceAdd, Nat.reduceSub, Nat.reduceEqDiff, Nat.reduceLT, Nat.reduceLeDiff, reduceCtorEq, true_implies, List.length_cons, List.length_nil, List.replicate, List.cons_append, List.nil_append, mrt_X3_isFree, mhh_X3_isFree, mow_X3_isFree, mnl_X3_isFree, DX3_isFree_0, DX3_isFree_1, DX3_isFree_4, DX3_isFree_5, DX3_isFree_6, DX3_isFree_7, DX3_isFree_10, DX3_isFree_11, DX3_isFree_14, DX3_isFree_15, DX3_isFree_18, DX3_isFree_19, DX3_isFree_22, DX3_isFree_23, DX3_isFree_24, DX3_isFree_25, DX3_isFree_28, DX3_isFree_29, DX3_isFree_32, DX3_isFree_33, DX3_isFree_36, DX3_isFree_37, DX3_isFree_38, DX3_isFree_40, DX3_isFree_41, DX3_isFree_42, DX3_isFree_43, DX3_isFree_46, DX3_isFree_49, DX3_isFree_50, DX3_isFree_51, DX3_isFree_54, DX3_isFree_57, DX3_isFree_60, DX3_isFree_63, DX3_isFree_64, ce_X3_isCovered, ↓ct_X3_isCovered, ycl_X3_isCovered, cX_nil mhh_X3_isFree]
    simp (disch := omega) only [i32_lit, i32_neg, i32_add, i32_mul, i32_sub, i32_nI, i32_lt, i32_le, i32_eq, inR_i, i32_clamp, i32_div, i32_max, i32_min, ite_max, ite_min, b2i_0, b2i_1, b2i_01, i32_toInt, tn_i, Int.toNat_natCast, em_t, true_and, and_true, Int.reduceToNat, Int.reduceLE, Int.reduceLT, Int.reduceAdd, Int.reduceMul, Int.reduceSub, Int.reduceNeg, Int.reduceEq, true_implies, not_true_eq_false, false_implies, not_false_eq_true, b0, b2, b4]
    exact ⟨fun _ => hz, fun z => by omega⟩
  | succ m ih =>
    intro cy hy hy2 hi o3
    obtain ⟨w', hw'⟩ := Int.eq_ofNat_of_zero_le (show 0 ≤ w by omega)
    have hr := lp_X3_isFree23 (Q := Q) (QX := QX) G hW hD hB hn0 (cy := cy) (by omega) h0 (fun hi' o3 => ih (cy + 1) (by omega) (by omega) hi' o3) w' x (by omega) (by omega) hi
    obtain ⟨b0, b1, b2, b3, b4⟩ := hB
    refine wpW (cs := [(37, ce_X3_isCovered G D S)]) (stop := [5, 23]) (n := 200) (env_cons (ceV (by decide +kernel) ⟨by decide, by decide, by decide +kernel⟩ (by decide) rfl (ok_X3_isCovered G G D S hW)) (env_nil0 (env_hh rfl))) ?_
    simp only [↓wpN_S, ↓step_u, ↓stC_s, stC_s, ↓stF_u, stF_u, ↓stepI, lenI, ↓kN_u, isS, ↓gI_0, ↓gI_S, ↓gL_0, ↓gL_S, ↓gD_0, ↓gD_S, ↓gR_0, ↓gR_S, ↓sI_c, ↓sL_c, ↓sD_c, ↓sR_c, ↓s1_r, ↓s1_i, ↓vR_r, ↓vR_n, ↓s0_n, s0_n, ↓oR_u, ↓sP_u, ↓sPa_0, ↓sPa_S, ↓lkC_c, ↓callK_u, ↓cQ_s, ↓cQ_n, putL, putW, clr, kil, catS, catN, refF, booF, finF, nF, nmOf_0, nmOf_1, nmOf_2, nmOf_3, nmOf_4, nmOf_5, nmOf_6, nmOf_50, nmOf_51, nmOf_52, ↓reduceIte, reduceIte, Bool.false_eq_true, eq_self, true_or, or_true, true_and, and_true, false_or, or_false, Nat.reduceAdd, Nat.reduceSub, Nat.reduceEqDiff, Nat.reduceLT, Nat.reduceLeDiff, reduceCtorEq, true_implies, List.length_cons, List.length_nil, List.replicate, List.cons_append, List.nil_append, mrt_X3_isFree, mhh_X3_isFree, mow_X3_isFree, mnl_X3_isFree, DX3_isFree_0, DX3_isFree_1, DX3_isFree_4, DX3_isFree_5, DX3_isFree_6, DX3_isFree_7, DX3_isFree_10, DX3_isFree_11, DX3_isFree_14, DX3_isFree_15, DX3_isFree_18, DX3_isFree_19, DX3_isFree_22, DX3_isFree_23, DX3_isFree_24, DX3_isFree_25, DX3_isFree_28, DX3_isFree_29, DX3_isFree_32, DX3_isFree_33, DX3_isFree_36, DX3_isFree_37, DX3_isFree_38, DX3_isFree_40, DX3_isFree_41, DX3_isFree_42, DX3_isFree_43, DX3_isFree_46, DX3_isFree_49, DX3_isFree_50, DX3_isFree_51, DX3_isFree_54, DX3_isFree_57, DX3_isFree_60, DX3_isFree_63, DX3_isFree_64, ce_X3_isCovered, ↓ct_X3_isCovered, ycl_X3_isCovered, cX_nil mhh_X3_isFree]
    simp (disch := omega) only [i32_lit, i32_neg, i32_add, i32_mul, i32_sub, i32_nI, i32_lt, i32_le, i32_eq, inR_i, i32_clamp, i32_div, i32_max, i32_min, ite_max, ite_min, b2i_0, b2i_1, b2i_01, i32_toInt, tn_i, Int.toNat_natCast, em_t, true_and, and_true, Int.reduceToNat, Int.reduceLE, Int.reduceLT, Int.reduceAdd, Int.reduceMul, Int.reduceSub, Int.reduceNeg, Int.reduceEq, true_implies, not_true_eq_false, false_implies, not_false_eq_true, b0, b1, b2, b4]
    exact ⟨fun z => by omega, fun _ => hr⟩
set_option maxRecDepth 100000 in
set_option maxHeartbeats 4000000 in
theorem ok_X3_isFree (G : GT) (G : GT) (D : WD) (S : SS) (hW : WF S) : OKm G yX3_isFree MX3_isFree 1 0 0 (ct_X3_isFree G D S) := by
  refine mkOK (ini := false) (by decide) rfl (by first | exact fun _ => rfl | (intro hh; cases hh)) (fun As h Q QX hc => ?_)
  replace hc := sR_e hc; obtain ⟨q, r, rfl, hc⟩ := hc
  replace hc := sR_e hc; obtain ⟨a, r, rfl, hc⟩ := hc
  replace hc := s0_e hc; obtain ⟨rfl, hc⟩ := hc
  obtain ⟨hD, rfl, x, y, w, d, hB, hn, h1, h0⟩ := hc
  have hn0 := hn
  obtain ⟨⟨x1, x2, x3, x4⟩, ⟨y1, y2, y3, y4⟩⟩ := hn
  obtain ⟨d', hd'⟩ := Int.eq_ofNat_of_zero_le (show 0 ≤ d by omega)
  have hz := lp_X3_isFree5 (Q := Q) (QX := QX) G hW hD hB hn0 h1 h0 d' y (by omega) (by omega) (fun c _ hq => by omega) none
  obtain ⟨b0, b1, b2, b3, b4⟩ := hB
  refine ⟨Nat.le_of_ble_eq_true rfl, ?_⟩
  simp only [ent, entL, catN, List.length_cons, List.length_nil, List.replicate, List.cons_append, List.nil_append, reduceIte, Nat.reduceEqDiff,  Nat.reduceAdd, Nat.reduceSub, mnl_X3_isFree]
  refine wpW (cs := [(37, ce_X3_isCovered G D S)]) (stop := [5]) (n := 200) (env_cons (ceV (by decide +kernel) ⟨by decide, by decide, by decide +kernel⟩ (by decide) rfl (ok_X3_isCovered G G D S hW)) (env_nil0 (env_hh rfl))) ?_
  simp only [↓wpN_S, ↓step_u, ↓stC_s, stC_s, ↓stF_u, stF_u, ↓stepI, lenI, ↓kN_u, isS, ↓gI_0, ↓gI_S, ↓gL_0, ↓gL_S, ↓gD_0, ↓gD_S, ↓gR_0, ↓gR_S, ↓sI_c, ↓sL_c, ↓sD_c, ↓sR_c, ↓s1_r, ↓s1_i, ↓vR_r, ↓vR_n, ↓s0_n, s0_n, ↓oR_u, ↓sP_u, ↓sPa_0, ↓sPa_S, ↓lkC_c, ↓callK_u, ↓cQ_s, ↓cQ_n, putL, putW, clr, kil, catS, catN, refF, booF, finF, nF, nmOf_0, nmOf_1, nmOf_2, nmOf_3, nmOf_4, nmOf_5, nmOf_6, nmOf_50, nmOf_51, nmOf_52, ↓reduceIte, reduceIte, Bool.false_eq_true, eq_self, true_or, or_true, true_and, and_true, false_or, or_false, Nat.reduceAdd, Nat.reduceSub, Nat.reduceEqDiff, Nat.reduceLT, Nat.reduceLeDiff, reduceCtorEq, true_implies, List.length_cons, List.length_nil, List.replicate, List.cons_append, List.nil_append, mrt_X3_isFree, mhh_X3_isFree, mow_X3_isFree, mnl_X3_isFree, DX3_isFree_0, DX3_isFree_1, DX3_isFree_4, DX3_isFree_5, DX3_isFree_6, DX3_isFree_7, DX3_isFree_10, DX3_isFree_11, DX3_isFree_14, DX3_isFree_15, DX3_isFree_18, DX3_isFree_19, DX3_isFree_22, DX3_isFree_23, DX3_isFree_24, DX3_isFree_25, DX3_isFree_28, DX3_isFree_29, DX3_isFree_32, DX3_isFree_33, DX3_isFree_36, DX3_isFree_37, DX3_isFree_38, DX3_isFree_40, DX3_isFree_41, DX3_isFree_42, DX3_isFree_43, DX3_isFree_46, DX3_isFree_49, DX3_isFree_50, DX3_isFree_51, DX3_isFree_54, DX3_isFree_57, DX3_isFree_60, DX3_isFree_63, DX3_isFree_64, ce_X3_isCovered, ↓ct_X3_isCovered, ycl_X3_isCovered, cX_nil mhh_X3_isFree]
  simp (disch := omega) only [i32_lit, i32_neg, i32_add, i32_mul, i32_sub, i32_nI, i32_lt, i32_le, i32_eq, inR_i, i32_clamp, i32_div, i32_max, i32_min, ite_max, ite_min, b2i_0, b2i_1, b2i_01, i32_toInt, tn_i, Int.toNat_natCast, em_t, true_and, and_true, Int.reduceToNat, Int.reduceLE, Int.reduceLT, Int.reduceAdd, Int.reduceMul, Int.reduceSub, Int.reduceNeg, Int.reduceEq, true_implies, not_true_eq_false, false_implies, not_false_eq_true, b0, b2]
  exact hz

