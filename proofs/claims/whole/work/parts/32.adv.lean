/-! ===== the reference: advise ===== -/
/-- the least that is free of b in n hours from r0 on -/
def itsN (S : SS) (b : Nat) (p : Int) (r0 : Nat) : Nat → Int
  | 0 => 256
  | n + 1 => min (itsN S b p r0 n) (free S b (r0 + n) p S.nl)
/-- after n buildings: the best, its most -/
def advN (S : SS) (p : Int) (r0 n0 : Nat) : Nat → Int × Int
  | 0 => (-1, -1)
  | n + 1 => if S.bf n 6 = 1 ∧ (advN S p r0 n0 n).2 < itsN S n p r0 n0 then ((n : Int), itsN S n p r0 n0) else advN S p r0 n0 n
theorem itsN_b {S : SS} (hW : WF S) (b : Nat) (p : Int) (r0 : Nat) : ∀ n, 0 ≤ itsN S b p r0 n ∧ itsN S b p r0 n ≤ 256
  | 0 => by simp [itsN]
  | n + 1 => by
    have h1 := itsN_b hW b p r0 n
    have h2 := free_b (b : Int) (r0 + n) p S.nl hW
    unfold itsN
    omega
theorem advN_b {S : SS} (hW : WF S) (p : Int) (r0 n0 : Nat) : ∀ n, -1 ≤ (advN S p r0 n0 n).1 ∧ (advN S p r0 n0 n).1 < n ∧ -1 ≤ (advN S p r0 n0 n).2 ∧ (advN S p r0 n0 n).2 ≤ 256
  | 0 => by simp [advN]
  | n + 1 => by
    have h1 := advN_b hW p r0 n0 n
    have h2 := itsN_b hW n p r0 n0
    unfold advN
    split
    · dsimp only; omega
    · omega
set_option maxRecDepth 100000 in
set_option maxHeartbeats 4000000 in
theorem lp_X5_advise94 (G : GT) {A : Nat → Nat} {S : SS} (hW : WF S) {h : Hp} {m b r0 n0 : Nat} {p w be mo : Int} {Q : Option Value → Hp → Prop} {QX : String → Hp → Prop} (hb : b < S.nb) (hp : inB p) (hn : 1 ≤ n0) (hr : r0 + n0 ≤ 12) (hmo : -1 ≤ mo ∧ mo ≤ 256) (hM : MD h m A S) (hC : MC h A S)
    (hq : ∀ Ls, lsub [some (.ref m), some (.int (i32 r0)), some (.int (i32 (r0 + n0 - 1))), some (.int (i32 p)), some (.int (i32 w)), some (.int (i32 (if mo < itsN S b p r0 n0 then b else be))), some (.int (i32 (if mo < itsN S b p r0 n0 then itsN S b p r0 n0 else mo))), some (.int (i32 (b + 1))), none, none] Ls → Wp G MX5_advise false 4 Q QX 65 Ls [] h (0, 0)) :
    ∀ k n : Nat, n + k = n0 → Wp G MX5_advise false 4 Q QX 94 [some (.ref m), some (.int (i32 r0)), some (.int (i32 (r0 + n0 - 1))), some (.int (i32 p)), some (.int (i32 w)), some (.int (i32 be)), some (.int (i32 mo)), some (.int (i32 b)), some (.int (i32 (itsN S b p r0 n))), some (.int (i32 (r0 + n)))] [] h (0, 0) := by
  have hnb := hW.1
  have hnl := hW.2.1
  have hM0 := hM
  obtain ⟨⟨hk, hA, hJ⟩, fd, fe, fb, fl, hB, hL, hN, hG, hP⟩ := hM0
  obtain ⟨a5, k5, l5⟩ := hA 5 (by omega) (by omega)
  obtain ⟨a6, k6, l6⟩ := hA 6 (by omega) (by omega)
  obtain ⟨a7, k7, l7⟩ := hA 7 (by omega) (by omega)
  obtain ⟨a8, k8, l8⟩ := hA 8 (by omega) (by omega)
  obtain ⟨a9, k9, l9⟩ := hA 9 (by omega) (by omega)
  obtain ⟨a10, k10, l10⟩ := hA 10 (by omega) (by omega)
  obtain ⟨a11, k11, l11⟩ := hA 11 (by omega) (by omega)
  simp only [mLen] at l5 l6 l7 l8 l9 l10 l11
  intro k
  induction k with
  | zero =>
    intro n hn'
    have e : n = n0 := by omega
    subst e
    have hi := itsN_b hW b p r0 n
    refine wpW (cs := [(96, ce_X5_isHour), (39, ce_X5_isIn), (67, ce_X5_fail), (54, ce_X5_stands A S), (120, ce_X5_free A S), (123, ce_min)]) (stop := [65, 94]) (n := 200) (env_cons (ceS (by decide +kernel) ⟨by decide, by decide, by decide +kernel⟩ (by decide) (ok_X5_isHour G)) (env_cons (ceS (by decide +kernel) ⟨by decide, by decide, by decide +kernel⟩ (by decide) (ok_X5_isIn G)) (env_cons (ceV (by decide +kernel) ⟨by decide, by decide, by decide +kernel⟩ (by decide) rfl (ok_X5_fail G)) (env_cons (ceV (by decide +kernel) ⟨by decide, by decide, by decide +kernel⟩ (by decide) rfl (ok_X5_stands G A S hW)) (env_cons (ceV (by decide +kernel) ⟨by decide, by decide, by decide +kernel⟩ (by decide) rfl (ok_X5_free G A S hW)) (env_cons (ce_minOK (by decide +kernel)) (env_nil0 (env_hh rfl)))))))) ?_
    simp only [↓wpN_S, ↓step_u, ↓stC_s, stC_s, ↓stF_u, stF_u, ↓stepI, lenI, ↓kN_u, isS, ↓gI_0, ↓gI_S, ↓gL_0, ↓gL_S, ↓gD_0, ↓gD_S, ↓gR_0, ↓gR_S, ↓sI_c, ↓sL_c, ↓sD_c, ↓sR_c, ↓s1_r, ↓s1_i, ↓vR_r, ↓vR_n, ↓s0_n, s0_n, ↓oR_u, ↓sP_u, ↓sPa_0, ↓sPa_S, ↓lkC_c, ↓callK_u, ↓cQ_s, ↓cQ_n, putL, putW, clr, kil, catS, catN, refF, booF, finF, nF, nmOf_0, nmOf_1, nmOf_2, nmOf_3, nmOf_4, nmOf_5, nmOf_6, nmOf_50, nmOf_51, nmOf_52, ↓reduceIte, reduceIte, Bool.false_eq_true, eq_self, true_or, or_true, true_and, and_true, false_or, or_false, Nat.reduceAdd, Nat.reduceSub, Nat.reduceEqDiff, Nat.reduceLT, Nat.reduceLeDiff, reduceCtorEq, true_implies, List.length_cons, List.length_nil, List.replicate, List.cons_append, List.nil_append, mrt_X5_advise, mhh_X5_advise, mow_X5_advise, mnl_X5_advise, DX5_advise_0, DX5_advise_1, DX5_advise_2, DX5_advise_5, DX5_advise_6, DX5_advise_9, DX5_advise_12, DX5_advise_13, DX5_advise_16, DX5_advise_19, DX5_advise_20, DX5_advise_21, DX5_advise_24, DX5_advise_25, DX5_advise_26, DX5_advise_28, DX5_advise_31, DX5_advise_34, DX5_advise_35, DX5_advise_36, DX5_advise_39, DX5_advise_40, DX5_advise_42, DX5_advise_43, DX5_advise_44, DX5_advise_47, DX5_advise_50, DX5_advise_51, DX5_advise_52, DX5_advise_55, DX5_advise_56, DX5_advise_57, DX5_advise_59, DX5_advise_60, DX5_advise_62, DX5_advise_63, DX5_advise_65, DX5_advise_67, DX5_advise_68, DX5_advise_71, DX5_advise_74, DX5_advise_75, DX5_advise_77, DX5_advise_80, DX5_advise_83, DX5_advise_86, DX5_advise_89, DX5_advise_91, DX5_advise_92, DX5_advise_94, DX5_advise_96, DX5_advise_97, DX5_advise_100, DX5_advise_102, DX5_advise_103, DX5_advise_105, DX5_advise_107, DX5_advise_108, DX5_advise_109, DX5_advise_112, DX5_advise_115, DX5_advise_118, DX5_advise_120, DX5_advise_123, DX5_advise_126, DX5_advise_128, DX5_advise_130, DX5_advise_133, DX5_advise_136, DX5_advise_138, DX5_advise_140, DX5_advise_142, DX5_advise_144, DX5_advise_147, DX5_advise_150, DX5_advise_152, DX5_advise_155, DX5_advise_157, DX5_advise_160, DX5_advise_162, ce_X5_isHour, ↓ct_X5_isHour, ycl_X5_isHour, ce_X5_isIn, ↓ct_X5_isIn, ycl_X5_isIn, ce_X5_fail, ↓ct_X5_fail, ycl_X5_fail, ce_X5_stands, ↓ct_X5_stands, ycl_X5_stands, ce_X5_free, ↓ct_X5_free, ycl_X5_free, ce_min, cX_nil mhh_X5_advise]
    simp (disch := omega) only [i32_lit, i32_neg, i32_add, i32_mul, i32_sub, i32_nI, i32_lt, i32_le, i32_eq, inR_i, i32_clamp, i32_div, i32_max, i32_min, ite_max, ite_min, b2i_0, b2i_1, b2i_01, i32_toInt, tn_i, Int.toNat_natCast, em_t, true_and, and_true, Int.reduceToNat, Int.reduceLE, Int.reduceLT, Int.reduceAdd, Int.reduceMul, Int.reduceSub, Int.reduceNeg, Int.reduceEq, true_implies, not_true_eq_false, false_implies, not_false_eq_true, hM, hk, fd, fe, fb, fl, a5, k5, l5, a6, k6, l6, a7, k7, l7, a8, k8, l8, a9, k9, l9, a10, k10, l10, a11, k11, l11, true_and, and_true, Option.some.injEq, exists_eq_left', nmOf_0, nmOf_1, nmOf_2, nmOf_3, nmOf_4, nmOf_5, nmOf_6, Nat.add_sub_cancel, Nat.reduceSub, Nat.reduceLT, Nat.reduceEqDiff, ne_eq, not_false_eq_true, hC]
    refine ⟨fun _ => ⟨fun h3 => ?_, fun h3 => ?_⟩, fun h2 => by omega⟩
    · refine hq _ ?_
      rw [if_pos h3, if_pos h3]
      simp [lsub]
    · refine hq _ ?_
      rw [if_neg h3, if_neg h3]
      simp [lsub]
  | succ k ih =>
    intro n hn'
    have hs := ih (n + 1) (by omega)
    have hi := itsN_b hW b p r0 n
    have hf := free_b (b : Int) (r0 + n) p S.nl hW
    unfold itsN at hs
    refine wpW (cs := [(96, ce_X5_isHour), (39, ce_X5_isIn), (67, ce_X5_fail), (54, ce_X5_stands A S), (120, ce_X5_free A S), (123, ce_min)]) (stop := [65, 94]) (n := 200) (env_cons (ceS (by decide +kernel) ⟨by decide, by decide, by decide +kernel⟩ (by decide) (ok_X5_isHour G)) (env_cons (ceS (by decide +kernel) ⟨by decide, by decide, by decide +kernel⟩ (by decide) (ok_X5_isIn G)) (env_cons (ceV (by decide +kernel) ⟨by decide, by decide, by decide +kernel⟩ (by decide) rfl (ok_X5_fail G)) (env_cons (ceV (by decide +kernel) ⟨by decide, by decide, by decide +kernel⟩ (by decide) rfl (ok_X5_stands G A S hW)) (env_cons (ceV (by decide +kernel) ⟨by decide, by decide, by decide +kernel⟩ (by decide) rfl (ok_X5_free G A S hW)) (env_cons (ce_minOK (by decide +kernel)) (env_nil0 (env_hh rfl)))))))) ?_
    simp only [↓wpN_S, ↓step_u, ↓stC_s, stC_s, ↓stF_u, stF_u, ↓stepI, lenI, ↓kN_u, isS, ↓gI_0, ↓gI_S, ↓gL_0, ↓gL_S, ↓gD_0, ↓gD_S, ↓gR_0, ↓gR_S, ↓sI_c, ↓sL_c, ↓sD_c, ↓sR_c, ↓s1_r, ↓s1_i, ↓vR_r, ↓vR_n, ↓s0_n, s0_n, ↓oR_u, ↓sP_u, ↓sPa_0, ↓sPa_S, ↓lkC_c, ↓callK_u, ↓cQ_s, ↓cQ_n, putL, putW, clr, kil, catS, catN, refF, booF, finF, nF, nmOf_0, nmOf_1, nmOf_2, nmOf_3, nmOf_4, nmOf_5, nmOf_6, nmOf_50, nmOf_51, nmOf_52, ↓reduceIte, reduceIte, Bool.false_eq_true, eq_self, true_or, or_true, true_and, and_true, false_or, or_false, Nat.reduceAdd, Nat.reduceSub, Nat.reduceEqDiff, Nat.reduceLT, Nat.reduceLeDiff, reduceCtorEq, true_implies, List.length_cons, List.length_nil, List.replicate, List.cons_append, List.nil_append, mrt_X5_advise, mhh_X5_advise, mow_X5_advise, mnl_X5_advise, DX5_advise_0, DX5_advise_1, DX5_advise_2, DX5_advise_5, DX5_advise_6, DX5_advise_9, DX5_advise_12, DX5_advise_13, DX5_advise_16, DX5_advise_19, DX5_advise_20, DX5_advise_21, DX5_advise_24, DX5_advise_25, DX5_advise_26, DX5_advise_28, DX5_advise_31, DX5_advise_34, DX5_advise_35, DX5_advise_36, DX5_advise_39, DX5_advise_40, DX5_advise_42, DX5_advise_43, DX5_advise_44, DX5_advise_47, DX5_advise_50, DX5_advise_51, DX5_advise_52, DX5_advise_55, DX5_advise_56, DX5_advise_57, DX5_advise_59, DX5_advise_60, DX5_advise_62, DX5_advise_63, DX5_advise_65, DX5_advise_67, DX5_advise_68, DX5_advise_71, DX5_advise_74, DX5_advise_75, DX5_advise_77, DX5_advise_80, DX5_advise_83, DX5_advise_86, DX5_advise_89, DX5_advise_91, DX5_advise_92, DX5_advise_94, DX5_advise_96, DX5_advise_97, DX5_advise_100, DX5_advise_102, DX5_advise_103, DX5_advise_105, DX5_advise_107, DX5_advise_108, DX5_advise_109, DX5_advise_112, DX5_advise_115, DX5_advise_118, DX5_advise_120, DX5_advise_123, DX5_advise_126, DX5_advise_128, DX5_advise_130, DX5_advise_133, DX5_advise_136, DX5_advise_138, DX5_advise_140, DX5_advise_142, DX5_advise_144, DX5_advise_147, DX5_advise_150, DX5_advise_152, DX5_advise_155, DX5_advise_157, DX5_advise_160, DX5_advise_162, ce_X5_isHour, ↓ct_X5_isHour, ycl_X5_isHour, ce_X5_isIn, ↓ct_X5_isIn, ycl_X5_isIn, ce_X5_fail, ↓ct_X5_fail, ycl_X5_fail, ce_X5_stands, ↓ct_X5_stands, ycl_X5_stands, ce_X5_free, ↓ct_X5_free, ycl_X5_free, ce_min, cX_nil mhh_X5_advise]
    simp (disch := omega) only [i32_lit, i32_neg, i32_add, i32_mul, i32_sub, i32_nI, i32_lt, i32_le, i32_eq, inR_i, i32_clamp, i32_div, i32_max, i32_min, ite_max, ite_min, b2i_0, b2i_1, b2i_01, i32_toInt, tn_i, Int.toNat_natCast, em_t, true_and, and_true, Int.reduceToNat, Int.reduceLE, Int.reduceLT, Int.reduceAdd, Int.reduceMul, Int.reduceSub, Int.reduceNeg, Int.reduceEq, true_implies, not_true_eq_false, false_implies, not_false_eq_true, hM, hk, fd, fe, fb, fl, a5, k5, l5, a6, k6, l6, a7, k7, l7, a8, k8, l8, a9, k9, l9, a10, k10, l10, a11, k11, l11, true_and, and_true, Option.some.injEq, exists_eq_left', nmOf_0, nmOf_1, nmOf_2, nmOf_3, nmOf_4, nmOf_5, nmOf_6, Nat.add_sub_cancel, Nat.reduceSub, Nat.reduceLT, Nat.reduceEqDiff, ne_eq, not_false_eq_true, hC]
    refine ⟨fun h2 => by omega, fun h2 => ⟨by omega, ?_⟩⟩
    have e : ((r0 : Int) + n).toNat = r0 + n := by omega
    rw [e]
    simp (disch := omega) only [i32_lit, i32_neg, i32_add, i32_mul, i32_sub, i32_nI, i32_lt, i32_le, i32_eq, inR_i, i32_clamp, i32_div, i32_max, i32_min, ite_max, ite_min, b2i_0, b2i_1, b2i_01, i32_toInt, tn_i, Int.toNat_natCast, em_t, true_and, and_true, Int.reduceToNat, Int.reduceLE, Int.reduceLT, Int.reduceAdd, Int.reduceMul, Int.reduceSub, Int.reduceNeg, Int.reduceEq, true_implies, not_true_eq_false, false_implies, not_false_eq_true]
    simpa [Int.add_assoc] using hs
set_option maxRecDepth 100000 in
set_option maxHeartbeats 4000000 in
theorem lp_X5_advise65 (G : GT) {A : Nat → Nat} {S : SS} (hW : WF S) {h : Hp} {m r0 n0 : Nat} {p w : Int} {Q : Option Value → Hp → Prop} {QX : String → Hp → Prop} (hp : inB p) (hw : w = 0 ∨ w = 1) (hn : 1 ≤ n0) (hr : r0 + n0 ≤ 12) (hM : MD h m A S) (hC : MC h A S)
    (hq : Q (some (.int (i32 (if w = 0 then (advN S p r0 n0 S.nb).1 else (advN S p r0 n0 S.nb).2)))) h) :
    ∀ k b : Nat, b + k = S.nb → Wp G MX5_advise false 4 Q QX 65 [some (.ref m), some (.int (i32 r0)), some (.int (i32 (r0 + n0 - 1))), some (.int (i32 p)), some (.int (i32 w)), some (.int (i32 (advN S p r0 n0 b).1)), some (.int (i32 (advN S p r0 n0 b).2)), some (.int (i32 b)), none, none] [] h (0, 0) := by
  have hnb := hW.1
  have hnl := hW.2.1
  have hM0 := hM
  obtain ⟨⟨hk, hA, hJ⟩, fd, fe, fb, fl, hB, hL, hN, hG, hP⟩ := hM0
  obtain ⟨a5, k5, l5⟩ := hA 5 (by omega) (by omega)
  obtain ⟨a6, k6, l6⟩ := hA 6 (by omega) (by omega)
  obtain ⟨a7, k7, l7⟩ := hA 7 (by omega) (by omega)
  obtain ⟨a8, k8, l8⟩ := hA 8 (by omega) (by omega)
  obtain ⟨a9, k9, l9⟩ := hA 9 (by omega) (by omega)
  obtain ⟨a10, k10, l10⟩ := hA 10 (by omega) (by omega)
  obtain ⟨a11, k11, l11⟩ := hA 11 (by omega) (by omega)
  simp only [mLen] at l5 l6 l7 l8 l9 l10 l11
  intro k
  induction k with
  | zero =>
    intro b hb
    have e : b = S.nb := by omega
    subst e
    refine wpW (cs := [(96, ce_X5_isHour), (39, ce_X5_isIn), (67, ce_X5_fail), (54, ce_X5_stands A S), (120, ce_X5_free A S), (123, ce_min)]) (stop := [65, 94]) (n := 200) (env_cons (ceS (by decide +kernel) ⟨by decide, by decide, by decide +kernel⟩ (by decide) (ok_X5_isHour G)) (env_cons (ceS (by decide +kernel) ⟨by decide, by decide, by decide +kernel⟩ (by decide) (ok_X5_isIn G)) (env_cons (ceV (by decide +kernel) ⟨by decide, by decide, by decide +kernel⟩ (by decide) rfl (ok_X5_fail G)) (env_cons (ceV (by decide +kernel) ⟨by decide, by decide, by decide +kernel⟩ (by decide) rfl (ok_X5_stands G A S hW)) (env_cons (ceV (by decide +kernel) ⟨by decide, by decide, by decide +kernel⟩ (by decide) rfl (ok_X5_free G A S hW)) (env_cons (ce_minOK (by decide +kernel)) (env_nil0 (env_hh rfl)))))))) ?_
    simp only [↓wpN_S, ↓step_u, ↓stC_s, stC_s, ↓stF_u, stF_u, ↓stepI, lenI, ↓kN_u, isS, ↓gI_0, ↓gI_S, ↓gL_0, ↓gL_S, ↓gD_0, ↓gD_S, ↓gR_0, ↓gR_S, ↓sI_c, ↓sL_c, ↓sD_c, ↓sR_c, ↓s1_r, ↓s1_i, ↓vR_r, ↓vR_n, ↓s0_n, s0_n, ↓oR_u, ↓sP_u, ↓sPa_0, ↓sPa_S, ↓lkC_c, ↓callK_u, ↓cQ_s, ↓cQ_n, putL, putW, clr, kil, catS, catN, refF, booF, finF, nF, nmOf_0, nmOf_1, nmOf_2, nmOf_3, nmOf_4, nmOf_5, nmOf_6, nmOf_50, nmOf_51, nmOf_52, ↓reduceIte, reduceIte, Bool.false_eq_true, eq_self, true_or, or_true, true_and, and_true, false_or, or_false, Nat.reduceAdd, Nat.reduceSub, Nat.reduceEqDiff, Nat.reduceLT, Nat.reduceLeDiff, reduceCtorEq, true_implies, List.length_cons, List.length_nil, List.replicate, List.cons_append, List.nil_append, mrt_X5_advise, mhh_X5_advise, mow_X5_advise, mnl_X5_advise, DX5_advise_0, DX5_advise_1, DX5_advise_2, DX5_advise_5, DX5_advise_6, DX5_advise_9, DX5_advise_12, DX5_advise_13, DX5_advise_16, DX5_advise_19, DX5_advise_20, DX5_advise_21, DX5_advise_24, DX5_advise_25, DX5_advise_26, DX5_advise_28, DX5_advise_31, DX5_advise_34, DX5_advise_35, DX5_advise_36, DX5_advise_39, DX5_advise_40, DX5_advise_42, DX5_advise_43, DX5_advise_44, DX5_advise_47, DX5_advise_50, DX5_advise_51, DX5_advise_52, DX5_advise_55, DX5_advise_56, DX5_advise_57, DX5_advise_59, DX5_advise_60, DX5_advise_62, DX5_advise_63, DX5_advise_65, DX5_advise_67, DX5_advise_68, DX5_advise_71, DX5_advise_74, DX5_advise_75, DX5_advise_77, DX5_advise_80, DX5_advise_83, DX5_advise_86, DX5_advise_89, DX5_advise_91, DX5_advise_92, DX5_advise_94, DX5_advise_96, DX5_advise_97, DX5_advise_100, DX5_advise_102, DX5_advise_103, DX5_advise_105, DX5_advise_107, DX5_advise_108, DX5_advise_109, DX5_advise_112, DX5_advise_115, DX5_advise_118, DX5_advise_120, DX5_advise_123, DX5_advise_126, DX5_advise_128, DX5_advise_130, DX5_advise_133, DX5_advise_136, DX5_advise_138, DX5_advise_140, DX5_advise_142, DX5_advise_144, DX5_advise_147, DX5_advise_150, DX5_advise_152, DX5_advise_155, DX5_advise_157, DX5_advise_160, DX5_advise_162, ce_X5_isHour, ↓ct_X5_isHour, ycl_X5_isHour, ce_X5_isIn, ↓ct_X5_isIn, ycl_X5_isIn, ce_X5_fail, ↓ct_X5_fail, ycl_X5_fail, ce_X5_stands, ↓ct_X5_stands, ycl_X5_stands, ce_X5_free, ↓ct_X5_free, ycl_X5_free, ce_min, cX_nil mhh_X5_advise]
    simp (disch := omega) only [i32_lit, i32_neg, i32_add, i32_mul, i32_sub, i32_nI, i32_lt, i32_le, i32_eq, inR_i, i32_clamp, i32_div, i32_max, i32_min, ite_max, ite_min, b2i_0, b2i_1, b2i_01, i32_toInt, tn_i, Int.toNat_natCast, em_t, true_and, and_true, Int.reduceToNat, Int.reduceLE, Int.reduceLT, Int.reduceAdd, Int.reduceMul, Int.reduceSub, Int.reduceNeg, Int.reduceEq, true_implies, not_true_eq_false, false_implies, not_false_eq_true, hM, hk, fd, fe, fb, fl, a5, k5, l5, a6, k6, l6, a7, k7, l7, a8, k8, l8, a9, k9, l9, a10, k10, l10, a11, k11, l11, true_and, and_true, Option.some.injEq, exists_eq_left', nmOf_0, nmOf_1, nmOf_2, nmOf_3, nmOf_4, nmOf_5, nmOf_6, Nat.add_sub_cancel, Nat.reduceSub, Nat.reduceLT, Nat.reduceEqDiff, ne_eq, not_false_eq_true, hC]
    refine ⟨fun _ => ⟨fun h3 => ?_, fun h3 => ?_⟩, fun h2 => by omega⟩
    · rw [if_neg h3] at hq; exact hq
    · rw [if_pos h3] at hq; exact hq
  | succ k ih =>
    intro b hb
    have hs := ih (b + 1) (by omega)
    have hab := advN_b hW p r0 n0 b
    refine wpW (cs := [(96, ce_X5_isHour), (39, ce_X5_isIn), (67, ce_X5_fail), (54, ce_X5_stands A S), (120, ce_X5_free A S), (123, ce_min)]) (stop := [65, 94]) (n := 200) (env_cons (ceS (by decide +kernel) ⟨by decide, by decide, by decide +kernel⟩ (by decide) (ok_X5_isHour G)) (env_cons (ceS (by decide +kernel) ⟨by decide, by decide, by decide +kernel⟩ (by decide) (ok_X5_isIn G)) (env_cons (ceV (by decide +kernel) ⟨by decide, by decide, by decide +kernel⟩ (by decide) rfl (ok_X5_fail G)) (env_cons (ceV (by decide +kernel) ⟨by decide, by decide, by decide +kernel⟩ (by decide) rfl (ok_X5_stands G A S hW)) (env_cons (ceV (by decide +kernel) ⟨by decide, by decide, by decide +kernel⟩ (by decide) rfl (ok_X5_free G A S hW)) (env_cons (ce_minOK (by decide +kernel)) (env_nil0 (env_hh rfl)))))))) ?_
    simp only [↓wpN_S, ↓step_u, ↓stC_s, stC_s, ↓stF_u, stF_u, ↓stepI, lenI, ↓kN_u, isS, ↓gI_0, ↓gI_S, ↓gL_0, ↓gL_S, ↓gD_0, ↓gD_S, ↓gR_0, ↓gR_S, ↓sI_c, ↓sL_c, ↓sD_c, ↓sR_c, ↓s1_r, ↓s1_i, ↓vR_r, ↓vR_n, ↓s0_n, s0_n, ↓oR_u, ↓sP_u, ↓sPa_0, ↓sPa_S, ↓lkC_c, ↓callK_u, ↓cQ_s, ↓cQ_n, putL, putW, clr, kil, catS, catN, refF, booF, finF, nF, nmOf_0, nmOf_1, nmOf_2, nmOf_3, nmOf_4, nmOf_5, nmOf_6, nmOf_50, nmOf_51, nmOf_52, ↓reduceIte, reduceIte, Bool.false_eq_true, eq_self, true_or, or_true, true_and, and_true, false_or, or_false, Nat.reduceAdd, Nat.reduceSub, Nat.reduceEqDiff, Nat.reduceLT, Nat.reduceLeDiff, reduceCtorEq, true_implies, List.length_cons, List.length_nil, List.replicate, List.cons_append, List.nil_append, mrt_X5_advise, mhh_X5_advise, mow_X5_advise, mnl_X5_advise, DX5_advise_0, DX5_advise_1, DX5_advise_2, DX5_advise_5, DX5_advise_6, DX5_advise_9, DX5_advise_12, DX5_advise_13, DX5_advise_16, DX5_advise_19, DX5_advise_20, DX5_advise_21, DX5_advise_24, DX5_advise_25, DX5_advise_26, DX5_advise_28, DX5_advise_31, DX5_advise_34, DX5_advise_35, DX5_advise_36, DX5_advise_39, DX5_advise_40, DX5_advise_42, DX5_advise_43, DX5_advise_44, DX5_advise_47, DX5_advise_50, DX5_advise_51, DX5_advise_52, DX5_advise_55, DX5_advise_56, DX5_advise_57, DX5_advise_59, DX5_advise_60, DX5_advise_62, DX5_advise_63, DX5_advise_65, DX5_advise_67, DX5_advise_68, DX5_advise_71, DX5_advise_74, DX5_advise_75, DX5_advise_77, DX5_advise_80, DX5_advise_83, DX5_advise_86, DX5_advise_89, DX5_advise_91, DX5_advise_92, DX5_advise_94, DX5_advise_96, DX5_advise_97, DX5_advise_100, DX5_advise_102, DX5_advise_103, DX5_advise_105, DX5_advise_107, DX5_advise_108, DX5_advise_109, DX5_advise_112, DX5_advise_115, DX5_advise_118, DX5_advise_120, DX5_advise_123, DX5_advise_126, DX5_advise_128, DX5_advise_130, DX5_advise_133, DX5_advise_136, DX5_advise_138, DX5_advise_140, DX5_advise_142, DX5_advise_144, DX5_advise_147, DX5_advise_150, DX5_advise_152, DX5_advise_155, DX5_advise_157, DX5_advise_160, DX5_advise_162, ce_X5_isHour, ↓ct_X5_isHour, ycl_X5_isHour, ce_X5_isIn, ↓ct_X5_isIn, ycl_X5_isIn, ce_X5_fail, ↓ct_X5_fail, ycl_X5_fail, ce_X5_stands, ↓ct_X5_stands, ycl_X5_stands, ce_X5_free, ↓ct_X5_free, ycl_X5_free, ce_min, cX_nil mhh_X5_advise]
    simp (disch := omega) only [i32_lit, i32_neg, i32_add, i32_mul, i32_sub, i32_nI, i32_lt, i32_le, i32_eq, inR_i, i32_clamp, i32_div, i32_max, i32_min, ite_max, ite_min, b2i_0, b2i_1, b2i_01, i32_toInt, tn_i, Int.toNat_natCast, em_t, true_and, and_true, Int.reduceToNat, Int.reduceLE, Int.reduceLT, Int.reduceAdd, Int.reduceMul, Int.reduceSub, Int.reduceNeg, Int.reduceEq, true_implies, not_true_eq_false, false_implies, not_false_eq_true, hM, hk, fd, fe, fb, fl, a5, k5, l5, a6, k6, l6, a7, k7, l7, a8, k8, l8, a9, k9, l9, a10, k10, l10, a11, k11, l11, true_and, and_true, Option.some.injEq, exists_eq_left', nmOf_0, nmOf_1, nmOf_2, nmOf_3, nmOf_4, nmOf_5, nmOf_6, Nat.add_sub_cancel, Nat.reduceSub, Nat.reduceLT, Nat.reduceEqDiff, ne_eq, not_false_eq_true, hC]
    refine ⟨fun h2 => by omega, fun h2 => ⟨fun h3 => ?_, fun h3 => ?_⟩⟩
    · have h3 := Classical.not_not.mp h3
      have hz := lp_X5_advise94 (w := w) (be := (advN S p r0 n0 b).1) (mo := (advN S p r0 n0 b).2) (Q := Q) (QX := QX) G hW (show b < S.nb by omega) hp hn hr ⟨by omega, by omega⟩ hM hC (fun Ls hL => ?_) n0 0 (by omega)
      · simpa [itsN] using hz
      · refine Wp.sub ?_ hL
        unfold advN at hs
        by_cases h4 : (advN S p r0 n0 b).2 < itsN S b p r0 n0
        · rw [if_pos ⟨h3.2, h4⟩] at hs
          rw [if_pos h4, if_pos h4]
          exact hs
        · rw [if_neg (fun q => h4 q.2)] at hs
          rw [if_neg h4, if_neg h4]
          exact hs
    · unfold advN at hs
      rw [if_neg (fun q => h3 ⟨⟨by omega, by omega⟩, q.1⟩)] at hs
      exact hs
def advV (S : SS) (f l p w : Int) : Int := if w = 0 then (advN S p f.toNat (l - f + 1).toNat S.nb).1 else (advN S p f.toNat (l - f + 1).toNat S.nb).2
def advC (f l p : Int) : Prop := (0 ≤ f ∧ f ≤ 11) ∧ (0 ≤ l ∧ l ≤ 11) ∧ f ≤ l ∧ (1 ≤ p ∧ p ≤ 99)
def ct_X5_advise (A : Nat → Nat) (S : SS) : Ct := fun As h Q _ => sR As fun m r => sI r fun f r => sI r fun l r => sI r fun p r => sI r fun w r => s0 r (MD h m A S ∧ MC h A S ∧ (advC f.toInt l.toInt p.toInt ∧ (0 ≤ w.toInt ∧ w.toInt ≤ 1) → Q (some (.int (i32 (advV S f.toInt l.toInt p.toInt w.toInt)))) (t0 h m)) ∧ (¬ advC f.toInt l.toInt p.toInt → Q (some (.int (i32 0))) (tX h m 1)) ∧ (advC f.toInt l.toInt p.toInt ∧ ¬ (0 ≤ w.toInt ∧ w.toInt ≤ 1) → Q (some (.int (i32 0))) (tX h m 2)))
def ce_X5_advise (A : Nat → Nat) (S : SS) : CE := (0, yX5_advise, MX5_advise, 4, 4, 0, 0, ct_X5_advise A S)
set_option maxRecDepth 100000 in
set_option maxHeartbeats 4000000 in
theorem ok_X5_advise (G : GT) (A : Nat → Nat) (S : SS) (hW : WF S) : OKm G yX5_advise MX5_advise 4 0 0 (ct_X5_advise A S) := by
  refine mkOK (ini := false) (by decide) rfl (by first | exact fun _ => rfl | (intro hh; cases hh)) (fun As h Q QX hc => ?_)
  replace hc := sR_e hc; obtain ⟨m, r, rfl, hc⟩ := hc
  replace hc := sI_e hc; obtain ⟨f, r, rfl, hc⟩ := hc
  replace hc := sI_e hc; obtain ⟨l, r, rfl, hc⟩ := hc
  replace hc := sI_e hc; obtain ⟨p, r, rfl, hc⟩ := hc
  replace hc := sI_e hc; obtain ⟨w, r, rfl, hc⟩ := hc
  replace hc := s0_e hc; obtain ⟨rfl, hc⟩ := hc
  obtain ⟨fV, hfV, rfl⟩ := i32_all f
  obtain ⟨lV, hlV, rfl⟩ := i32_all l
  obtain ⟨pV, hpV, rfl⟩ := i32_all p
  obtain ⟨wV, hwV, rfl⟩ := i32_all w
  simp only [i32_toInt hlV, i32_toInt hfV, i32_toInt hpV, i32_toInt hwV] at hc
  obtain ⟨hM, hC, hv, hf⟩ := hc
  have hk := hM.1.1
  replace hM : MD (t0 h m) m A S := MD_s0 hM
  replace hC : MC (t0 h m) A S := hC
  refine ⟨Nat.le_of_ble_eq_true rfl, ?_⟩
  simp only [ent, entL, catN, List.length_cons, List.length_nil, List.replicate, List.cons_append, List.nil_append, reduceIte, Nat.reduceEqDiff,  Nat.reduceAdd, Nat.reduceSub, mnl_X5_advise]
  refine wpW (cs := [(96, ce_X5_isHour), (39, ce_X5_isIn), (67, ce_X5_fail), (54, ce_X5_stands A S), (120, ce_X5_free A S), (123, ce_min)]) (stop := [5]) (n := 200) (env_cons (ceS (by decide +kernel) ⟨by decide, by decide, by decide +kernel⟩ (by decide) (ok_X5_isHour G)) (env_cons (ceS (by decide +kernel) ⟨by decide, by decide, by decide +kernel⟩ (by decide) (ok_X5_isIn G)) (env_cons (ceV (by decide +kernel) ⟨by decide, by decide, by decide +kernel⟩ (by decide) rfl (ok_X5_fail G)) (env_cons (ceV (by decide +kernel) ⟨by decide, by decide, by decide +kernel⟩ (by decide) rfl (ok_X5_stands G A S hW)) (env_cons (ceV (by decide +kernel) ⟨by decide, by decide, by decide +kernel⟩ (by decide) rfl (ok_X5_free G A S hW)) (env_cons (ce_minOK (by decide +kernel)) (env_nil0 (env_hh rfl)))))))) ?_
  simp only [↓wpN_S, ↓step_u, ↓stC_s, stC_s, ↓stF_u, stF_u, ↓stepI, lenI, ↓kN_u, isS, ↓gI_0, ↓gI_S, ↓gL_0, ↓gL_S, ↓gD_0, ↓gD_S, ↓gR_0, ↓gR_S, ↓sI_c, ↓sL_c, ↓sD_c, ↓sR_c, ↓s1_r, ↓s1_i, ↓vR_r, ↓vR_n, ↓s0_n, s0_n, ↓oR_u, ↓sP_u, ↓sPa_0, ↓sPa_S, ↓lkC_c, ↓callK_u, ↓cQ_s, ↓cQ_n, putL, putW, clr, kil, catS, catN, refF, booF, finF, nF, nmOf_0, nmOf_1, nmOf_2, nmOf_3, nmOf_4, nmOf_5, nmOf_6, nmOf_50, nmOf_51, nmOf_52, ↓reduceIte, reduceIte, Bool.false_eq_true, eq_self, true_or, or_true, true_and, and_true, false_or, or_false, Nat.reduceAdd, Nat.reduceSub, Nat.reduceEqDiff, Nat.reduceLT, Nat.reduceLeDiff, reduceCtorEq, true_implies, List.length_cons, List.length_nil, List.replicate, List.cons_append, List.nil_append, mrt_X5_advise, mhh_X5_advise, mow_X5_advise, mnl_X5_advise, DX5_advise_0, DX5_advise_1, DX5_advise_2, DX5_advise_5, DX5_advise_6, DX5_advise_9, DX5_advise_12, DX5_advise_13, DX5_advise_16, DX5_advise_19, DX5_advise_20, DX5_advise_21, DX5_advise_24, DX5_advise_25, DX5_advise_26, DX5_advise_28, DX5_advise_31, DX5_advise_34, DX5_advise_35, DX5_advise_36, DX5_advise_39, DX5_advise_40, DX5_advise_42, DX5_advise_43, DX5_advise_44, DX5_advise_47, DX5_advise_50, DX5_advise_51, DX5_advise_52, DX5_advise_55, DX5_advise_56, DX5_advise_57, DX5_advise_59, DX5_advise_60, DX5_advise_62, DX5_advise_63, DX5_advise_65, DX5_advise_67, DX5_advise_68, DX5_advise_71, DX5_advise_74, DX5_advise_75, DX5_advise_77, DX5_advise_80, DX5_advise_83, DX5_advise_86, DX5_advise_89, DX5_advise_91, DX5_advise_92, DX5_advise_94, DX5_advise_96, DX5_advise_97, DX5_advise_100, DX5_advise_102, DX5_advise_103, DX5_advise_105, DX5_advise_107, DX5_advise_108, DX5_advise_109, DX5_advise_112, DX5_advise_115, DX5_advise_118, DX5_advise_120, DX5_advise_123, DX5_advise_126, DX5_advise_128, DX5_advise_130, DX5_advise_133, DX5_advise_136, DX5_advise_138, DX5_advise_140, DX5_advise_142, DX5_advise_144, DX5_advise_147, DX5_advise_150, DX5_advise_152, DX5_advise_155, DX5_advise_157, DX5_advise_160, DX5_advise_162, ce_X5_isHour, ↓ct_X5_isHour, ycl_X5_isHour, ce_X5_isIn, ↓ct_X5_isIn, ycl_X5_isIn, ce_X5_fail, ↓ct_X5_fail, ycl_X5_fail, ce_X5_stands, ↓ct_X5_stands, ycl_X5_stands, ce_X5_free, ↓ct_X5_free, ycl_X5_free, ce_min, cX_nil mhh_X5_advise]
  simp only [hk, true_and, false_implies]
  unfold tX at hf
  change Wp G MX5_advise false 4 Q QX 5 _ [] (t0 h m) _
  generalize t0 h m = g at *
  clear hk
  have hnb := hW.1
  have hnl := hW.2.1
  have hM0 := hM
  obtain ⟨⟨hk, hA, hJ⟩, fd, fe, fb, fl, hB, hL, hN, hG, hP⟩ := hM0
  obtain ⟨a5, k5, l5⟩ := hA 5 (by omega) (by omega)
  obtain ⟨a6, k6, l6⟩ := hA 6 (by omega) (by omega)
  obtain ⟨a7, k7, l7⟩ := hA 7 (by omega) (by omega)
  obtain ⟨a8, k8, l8⟩ := hA 8 (by omega) (by omega)
  obtain ⟨a9, k9, l9⟩ := hA 9 (by omega) (by omega)
  obtain ⟨a10, k10, l10⟩ := hA 10 (by omega) (by omega)
  obtain ⟨a11, k11, l11⟩ := hA 11 (by omega) (by omega)
  simp only [mLen] at l5 l6 l7 l8 l9 l10 l11
  refine wpW (cs := [(96, ce_X5_isHour), (39, ce_X5_isIn), (67, ce_X5_fail), (54, ce_X5_stands A S), (120, ce_X5_free A S), (123, ce_min)]) (stop := [5, 65, 94]) (n := 200) (env_cons (ceS (by decide +kernel) ⟨by decide, by decide, by decide +kernel⟩ (by decide) (ok_X5_isHour G)) (env_cons (ceS (by decide +kernel) ⟨by decide, by decide, by decide +kernel⟩ (by decide) (ok_X5_isIn G)) (env_cons (ceV (by decide +kernel) ⟨by decide, by decide, by decide +kernel⟩ (by decide) rfl (ok_X5_fail G)) (env_cons (ceV (by decide +kernel) ⟨by decide, by decide, by decide +kernel⟩ (by decide) rfl (ok_X5_stands G A S hW)) (env_cons (ceV (by decide +kernel) ⟨by decide, by decide, by decide +kernel⟩ (by decide) rfl (ok_X5_free G A S hW)) (env_cons (ce_minOK (by decide +kernel)) (env_nil0 (env_hh rfl)))))))) ?_
  simp only [↓wpN_S, ↓step_u, ↓stC_s, stC_s, ↓stF_u, stF_u, ↓stepI, lenI, ↓kN_u, isS, ↓gI_0, ↓gI_S, ↓gL_0, ↓gL_S, ↓gD_0, ↓gD_S, ↓gR_0, ↓gR_S, ↓sI_c, ↓sL_c, ↓sD_c, ↓sR_c, ↓s1_r, ↓s1_i, ↓vR_r, ↓vR_n, ↓s0_n, s0_n, ↓oR_u, ↓sP_u, ↓sPa_0, ↓sPa_S, ↓lkC_c, ↓callK_u, ↓cQ_s, ↓cQ_n, putL, putW, clr, kil, catS, catN, refF, booF, finF, nF, nmOf_0, nmOf_1, nmOf_2, nmOf_3, nmOf_4, nmOf_5, nmOf_6, nmOf_50, nmOf_51, nmOf_52, ↓reduceIte, reduceIte, Bool.false_eq_true, eq_self, true_or, or_true, true_and, and_true, false_or, or_false, Nat.reduceAdd, Nat.reduceSub, Nat.reduceEqDiff, Nat.reduceLT, Nat.reduceLeDiff, reduceCtorEq, true_implies, List.length_cons, List.length_nil, List.replicate, List.cons_append, List.nil_append, mrt_X5_advise, mhh_X5_advise, mow_X5_advise, mnl_X5_advise, DX5_advise_0, DX5_advise_1, DX5_advise_2, DX5_advise_5, DX5_advise_6, DX5_advise_9, DX5_advise_12, DX5_advise_13, DX5_advise_16, DX5_advise_19, DX5_advise_20, DX5_advise_21, DX5_advise_24, DX5_advise_25, DX5_advise_26, DX5_advise_28, DX5_advise_31, DX5_advise_34, DX5_advise_35, DX5_advise_36, DX5_advise_39, DX5_advise_40, DX5_advise_42, DX5_advise_43, DX5_advise_44, DX5_advise_47, DX5_advise_50, DX5_advise_51, DX5_advise_52, DX5_advise_55, DX5_advise_56, DX5_advise_57, DX5_advise_59, DX5_advise_60, DX5_advise_62, DX5_advise_63, DX5_advise_65, DX5_advise_67, DX5_advise_68, DX5_advise_71, DX5_advise_74, DX5_advise_75, DX5_advise_77, DX5_advise_80, DX5_advise_83, DX5_advise_86, DX5_advise_89, DX5_advise_91, DX5_advise_92, DX5_advise_94, DX5_advise_96, DX5_advise_97, DX5_advise_100, DX5_advise_102, DX5_advise_103, DX5_advise_105, DX5_advise_107, DX5_advise_108, DX5_advise_109, DX5_advise_112, DX5_advise_115, DX5_advise_118, DX5_advise_120, DX5_advise_123, DX5_advise_126, DX5_advise_128, DX5_advise_130, DX5_advise_133, DX5_advise_136, DX5_advise_138, DX5_advise_140, DX5_advise_142, DX5_advise_144, DX5_advise_147, DX5_advise_150, DX5_advise_152, DX5_advise_155, DX5_advise_157, DX5_advise_160, DX5_advise_162, ce_X5_isHour, ↓ct_X5_isHour, ycl_X5_isHour, ce_X5_isIn, ↓ct_X5_isIn, ycl_X5_isIn, ce_X5_fail, ↓ct_X5_fail, ycl_X5_fail, ce_X5_stands, ↓ct_X5_stands, ycl_X5_stands, ce_X5_free, ↓ct_X5_free, ycl_X5_free, ce_min, cX_nil mhh_X5_advise]
  simp (disch := omega) only [i32_lit, i32_neg, i32_add, i32_mul, i32_sub, i32_nI, i32_lt, i32_le, i32_eq, inR_i, i32_clamp, i32_div, i32_max, i32_min, ite_max, ite_min, b2i_0, b2i_1, b2i_01, i32_toInt, tn_i, Int.toNat_natCast, em_t, true_and, and_true, Int.reduceToNat, Int.reduceLE, Int.reduceLT, Int.reduceAdd, Int.reduceMul, Int.reduceSub, Int.reduceNeg, Int.reduceEq, true_implies, not_true_eq_false, false_implies, not_false_eq_true, hM, hk, fd, fe, fb, fl, a5, k5, l5, a6, k6, l6, a7, k7, l7, a8, k8, l8, a9, k9, l9, a10, k10, l10, a11, k11, l11, true_and, and_true, Option.some.injEq, exists_eq_left', nmOf_0, nmOf_1, nmOf_2, nmOf_3, nmOf_4, nmOf_5, nmOf_6, Nat.add_sub_cancel, Nat.reduceSub, Nat.reduceLT, Nat.reduceEqDiff, ne_eq, not_false_eq_true, hC]
  unfold advC at hv hf
  refine ⟨fun h1 => hf.1 (fun q => h1 q.1), fun h1 => ⟨fun h2 => hf.1 (fun q => h2 q.2.1), fun h2 => ⟨fun h3 => hf.1 (fun q => by omega), fun h3 => ⟨fun h4 => ⟨fun h5 => ?_, fun h5 => hf.2 ⟨⟨by omega, by omega, by omega, by omega⟩, h5⟩⟩, fun h4 => hf.1 (fun q => h4 q.2.2.2)⟩⟩⟩⟩
  replace hv := hv ⟨⟨by omega, by omega, by omega, by omega⟩, by omega⟩
  obtain ⟨r0, rfl⟩ := Int.eq_ofNat_of_zero_le (Classical.not_not.mp h1).1
  obtain ⟨n0, hn0⟩ := Int.eq_ofNat_of_zero_le (show 0 ≤ lV - r0 + 1 by omega)
  unfold advV at hv
  rw [hn0] at hv
  simp only [Int.toNat_natCast] at hv
  have hz := lp_X5_advise65 (w := wV) (Q := Q) (QX := QX) G hW (r0 := r0) (n0 := n0) hpV (by omega) (by omega) (by omega) hM hC hv S.nb 0 (by omega)
  rw [show (r0 : Int) + n0 - 1 = lV by omega] at hz
  exact hz
