/-! ===== the reference: setSun, let ===== -/
def SS.uS (S : SS) (r : Nat) (f : Nat → Int) : SS := (S.1, S.2.1, S.2.2.1, S.2.2.2.1, fun r' k => if r' = r then f k else S.sn r' k, S.2.2.2.2.2)
def sS (dx dy len : Int) : Nat → Int
  | 0 => dx
  | 1 => dy
  | _ => len
theorem sn_uS {S : SS} {r r' k : Nat} {f : Nat → Int} : (S.uS r f).sn r' k = if r' = r then f k else S.sn r' k := rfl
theorem stp_rc {S T : SS} {r : Nat} (h2 : SS.bf S = SS.bf T) (h3 : ∀ k, S.sn r k = T.sn r k) (b : Nat) (x y : Int) : stp S b r x y = stp T b r x y := by
  unfold stp reach
  rw [cov_cg h2, h2, h3 0, h3 1, h3 2]
theorem cst_rc {S T : SS} {r : Nat} (h2 : SS.bf S = SS.bf T) (h3 : ∀ k, S.sn r k = T.sn r k) (x y : Int) : ∀ n, cst S r x y n = cst T r x y n
  | 0 => rfl
  | n + 1 => by
    unfold cst
    rw [cst_rc h2 h3 x y n, stp_rc h2 h3]
theorem bel_rc {S T : SS} {r : Nat} (h1 : SS.nb S = SS.nb T) (h2 : SS.bf S = SS.bf T) (h3 : ∀ k, S.sn r k = T.sn r k) (c : Nat) : bel S r c = bel T r c := by
  unfold bel isCov
  rw [cov_cg h2, h1, cst_rc h2 h3]
theorem shd_rc {S T : SS} {r : Nat} (h1 : SS.nb S = SS.nb T) (h2 : SS.bf S = SS.bf T) (h3 : ∀ k, S.sn r k = T.sn r k) (c : Nat) : shd S r c = shd T r c := by
  unfold shd isCov
  rw [cov_cg h2, h1, cst_rc h2 h3]
def vsC (dx dy len : Int) : Prop := (-1 ≤ dx ∧ dx ≤ 1) ∧ (-1 ≤ dy ∧ dy ≤ 1) ∧ ¬ (dx = 0 ∧ dy = 0) ∧ (0 ≤ len ∧ len ≤ 6)
theorem WF_uS {S : SS} {r : Nat} {dx dy len : Int} (hW : WF S) (hv : vsC dx dy len) : WF (S.uS r (sS dx dy len)) := by
  obtain ⟨a1, a2, a3, a4, a5, a6, a7, a8⟩ := hW
  obtain ⟨v1, v2, v3, v4⟩ := hv
  refine ⟨a1, a2, a3, a4, fun i hi => ?_, a6, a7, a8⟩
  have h := a5 i hi
  simp only [sn_uS]
  by_cases e : i = r
  · simp only [e, if_true, sS]; omega
  · simp only [e, if_false]; exact h
theorem MD_uS {h : Hp} {m : Nat} {A : Nat → Nat} {S : SS} {a r : Nat} {f : Nat → Int} (hM : MD h m A S) (hf : ∀ k, k < 3 → ia h a k = i32 (f k)) : MD (cpIA h a (A 7) 0 (3 * r) 3) m A (S.uS r f) := by
  obtain ⟨⟨hk', hA, hJ⟩, fd, fe, fb, fl, hB, hL, hN, hG, hP⟩ := hM
  have n6 : ∀ i, 5 ≤ i → i ≤ 11 → i ≠ 7 → A i ≠ A 7 := fun i h1 h2 h3 h4 => h3 (hJ i 7 h1 h2 (by omega) (by omega) h4)
  refine ⟨⟨hk', hA, hJ⟩, fd, fe, fb, fl, fun b q hb hq => ?_, fun b q hb hq => ?_, fun r' q hr hq => ?_, fun o ho => ?_, fun t ht => ?_⟩
  · rw [ia_cpIA, if_neg (fun z => n6 5 (by omega) (by omega) (by omega) z.1)]; exact hB b q hb hq
  · rw [ia_cpIA, if_neg (fun z => n6 6 (by omega) (by omega) (by omega) z.1)]; exact hL b q hb hq
  · rw [ia_cpIA, sn_uS]
    by_cases e : r' = r
    · rw [if_pos ⟨rfl, by omega⟩, if_pos e, ← hf q hq]
      congr 1; omega
    · rw [if_neg (by omega), if_neg e]; exact hN r' q hr hq
  · rw [ia_cpIA, if_neg (fun z => n6 8 (by omega) (by omega) (by omega) z.1)]; exact hG o ho
  · rw [ia_cpIA, if_neg (fun z => n6 9 (by omega) (by omega) (by omega) z.1)]; exact hP t ht
def ct_X5_setSun (A : Nat → Nat) (S : SS) : Ct := fun As h Q _ => sR As fun m r => sI r fun hr r => sI r fun x r => sI r fun y r => sI r fun l r => s0 r (MD h m A S ∧ MC h A S ∧ ((0 ≤ hr.toInt ∧ hr.toInt ≤ 11) ∧ vsC x.toInt y.toInt l.toInt → nxt (t0 h m) m A (S.uS (tn hr) (sS x.toInt y.toInt l.toInt)) Q (S.sn (tn hr) 2)) ∧ (¬ (0 ≤ hr.toInt ∧ hr.toInt ≤ 11) → Q (some (.int (i32 0))) (tX h m 1)) ∧ ((0 ≤ hr.toInt ∧ hr.toInt ≤ 11) ∧ ¬ vsC x.toInt y.toInt l.toInt → Q (some (.int (i32 0))) (tX h m 2)))
def ce_X5_setSun (A : Nat → Nat) (S : SS) : CE := (0, yX5_setSun, MX5_setSun, 4, 6, 1, 3, ct_X5_setSun A S)
set_option maxRecDepth 100000 in
set_option maxHeartbeats 4000000 in
theorem tl_X5_setSun105 (G : GT) {A : Nat → Nat} {S : SS} (hW : WF S) {h : Hp} {m r : Nat} {v : Int32} {o2 o3 o4 o6 : Option Value} {Q : Option Value → Hp → Prop} {QX : String → Hp → Prop} (hr : r < 12) (hM : MD h m A S) (hq : ∀ h', MFr h h' A → MCr h' A S r 256 → MO h h' A r → Q (some (.int v)) h') :
    Wp G MX5_setSun false 6 Q QX 105 [some (.ref m), some (.int (i32 r)), o2, o3, o4, some (.int v), o6] [] h (0, 0) := by
  have hM0 := hM
  obtain ⟨⟨hk, hA, hJ⟩, fd, fe, fb, fl, hB, hL, hN, hG, hP⟩ := hM0
  obtain ⟨a5, k5, l5⟩ := hA 5 (by omega) (by omega)
  obtain ⟨a6, k6, l6⟩ := hA 6 (by omega) (by omega)
  obtain ⟨a7, k7, l7⟩ := hA 7 (by omega) (by omega)
  obtain ⟨a8, k8, l8⟩ := hA 8 (by omega) (by omega)
  obtain ⟨a9, k9, l9⟩ := hA 9 (by omega) (by omega)
  obtain ⟨a10, k10, l10⟩ := hA 10 (by omega) (by omega)
  obtain ⟨a11, k11, l11⟩ := hA 11 (by omega) (by omega)
  simp only [mLen] at l5 l6 l7 l8 l9 l10 l11
  refine wpW (cs := [(96, ce_X5_isHour), (67, ce_X5_fail), (39, ce_X5_isIn), (71, ce_ci), (31, ce_X5_cast A S)]) (stop := [200]) (n := 200) (env_cons (ceS (by decide +kernel) ⟨by decide, by decide, by decide +kernel⟩ (by decide) (ok_X5_isHour G)) (env_cons (ceV (by decide +kernel) ⟨by decide, by decide, by decide +kernel⟩ (by decide) rfl (ok_X5_fail G)) (env_cons (ceS (by decide +kernel) ⟨by decide, by decide, by decide +kernel⟩ (by decide) (ok_X5_isIn G)) (env_cons (ce_ciOK (by decide +kernel)) (env_cons (ceV (by decide +kernel) ⟨by decide, by decide, by decide +kernel⟩ (by decide) rfl (ok_X5_cast G A S hW)) (env_nil0 (env_hh rfl))))))) ?_
  simp only [↓wpN_S, ↓step_u, ↓stC_s, stC_s, ↓stF_u, stF_u, ↓stepI, lenI, ↓kN_u, isS, ↓gI_0, ↓gI_S, ↓gL_0, ↓gL_S, ↓gD_0, ↓gD_S, ↓gR_0, ↓gR_S, ↓sI_c, ↓sL_c, ↓sD_c, ↓sR_c, ↓s1_r, ↓s1_i, ↓vR_r, ↓vR_n, ↓s0_n, s0_n, ↓oR_u, ↓sP_u, ↓sPa_0, ↓sPa_S, ↓lkC_c, ↓callK_u, ↓cQ_s, ↓cQ_n, putL, putW, clr, kil, catS, catN, refF, booF, finF, nF, nmOf_0, nmOf_1, nmOf_2, nmOf_3, nmOf_4, nmOf_5, nmOf_6, nmOf_50, nmOf_51, nmOf_52, ↓reduceIte, reduceIte, Bool.false_eq_true, eq_self, true_or, or_true, true_and, and_true, false_or, or_false, Nat.reduceAdd, Nat.reduceSub, Nat.reduceEqDiff, Nat.reduceLT, Nat.reduceLeDiff, reduceCtorEq, true_implies, List.length_cons, List.length_nil, List.replicate, List.cons_append, List.nil_append, mrt_X5_setSun, mhh_X5_setSun, mow_X5_setSun, mnl_X5_setSun, DX5_setSun_0, DX5_setSun_1, DX5_setSun_2, DX5_setSun_5, DX5_setSun_6, DX5_setSun_9, DX5_setSun_12, DX5_setSun_13, DX5_setSun_14, DX5_setSun_17, DX5_setSun_18, DX5_setSun_19, DX5_setSun_20, DX5_setSun_21, DX5_setSun_24, DX5_setSun_27, DX5_setSun_28, DX5_setSun_29, DX5_setSun_30, DX5_setSun_33, DX5_setSun_36, DX5_setSun_37, DX5_setSun_40, DX5_setSun_41, DX5_setSun_44, DX5_setSun_46, DX5_setSun_47, DX5_setSun_49, DX5_setSun_52, DX5_setSun_55, DX5_setSun_56, DX5_setSun_57, DX5_setSun_60, DX5_setSun_61, DX5_setSun_62, DX5_setSun_65, DX5_setSun_66, DX5_setSun_67, DX5_setSun_68, DX5_setSun_69, DX5_setSun_70, DX5_setSun_71, DX5_setSun_73, DX5_setSun_74, DX5_setSun_76, DX5_setSun_77, DX5_setSun_78, DX5_setSun_79, DX5_setSun_80, DX5_setSun_81, DX5_setSun_82, DX5_setSun_83, DX5_setSun_84, DX5_setSun_85, DX5_setSun_86, DX5_setSun_88, DX5_setSun_89, DX5_setSun_91, DX5_setSun_93, DX5_setSun_94, DX5_setSun_95, DX5_setSun_98, DX5_setSun_99, DX5_setSun_100, DX5_setSun_101, DX5_setSun_102, DX5_setSun_105, DX5_setSun_106, DX5_setSun_107, DX5_setSun_110, DX5_setSun_112, ce_X5_isHour, ↓ct_X5_isHour, ycl_X5_isHour, ce_X5_fail, ↓ct_X5_fail, ycl_X5_fail, ce_X5_isIn, ↓ct_X5_isIn, ycl_X5_isIn, ce_ci, ce_X5_cast, ↓ct_X5_cast, ycl_X5_cast, cX_nil mhh_X5_setSun]
  simp (disch := omega) only [i32_lit, i32_neg, i32_add, i32_mul, i32_sub, i32_nI, i32_lt, i32_le, i32_eq, inR_i, i32_clamp, i32_div, i32_max, i32_min, ite_max, ite_min, b2i_0, b2i_1, b2i_01, i32_toInt, tn_i, Int.toNat_natCast, em_t, true_and, and_true, Int.reduceToNat, Int.reduceLE, Int.reduceLT, Int.reduceAdd, Int.reduceMul, Int.reduceSub, Int.reduceNeg, Int.reduceEq, true_implies, not_true_eq_false, false_implies, not_false_eq_true, hM, hk, fd, fe, fb, fl, a5, k5, l5, a6, k6, l6, a7, k7, l7, a8, k8, l8, a9, k9, l9, a10, k10, l10, a11, k11, l11, true_and, and_true, Option.some.injEq, exists_eq_left', nmOf_0, nmOf_1, nmOf_2, nmOf_3, nmOf_4, nmOf_5, nmOf_6, Nat.add_sub_cancel, Nat.reduceSub, Nat.reduceLT, Nat.reduceEqDiff, ne_eq, not_false_eq_true]
  exact ⟨by omega, hq⟩
set_option maxRecDepth 100000 in
set_option maxHeartbeats 4000000 in
theorem tl_X5_setSun76 (G : GT) {A : Nat → Nat} {S : SS} (hW : WF S) {h : Hp} {m r a : Nat} {dx dy len v : Int} {o6 : Option Value} {Q : Option Value → Hp → Prop} {QX : String → Hp → Prop} (hr : r < 12) (hv : vsC dx dy len) (hM : MD h m A S) (hC : MC h A S) (h0 : kd h a = 0) (hf : fi h 6 0 m = i32 0) (hq : nxt h m A (S.uS r (sS dx dy len)) Q v) :
    Wp G MX5_setSun false 6 Q QX 76 [some (.ref m), some (.int (i32 r)), some (.int (i32 dx)), some (.int (i32 dy)), some (.int (i32 len)), some (.int (i32 v)), o6] [.ref a] (newA h a 21 3) (0, 0) := by
  have f1 : Fr h (newA h a 21 3) (WM m A) := Fr.nA h0
  have hM1 := hM.fr (W := fun _ => False) (Fr.nA (t := 21) (n := 3) h0) (fun _ q => q.elim)
  have hC1 := hC.fr hM (W := fun _ => False) (Fr.nA (t := 21) (n := 3) h0) (fun _ q => q.elim)
  have hwa : ¬ WM m A a := fun z => hM.ex z h0
  have ha : ∀ k, 5 ≤ k → k ≤ 11 → a ≠ A k := fun k h1 h2 e => hwa (e ▸ WM.r ⟨h1, h2⟩)
  have hm : a ≠ m := fun e => hwa (e ▸ WM.m)
  have hg : ∀ b, b = a → WM m A b ∨ kd h b = 0 := fun b e => Or.inr (e ▸ h0)
  have ka : kd (newA h a 21 3) a = 21 := by rw [kd_newA, if_pos rfl]
  have la : ln (newA h a 21 3) a = 3 := by rw [ln_newA, if_pos rfl]
  have hf1 : fi (newA h a 21 3) 6 0 m = i32 0 := hf
  clear hM hC
  have hM := hM1
  have hC := hC1
  clear hM1 hC1
  generalize newA h a 21 3 = g at *
  have hM0 := hM
  obtain ⟨⟨hk, hA, hJ⟩, fd, fe, fb, fl, hB, hL, hN, hG, hP⟩ := hM0
  obtain ⟨a5, k5, l5⟩ := hA 5 (by omega) (by omega)
  obtain ⟨a6, k6, l6⟩ := hA 6 (by omega) (by omega)
  obtain ⟨a7, k7, l7⟩ := hA 7 (by omega) (by omega)
  obtain ⟨a8, k8, l8⟩ := hA 8 (by omega) (by omega)
  obtain ⟨a9, k9, l9⟩ := hA 9 (by omega) (by omega)
  obtain ⟨a10, k10, l10⟩ := hA 10 (by omega) (by omega)
  obtain ⟨a11, k11, l11⟩ := hA 11 (by omega) (by omega)
  simp only [mLen] at l5 l6 l7 l8 l9 l10 l11
  refine wpW (cs := [(96, ce_X5_isHour), (67, ce_X5_fail), (39, ce_X5_isIn), (71, ce_ci), (31, ce_X5_cast A S)]) (stop := [105]) (n := 200) (env_cons (ceS (by decide +kernel) ⟨by decide, by decide, by decide +kernel⟩ (by decide) (ok_X5_isHour G)) (env_cons (ceV (by decide +kernel) ⟨by decide, by decide, by decide +kernel⟩ (by decide) rfl (ok_X5_fail G)) (env_cons (ceS (by decide +kernel) ⟨by decide, by decide, by decide +kernel⟩ (by decide) (ok_X5_isIn G)) (env_cons (ce_ciOK (by decide +kernel)) (env_cons (ceV (by decide +kernel) ⟨by decide, by decide, by decide +kernel⟩ (by decide) rfl (ok_X5_cast G A S hW)) (env_nil0 (env_hh rfl))))))) ?_
  simp only [↓wpN_S, ↓step_u, ↓stC_s, stC_s, ↓stF_u, stF_u, ↓stepI, lenI, ↓kN_u, isS, ↓gI_0, ↓gI_S, ↓gL_0, ↓gL_S, ↓gD_0, ↓gD_S, ↓gR_0, ↓gR_S, ↓sI_c, ↓sL_c, ↓sD_c, ↓sR_c, ↓s1_r, ↓s1_i, ↓vR_r, ↓vR_n, ↓s0_n, s0_n, ↓oR_u, ↓sP_u, ↓sPa_0, ↓sPa_S, ↓lkC_c, ↓callK_u, ↓cQ_s, ↓cQ_n, putL, putW, clr, kil, catS, catN, refF, booF, finF, nF, nmOf_0, nmOf_1, nmOf_2, nmOf_3, nmOf_4, nmOf_5, nmOf_6, nmOf_50, nmOf_51, nmOf_52, ↓reduceIte, reduceIte, Bool.false_eq_true, eq_self, true_or, or_true, true_and, and_true, false_or, or_false, Nat.reduceAdd, Nat.reduceSub, Nat.reduceEqDiff, Nat.reduceLT, Nat.reduceLeDiff, reduceCtorEq, true_implies, List.length_cons, List.length_nil, List.replicate, List.cons_append, List.nil_append, mrt_X5_setSun, mhh_X5_setSun, mow_X5_setSun, mnl_X5_setSun, DX5_setSun_0, DX5_setSun_1, DX5_setSun_2, DX5_setSun_5, DX5_setSun_6, DX5_setSun_9, DX5_setSun_12, DX5_setSun_13, DX5_setSun_14, DX5_setSun_17, DX5_setSun_18, DX5_setSun_19, DX5_setSun_20, DX5_setSun_21, DX5_setSun_24, DX5_setSun_27, DX5_setSun_28, DX5_setSun_29, DX5_setSun_30, DX5_setSun_33, DX5_setSun_36, DX5_setSun_37, DX5_setSun_40, DX5_setSun_41, DX5_setSun_44, DX5_setSun_46, DX5_setSun_47, DX5_setSun_49, DX5_setSun_52, DX5_setSun_55, DX5_setSun_56, DX5_setSun_57, DX5_setSun_60, DX5_setSun_61, DX5_setSun_62, DX5_setSun_65, DX5_setSun_66, DX5_setSun_67, DX5_setSun_68, DX5_setSun_69, DX5_setSun_70, DX5_setSun_71, DX5_setSun_73, DX5_setSun_74, DX5_setSun_76, DX5_setSun_77, DX5_setSun_78, DX5_setSun_79, DX5_setSun_80, DX5_setSun_81, DX5_setSun_82, DX5_setSun_83, DX5_setSun_84, DX5_setSun_85, DX5_setSun_86, DX5_setSun_88, DX5_setSun_89, DX5_setSun_91, DX5_setSun_93, DX5_setSun_94, DX5_setSun_95, DX5_setSun_98, DX5_setSun_99, DX5_setSun_100, DX5_setSun_101, DX5_setSun_102, DX5_setSun_105, DX5_setSun_106, DX5_setSun_107, DX5_setSun_110, DX5_setSun_112, ce_X5_isHour, ↓ct_X5_isHour, ycl_X5_isHour, ce_X5_fail, ↓ct_X5_fail, ycl_X5_fail, ce_X5_isIn, ↓ct_X5_isIn, ycl_X5_isIn, ce_ci, ce_X5_cast, ↓ct_X5_cast, ycl_X5_cast, cX_nil mhh_X5_setSun]
  simp (disch := omega) only [i32_lit, i32_neg, i32_add, i32_mul, i32_sub, i32_nI, i32_lt, i32_le, i32_eq, inR_i, i32_clamp, i32_div, i32_max, i32_min, ite_max, ite_min, b2i_0, b2i_1, b2i_01, i32_toInt, tn_i, Int.toNat_natCast, em_t, true_and, and_true, Int.reduceToNat, Int.reduceLE, Int.reduceLT, Int.reduceAdd, Int.reduceMul, Int.reduceSub, Int.reduceNeg, Int.reduceEq, true_implies, not_true_eq_false, false_implies, not_false_eq_true, hM, hk, fd, fe, fb, fl, a5, k5, l5, a6, k6, l6, a7, k7, l7, a8, k8, l8, a9, k9, l9, a10, k10, l10, a11, k11, l11, true_and, and_true, Option.some.injEq, exists_eq_left', nmOf_0, nmOf_1, nmOf_2, nmOf_3, nmOf_4, nmOf_5, nmOf_6, Nat.add_sub_cancel, Nat.reduceSub, Nat.reduceLT, Nat.reduceEqDiff, ne_eq, not_false_eq_true, kd_setI, fi_setI, fr_setI, ln_setI, ia_setI, ja_setI, ra_setI, kd_setR, fi_setR, fr_setR, ln_setR, ia_setR, ja_setR, ra_setR, kd_setIA, fi_setIA, fr_setIA, ln_setIA, ia_setIA, ja_setIA, ra_setIA, kd_setLA, fi_setLA, fr_setLA, ln_setLA, ia_setLA, ja_setLA, ra_setLA, kd_setRA, fi_setRA, fr_setRA, ln_setRA, ia_setRA, ja_setRA, ra_setRA, kd_cpRA, fi_cpRA, fr_cpRA, ln_cpRA, ia_cpRA, ja_cpRA, ra_cpRA, kd_cpIA, fi_cpIA, fr_cpIA, ln_cpIA, ia_cpIA, ja_cpIA, ra_cpIA, kd_newO, fi_newO, fr_newO, ln_newO, ia_newO, ja_newO, ra_newO, kd_newA, fi_newA, fr_newA, ln_newA, ia_newA, ja_newA, ra_newA, ka, la]
  repeat (refine ⟨by omega, ?_⟩)
  rw [show (3 * (r : Int)).toNat = 3 * r by omega]
  have hss : ∀ k, k < 3 → ia (setIA (setIA (setIA g a 0 (i32 dx)) a 1 (i32 dy)) a 2 (i32 len)) a k = i32 (sS dx dy len k) := fun k hk => by
    rcases (show k = 0 ∨ k = 1 ∨ k = 2 by omega) with rfl | rfl | rfl <;> simp [ia_setIA, sS]
  have m1 := MD_uS (r := r) (f := sS dx dy len) (MD_fs (MD_fs (MD_fs hM ha hm) ha hm) ha hm) hss
  refine tl_X5_setSun105 (S := S.uS r (sS dx dy len)) G (WF_uS hW hv) hr m1 (fun h' g1 g2 g3 => ?_)
  refine hq h' ?_ ((g1.2.1 _ _ _).trans hf1) (g1.md m1) (fun r' c hr' hc => ?_)
  · refine f1.nw (W2 := fun b => WM m A b ∨ b = a) (Fr.tr ?_ (g1.fr.up fun _ => Or.inl)) (fun b hb => hb.elim Or.inl (hg b))
    refine Fr.tr ?_ (Fr.cI (Or.inl (WM.r (by omega))))
    repeat (first | exact Fr.rf | refine Fr.tr ?_ (Fr.sA (Or.inr rfl)))
  · by_cases e : r' = r
    · subst e; exact g2 c hc
    · have q := g3 (256 * r' + c) (by omega)
      have n10 : A 10 ≠ A 7 := fun z => by have := hJ 10 7 (by omega) (by omega) (by omega) (by omega) z; omega
      have n11 : A 11 ≠ A 7 := fun z => by have := hJ 11 7 (by omega) (by omega) (by omega) (by omega) z; omega
      have b10 := (ha 10 (by omega) (by omega)).symm
      have b11 := (ha 11 (by omega) (by omega)).symm
      rw [q.1, q.2, bel_rc (S := S.uS r (sS dx dy len)) (T := S) rfl rfl (fun k => by rw [sn_uS, if_neg e]), shd_rc (S := S.uS r (sS dx dy len)) (T := S) rfl rfl (fun k => by rw [sn_uS, if_neg e])]
      simp only [ia_cpIA, ia_setIA, n10, n11, b10, b11, false_and, if_false]
      exact hC r' c hr' hc
set_option maxRecDepth 100000 in
set_option maxHeartbeats 4000000 in
theorem ok_X5_setSun (G : GT) (A : Nat → Nat) (S : SS) (hW : WF S) : OKm G yX5_setSun MX5_setSun 6 1 3 (ct_X5_setSun A S) := by
  refine mkOK (ini := false) (by decide) rfl (by first | exact fun _ => rfl | (intro hh; cases hh)) (fun As h Q QX hc => ?_)
  replace hc := sR_e hc; obtain ⟨m, r, rfl, hc⟩ := hc
  replace hc := sI_e hc; obtain ⟨hr, r, rfl, hc⟩ := hc
  replace hc := sI_e hc; obtain ⟨x, r, rfl, hc⟩ := hc
  replace hc := sI_e hc; obtain ⟨y, r, rfl, hc⟩ := hc
  replace hc := sI_e hc; obtain ⟨l, r, rfl, hc⟩ := hc
  replace hc := s0_e hc; obtain ⟨rfl, hc⟩ := hc
  obtain ⟨hrV, hhrV, rfl⟩ := i32_all hr
  obtain ⟨xV, hxV, rfl⟩ := i32_all x
  obtain ⟨yV, hyV, rfl⟩ := i32_all y
  obtain ⟨lV, hlV, rfl⟩ := i32_all l
  simp only [i32_toInt hhrV, tn_i hhrV, i32_toInt hxV, i32_toInt hyV, i32_toInt hlV] at hc
  obtain ⟨hM, hC, hv, hf⟩ := hc
  have hk := hM.1.1
  replace hM : MD (t0 h m) m A S := MD_s0 hM
  replace hC : MC (t0 h m) A S := hC
  have hf0 : fi (t0 h m) 6 0 m = i32 0 := by unfold t0; rw [fi_setI, if_pos ⟨rfl, rfl, rfl⟩]; rfl
  refine ⟨Nat.le_of_ble_eq_true rfl, ?_⟩
  simp only [ent, entL, catN, List.length_cons, List.length_nil, List.replicate, List.cons_append, List.nil_append, reduceIte, Nat.reduceEqDiff,  Nat.reduceAdd, Nat.reduceSub, mnl_X5_setSun]
  refine wpW (cs := [(96, ce_X5_isHour), (67, ce_X5_fail), (39, ce_X5_isIn), (71, ce_ci), (31, ce_X5_cast A S)]) (stop := [5]) (n := 200) (env_cons (ceS (by decide +kernel) ⟨by decide, by decide, by decide +kernel⟩ (by decide) (ok_X5_isHour G)) (env_cons (ceV (by decide +kernel) ⟨by decide, by decide, by decide +kernel⟩ (by decide) rfl (ok_X5_fail G)) (env_cons (ceS (by decide +kernel) ⟨by decide, by decide, by decide +kernel⟩ (by decide) (ok_X5_isIn G)) (env_cons (ce_ciOK (by decide +kernel)) (env_cons (ceV (by decide +kernel) ⟨by decide, by decide, by decide +kernel⟩ (by decide) rfl (ok_X5_cast G A S hW)) (env_nil0 (env_hh rfl))))))) ?_
  simp only [↓wpN_S, ↓step_u, ↓stC_s, stC_s, ↓stF_u, stF_u, ↓stepI, lenI, ↓kN_u, isS, ↓gI_0, ↓gI_S, ↓gL_0, ↓gL_S, ↓gD_0, ↓gD_S, ↓gR_0, ↓gR_S, ↓sI_c, ↓sL_c, ↓sD_c, ↓sR_c, ↓s1_r, ↓s1_i, ↓vR_r, ↓vR_n, ↓s0_n, s0_n, ↓oR_u, ↓sP_u, ↓sPa_0, ↓sPa_S, ↓lkC_c, ↓callK_u, ↓cQ_s, ↓cQ_n, putL, putW, clr, kil, catS, catN, refF, booF, finF, nF, nmOf_0, nmOf_1, nmOf_2, nmOf_3, nmOf_4, nmOf_5, nmOf_6, nmOf_50, nmOf_51, nmOf_52, ↓reduceIte, reduceIte, Bool.false_eq_true, eq_self, true_or, or_true, true_and, and_true, false_or, or_false, Nat.reduceAdd, Nat.reduceSub, Nat.reduceEqDiff, Nat.reduceLT, Nat.reduceLeDiff, reduceCtorEq, true_implies, List.length_cons, List.length_nil, List.replicate, List.cons_append, List.nil_append, mrt_X5_setSun, mhh_X5_setSun, mow_X5_setSun, mnl_X5_setSun, DX5_setSun_0, DX5_setSun_1, DX5_setSun_2, DX5_setSun_5, DX5_setSun_6, DX5_setSun_9, DX5_setSun_12, DX5_setSun_13, DX5_setSun_14, DX5_setSun_17, DX5_setSun_18, DX5_setSun_19, DX5_setSun_20, DX5_setSun_21, DX5_setSun_24, DX5_setSun_27, DX5_setSun_28, DX5_setSun_29, DX5_setSun_30, DX5_setSun_33, DX5_setSun_36, DX5_setSun_37, DX5_setSun_40, DX5_setSun_41, DX5_setSun_44, DX5_setSun_46, DX5_setSun_47, DX5_setSun_49, DX5_setSun_52, DX5_setSun_55, DX5_setSun_56, DX5_setSun_57, DX5_setSun_60, DX5_setSun_61, DX5_setSun_62, DX5_setSun_65, DX5_setSun_66, DX5_setSun_67, DX5_setSun_68, DX5_setSun_69, DX5_setSun_70, DX5_setSun_71, DX5_setSun_73, DX5_setSun_74, DX5_setSun_76, DX5_setSun_77, DX5_setSun_78, DX5_setSun_79, DX5_setSun_80, DX5_setSun_81, DX5_setSun_82, DX5_setSun_83, DX5_setSun_84, DX5_setSun_85, DX5_setSun_86, DX5_setSun_88, DX5_setSun_89, DX5_setSun_91, DX5_setSun_93, DX5_setSun_94, DX5_setSun_95, DX5_setSun_98, DX5_setSun_99, DX5_setSun_100, DX5_setSun_101, DX5_setSun_102, DX5_setSun_105, DX5_setSun_106, DX5_setSun_107, DX5_setSun_110, DX5_setSun_112, ce_X5_isHour, ↓ct_X5_isHour, ycl_X5_isHour, ce_X5_fail, ↓ct_X5_fail, ycl_X5_fail, ce_X5_isIn, ↓ct_X5_isIn, ycl_X5_isIn, ce_ci, ce_X5_cast, ↓ct_X5_cast, ycl_X5_cast, cX_nil mhh_X5_setSun]
  simp only [hk, true_and, false_implies]
  unfold tX at hf
  change Wp G MX5_setSun false 6 Q QX 5 _ [] (t0 h m) _
  generalize t0 h m = g at *
  clear hk
  have hnb := hW.1
  have hnl := hW.2.1
  have hM0 := hM
  obtain ⟨⟨hk, hA, hJ⟩, fd, fe, fb, fl, hB, hL, hN, hG, hP⟩ := hM0
  obtain ⟨a5, k5, l5⟩ := hA 5 (by omega) (by omega)
  obtain ⟨a6, k6, l6⟩ := hA 6 (by omega) (by omega)
  obtain ⟨a7, k7, l7⟩ := hA 7 (by omega) (by omega)
  obtain ⟨a8, k8, l8⟩ := hA 8 (by omega) (by omega)
  obtain ⟨a9, k9, l9⟩ := hA 9 (by omega) (by omega)
  obtain ⟨a10, k10, l10⟩ := hA 10 (by omega) (by omega)
  obtain ⟨a11, k11, l11⟩ := hA 11 (by omega) (by omega)
  simp only [mLen] at l5 l6 l7 l8 l9 l10 l11
  refine wpW (cs := [(96, ce_X5_isHour), (67, ce_X5_fail), (39, ce_X5_isIn), (71, ce_ci), (31, ce_X5_cast A S)]) (stop := [5, 76]) (n := 200) (env_cons (ceS (by decide +kernel) ⟨by decide, by decide, by decide +kernel⟩ (by decide) (ok_X5_isHour G)) (env_cons (ceV (by decide +kernel) ⟨by decide, by decide, by decide +kernel⟩ (by decide) rfl (ok_X5_fail G)) (env_cons (ceS (by decide +kernel) ⟨by decide, by decide, by decide +kernel⟩ (by decide) (ok_X5_isIn G)) (env_cons (ce_ciOK (by decide +kernel)) (env_cons (ceV (by decide +kernel) ⟨by decide, by decide, by decide +kernel⟩ (by decide) rfl (ok_X5_cast G A S hW)) (env_nil0 (env_hh rfl))))))) ?_
  simp only [↓wpN_S, ↓step_u, ↓stC_s, stC_s, ↓stF_u, stF_u, ↓stepI, lenI, ↓kN_u, isS, ↓gI_0, ↓gI_S, ↓gL_0, ↓gL_S, ↓gD_0, ↓gD_S, ↓gR_0, ↓gR_S, ↓sI_c, ↓sL_c, ↓sD_c, ↓sR_c, ↓s1_r, ↓s1_i, ↓vR_r, ↓vR_n, ↓s0_n, s0_n, ↓oR_u, ↓sP_u, ↓sPa_0, ↓sPa_S, ↓lkC_c, ↓callK_u, ↓cQ_s, ↓cQ_n, putL, putW, clr, kil, catS, catN, refF, booF, finF, nF, nmOf_0, nmOf_1, nmOf_2, nmOf_3, nmOf_4, nmOf_5, nmOf_6, nmOf_50, nmOf_51, nmOf_52, ↓reduceIte, reduceIte, Bool.false_eq_true, eq_self, true_or, or_true, true_and, and_true, false_or, or_false, Nat.reduceAdd, Nat.reduceSub, Nat.reduceEqDiff, Nat.reduceLT, Nat.reduceLeDiff, reduceCtorEq, true_implies, List.length_cons, List.length_nil, List.replicate, List.cons_append, List.nil_append, mrt_X5_setSun, mhh_X5_setSun, mow_X5_setSun, mnl_X5_setSun, DX5_setSun_0, DX5_setSun_1, DX5_setSun_2, DX5_setSun_5, DX5_setSun_6, DX5_setSun_9, DX5_setSun_12, DX5_setSun_13, DX5_setSun_14, DX5_setSun_17, DX5_setSun_18, DX5_setSun_19, DX5_setSun_20, DX5_setSun_21, DX5_setSun_24, DX5_setSun_27, DX5_setSun_28, DX5_setSun_29, DX5_setSun_30, DX5_setSun_33, DX5_setSun_36, DX5_setSun_37, DX5_setSun_40, DX5_setSun_41, DX5_setSun_44, DX5_setSun_46, DX5_setSun_47, DX5_setSun_49, DX5_setSun_52, DX5_setSun_55, DX5_setSun_56, DX5_setSun_57, DX5_setSun_60, DX5_setSun_61, DX5_setSun_62, DX5_setSun_65, DX5_setSun_66, DX5_setSun_67, DX5_setSun_68, DX5_setSun_69, DX5_setSun_70, DX5_setSun_71, DX5_setSun_73, DX5_setSun_74, DX5_setSun_76, DX5_setSun_77, DX5_setSun_78, DX5_setSun_79, DX5_setSun_80, DX5_setSun_81, DX5_setSun_82, DX5_setSun_83, DX5_setSun_84, DX5_setSun_85, DX5_setSun_86, DX5_setSun_88, DX5_setSun_89, DX5_setSun_91, DX5_setSun_93, DX5_setSun_94, DX5_setSun_95, DX5_setSun_98, DX5_setSun_99, DX5_setSun_100, DX5_setSun_101, DX5_setSun_102, DX5_setSun_105, DX5_setSun_106, DX5_setSun_107, DX5_setSun_110, DX5_setSun_112, ce_X5_isHour, ↓ct_X5_isHour, ycl_X5_isHour, ce_X5_fail, ↓ct_X5_fail, ycl_X5_fail, ce_X5_isIn, ↓ct_X5_isIn, ycl_X5_isIn, ce_ci, ce_X5_cast, ↓ct_X5_cast, ycl_X5_cast, cX_nil mhh_X5_setSun]
  simp (disch := omega) only [i32_lit, i32_neg, i32_add, i32_mul, i32_sub, i32_nI, i32_lt, i32_le, i32_eq, inR_i, i32_clamp, i32_div, i32_max, i32_min, ite_max, ite_min, b2i_0, b2i_1, b2i_01, i32_toInt, tn_i, Int.toNat_natCast, em_t, true_and, and_true, Int.reduceToNat, Int.reduceLE, Int.reduceLT, Int.reduceAdd, Int.reduceMul, Int.reduceSub, Int.reduceNeg, Int.reduceEq, true_implies, not_true_eq_false, false_implies, not_false_eq_true, hM, hk, fd, fe, fb, fl, a5, k5, l5, a6, k6, l6, a7, k7, l7, a8, k8, l8, a9, k9, l9, a10, k10, l10, a11, k11, l11, true_and, and_true, Option.some.injEq, exists_eq_left', nmOf_0, nmOf_1, nmOf_2, nmOf_3, nmOf_4, nmOf_5, nmOf_6, Nat.add_sub_cancel, Nat.reduceSub, Nat.reduceLT, Nat.reduceEqDiff, ne_eq, not_false_eq_true, hC]
  refine ⟨fun h1 => ⟨fun h2 => hf.2 ⟨Classical.not_not.mp h1, fun q => h2 q.1⟩, fun h2 => ⟨fun h3 => hf.2 ⟨Classical.not_not.mp h1, fun q => h3 q.2.1⟩, fun h3 => ⟨fun h4 => ⟨fun h5 => ?_, fun h5 => hf.2 ⟨Classical.not_not.mp h1, fun q => h5 q.2.2.2⟩⟩, fun h4 => ⟨fun h5 => hf.2 ⟨Classical.not_not.mp h1, fun q => q.2.2.1 ⟨h4, h5⟩⟩, fun h5 => ⟨fun h6 => ?_, fun h6 => hf.2 ⟨Classical.not_not.mp h1, fun q => h6 q.2.2.2⟩⟩⟩⟩⟩⟩, hf.1⟩
  all_goals
    have hvs : vsC xV yV lV := ⟨by omega, by omega, by omega, by omega⟩
    obtain ⟨rn, rfl⟩ := Int.eq_ofNat_of_zero_le (Classical.not_not.mp h1).1
    simp only [Int.toNat_natCast] at hv hf
    simp (disch := omega) only [i32_lit, i32_neg, i32_add, i32_mul, i32_sub, i32_nI, i32_lt, i32_le, i32_eq, inR_i, i32_clamp, i32_div, i32_max, i32_min, ite_max, ite_min, b2i_0, b2i_1, b2i_01, i32_toInt, tn_i, Int.toNat_natCast, em_t, true_and, and_true, Int.reduceToNat, Int.reduceLE, Int.reduceLT, Int.reduceAdd, Int.reduceMul, Int.reduceSub, Int.reduceNeg, Int.reduceEq, true_implies, not_true_eq_false, false_implies, not_false_eq_true, hM, hk, fd, fe, fb, fl, a5, k5, l5, a6, k6, l6, a7, k7, l7, a8, k8, l8, a9, k9, l9, a10, k10, l10, a11, k11, l11, true_and, and_true, Option.some.injEq, exists_eq_left', nmOf_0, nmOf_1, nmOf_2, nmOf_3, nmOf_4, nmOf_5, nmOf_6, Nat.add_sub_cancel, Nat.reduceSub, Nat.reduceLT, Nat.reduceEqDiff, ne_eq, not_false_eq_true]
    refine ⟨by omega, by omega, by omega, fun a h0 _ => ?_⟩
    rw [show (3 * (rn : Int) + 2).toNat = 3 * rn + 2 by omega, hN rn 2 (by omega) (by omega)]
    exact tl_X5_setSun76 G hW (by omega) hvs hM hC h0 hf0 (hv ⟨by omega, hvs⟩)
