/-! ===== the reference: fulfilled ===== -/
theorem ddv_ok (x y : Int32) (h : ¬ y = 0) : vf_n64 (FP.ddiv (FP.i2d x) (FP.i2d y)) := by
  have h1 : FP.Core.dIsNaN (FP.ddiv (FP.i2d x) (FP.i2d y)) = false := by
    refine FP.Core.ddiv_out ?_ (FP.Core.i2d_fin y) ?_
    · have h2 := (FP.Core.fin_bits _).mp (FP.Core.i2d_fin x)
      cases h3 : FP.Core.dIsNaN (FP.i2d x) with
      | false => rfl
      | true =>
        have h4 := (FP.Core.isNaN_bits _).mp h3
        exact absurd h4 (by show ¬ _ < (FP.Core.i2d x).toNat % 2 ^ 63; omega)
    · intro hz
      have h2 := FP.Core.i2d_ne_zero (v := y) h
      exact h2 ((FP.Core.zero_bits2 _).mp hz)
  unfold vf_n64
  have h2 : ¬ 9218868437227405312 < (FP.ddiv (FP.i2d x) (FP.i2d y)).toNat % 2 ^ 63 := fun q => by
    have := (FP.Core.isNaN_bits _).mpr q
    rw [h1] at this
    cases this
  rw [UInt64.le_iff_toNat_le, UInt64.toNat_and]
  rw [show (0x7fffffffffffffff : UInt64).toNat = 2 ^ 63 - 1 from rfl, Nat.and_two_pow_sub_one_eq_mod]
  show _ ≤ 9218868437227405312
  omega
def flA (S : SS) (n : Nat) : Int := sumN (fun l => sumN (fun r => if hasH S l r = true then S.lf l 4 else 0) 12) n
def flG (S : SS) (n : Nat) : Int := sumN (fun l => sumN (fun r => gts S l r) 12) n
def flV (S : SS) : UInt64 := if flA S S.nl = 0 then 0x3ff0000000000000 else FP.ddiv (FP.i2d (i32 (flG S S.nl))) (FP.i2d (i32 (flA S S.nl)))
def ct_X5_fulfilled (A : Nat → Nat) (S : SS) : Ct := fun As h Q _ => sR As fun m r => s0 r (MD h m A S ∧ MC h A S ∧ Q (some (.double (flV S))) (t0 h m))
def ce_X5_fulfilled (A : Nat → Nat) (S : SS) : CE := (0, yX5_fulfilled, MX5_fulfilled, 0, 5, 0, 0, ct_X5_fulfilled A S)
theorem flA_b {S : SS} (hW : WF S) (n : Nat) (hn : n ≤ S.nl) : 0 ≤ flA S n ∧ flA S n ≤ 28800 := by
  have hnl := hW.2.1
  have h1 : ∀ l, l < n → 0 ≤ sumN (fun r => if hasH S l r = true then S.lf l 4 else 0) 12 ∧ sumN (fun r => if hasH S l r = true then S.lf l 4 else 0) 12 ≤ 720 := fun l hl => by
    have hL := hW.2.2.2.1 l (by omega)
    have a1 := sumN_le (f := fun r => if hasH S l r = true then S.lf l 4 else 0) (m := 60) 12 (fun i _ => by split <;> omega)
    have a2 := sumN_ge (f := fun r => if hasH S l r = true then S.lf l 4 else 0) (m := 0) 12 (fun i _ => by split <;> omega)
    omega
  have a1 := sumN_le (f := fun l => sumN (fun r => if hasH S l r = true then S.lf l 4 else 0) 12) (m := 720) n (fun i hi => (h1 i hi).2)
  have a2 := sumN_ge (f := fun l => sumN (fun r => if hasH S l r = true then S.lf l 4 else 0) 12) (m := 0) n (fun i hi => (h1 i hi).1)
  unfold flA
  omega
set_option maxRecDepth 100000 in
set_option maxHeartbeats 4000000 in
theorem lp_X5_fulfilled22 (G : GT) {A : Nat → Nat} {S : SS} (hW : WF S) {h : Hp} {m l : Nat} {a g : Int} {Q : Option Value → Hp → Prop} {QX : String → Hp → Prop} (hl : l < S.nl) (hM : MD h m A S) (hC : MC h A S)
    (hz : ∀ o4, Wp G MX5_fulfilled false 5 Q QX 11 [some (.ref m), some (.int (i32 (a + sumN (fun r => if hasH S l r = true then S.lf l 4 else 0) 12))), some (.int (i32 (g + sumN (fun r => gts S l r) 12))), some (.int (i32 (l + 1))), o4] [] h (0, 0)) :
    ∀ k r : Nat, r + k = 12 → Wp G MX5_fulfilled false 5 Q QX 22 [some (.ref m), some (.int (i32 (a + sumN (fun r => if hasH S l r = true then S.lf l 4 else 0) r))), some (.int (i32 (g + sumN (fun r => gts S l r) r))), some (.int (i32 l)), some (.int (i32 r))] [] h (0, 0) := by
  have hnl := hW.2.1
  have hM0 := hM
  obtain ⟨⟨hk, hA, hJ⟩, fd, fe, fb, fl, hB, hL, hN, hG, hP⟩ := hM0
  obtain ⟨a5, k5, l5⟩ := hA 5 (by omega) (by omega)
  obtain ⟨a6, k6, l6⟩ := hA 6 (by omega) (by omega)
  obtain ⟨a7, k7, l7⟩ := hA 7 (by omega) (by omega)
  obtain ⟨a8, k8, l8⟩ := hA 8 (by omega) (by omega)
  obtain ⟨a9, k9, l9⟩ := hA 9 (by omega) (by omega)
  obtain ⟨a10, k10, l10⟩ := hA 10 (by omega) (by omega)
  obtain ⟨a11, k11, l11⟩ := hA 11 (by omega) (by omega)
  simp only [mLen] at l5 l6 l7 l8 l9 l10 l11
  intro k
  induction k with
  | zero =>
    intro r hr
    have e : r = 12 := by omega
    subst e
    refine wpW (cs := [(108, ce_X5_has A S), (86, ce_X5_get A S), (126, ce_X5_getsOf A S)]) (stop := [11, 22]) (n := 200) (env_cons (ceV (by decide +kernel) ⟨by decide, by decide, by decide +kernel⟩ (by decide) rfl (ok_X5_has G A S hW)) (env_cons (ceV (by decide +kernel) ⟨by decide, by decide, by decide +kernel⟩ (by decide) rfl (ok_X5_get G A S hW)) (env_cons (ceV (by decide +kernel) ⟨by decide, by decide, by decide +kernel⟩ (by decide) rfl (ok_X5_getsOf G A S hW)) (env_nil0 (env_hh rfl))))) ?_
    simp only [↓wpN_S, ↓step_u, ↓stC_s, stC_s, ↓stF_u, stF_u, ↓stepI, lenI, ↓kN_u, isS, ↓gI_0, ↓gI_S, ↓gL_0, ↓gL_S, ↓gD_0, ↓gD_S, ↓gR_0, ↓gR_S, ↓sI_c, ↓sL_c, ↓sD_c, ↓sR_c, ↓s1_r, ↓s1_i, ↓vR_r, ↓vR_n, ↓s0_n, s0_n, ↓oR_u, ↓sP_u, ↓sPa_0, ↓sPa_S, ↓lkC_c, ↓callK_u, ↓cQ_s, ↓cQ_n, putL, putW, clr, kil, catS, catN, refF, booF, finF, nF, nmOf_0, nmOf_1, nmOf_2, nmOf_3, nmOf_4, nmOf_5, nmOf_6, nmOf_50, nmOf_51, nmOf_52, ↓reduceIte, reduceIte, Bool.false_eq_true, eq_self, true_or, or_true, true_and, and_true, false_or, or_false, Nat.reduceAdd, Nat.reduceSub, Nat.reduceEqDiff, Nat.reduceLT, Nat.reduceLeDiff, reduceCtorEq, true_implies, List.length_cons, List.length_nil, List.replicate, List.cons_append, List.nil_append, mrt_X5_fulfilled, mhh_X5_fulfilled, mow_X5_fulfilled, mnl_X5_fulfilled, DX5_fulfilled_0, DX5_fulfilled_1, DX5_fulfilled_2, DX5_fulfilled_5, DX5_fulfilled_6, DX5_fulfilled_7, DX5_fulfilled_8, DX5_fulfilled_9, DX5_fulfilled_10, DX5_fulfilled_11, DX5_fulfilled_12, DX5_fulfilled_13, DX5_fulfilled_16, DX5_fulfilled_19, DX5_fulfilled_20, DX5_fulfilled_22, DX5_fulfilled_24, DX5_fulfilled_26, DX5_fulfilled_29, DX5_fulfilled_30, DX5_fulfilled_31, DX5_fulfilled_32, DX5_fulfilled_34, DX5_fulfilled_37, DX5_fulfilled_40, DX5_fulfilled_41, DX5_fulfilled_42, DX5_fulfilled_43, DX5_fulfilled_46, DX5_fulfilled_49, DX5_fulfilled_50, DX5_fulfilled_51, DX5_fulfilled_52, DX5_fulfilled_53, DX5_fulfilled_54, DX5_fulfilled_55, DX5_fulfilled_57, DX5_fulfilled_60, DX5_fulfilled_61, DX5_fulfilled_62, DX5_fulfilled_65, DX5_fulfilled_68, DX5_fulfilled_71, DX5_fulfilled_74, DX5_fulfilled_75, DX5_fulfilled_78, DX5_fulfilled_79, DX5_fulfilled_82, DX5_fulfilled_83, DX5_fulfilled_84, DX5_fulfilled_85, DX5_fulfilled_86, DX5_fulfilled_87, ce_X5_has, ↓ct_X5_has, ycl_X5_has, ce_X5_get, ↓ct_X5_get, ycl_X5_get, ce_X5_getsOf, ↓ct_X5_getsOf, ycl_X5_getsOf, cX_nil mhh_X5_fulfilled]
    simp (disch := omega) only [i32_lit, i32_neg, i32_add, i32_mul, i32_sub, i32_nI, i32_lt, i32_le, i32_eq, inR_i, i32_clamp, i32_div, i32_max, i32_min, ite_max, ite_min, b2i_0, b2i_1, b2i_01, i32_toInt, tn_i, Int.toNat_natCast, em_t, true_and, and_true, Int.reduceToNat, Int.reduceLE, Int.reduceLT, Int.reduceAdd, Int.reduceMul, Int.reduceSub, Int.reduceNeg, Int.reduceEq, true_implies, not_true_eq_false, false_implies, not_false_eq_true, hM, hk, fd, fe, fb, fl, a5, k5, l5, a6, k6, l6, a7, k7, l7, a8, k8, l8, a9, k9, l9, a10, k10, l10, a11, k11, l11, true_and, and_true, Option.some.injEq, exists_eq_left', nmOf_0, nmOf_1, nmOf_2, nmOf_3, nmOf_4, nmOf_5, nmOf_6, Nat.add_sub_cancel, Nat.reduceSub, Nat.reduceLT, Nat.reduceEqDiff, ne_eq, not_false_eq_true, hC]
    exact ⟨fun _ => hz _, fun h2 => by omega⟩
  | succ k ih =>
    intro r hr
    have hs := ih (r + 1) (by omega)
    rw [sumN, sumN, ← Int.add_assoc, ← Int.add_assoc] at hs
    refine wpW (cs := [(108, ce_X5_has A S), (86, ce_X5_get A S), (126, ce_X5_getsOf A S)]) (stop := [11, 22]) (n := 200) (env_cons (ceV (by decide +kernel) ⟨by decide, by decide, by decide +kernel⟩ (by decide) rfl (ok_X5_has G A S hW)) (env_cons (ceV (by decide +kernel) ⟨by decide, by decide, by decide +kernel⟩ (by decide) rfl (ok_X5_get G A S hW)) (env_cons (ceV (by decide +kernel) ⟨by decide, by decide, by decide +kernel⟩ (by decide) rfl (ok_X5_getsOf G A S hW)) (env_nil0 (env_hh rfl))))) ?_
    simp only [↓wpN_S, ↓step_u, ↓stC_s, stC_s, ↓stF_u, stF_u, ↓stepI, lenI, ↓kN_u, isS, ↓gI_0, ↓gI_S, ↓gL_0, ↓gL_S, ↓gD_0, ↓gD_S, ↓gR_0, ↓gR_S, ↓sI_c, ↓sL_c, ↓sD_c, ↓sR_c, ↓s1_r, ↓s1_i, ↓vR_r, ↓vR_n, ↓s0_n, s0_n, ↓oR_u, ↓sP_u, ↓sPa_0, ↓sPa_S, ↓lkC_c, ↓callK_u, ↓cQ_s, ↓cQ_n, putL, putW, clr, kil, catS, catN, refF, booF, finF, nF, nmOf_0, nmOf_1, nmOf_2, nmOf_3, nmOf_4, nmOf_5, nmOf_6, nmOf_50, nmOf_51, nmOf_52, ↓reduceIte, reduceIte, Bool.false_eq_true, eq_self, true_or, or_true, true_and, and_true, false_or, or_false, Nat.reduceAdd, Nat.reduceSub, Nat.reduceEqDiff, Nat.reduceLT, Nat.reduceLeDiff, reduceCtorEq, true_implies, List.length_cons, List.length_nil, List.replicate, List.cons_append, List.nil_append, mrt_X5_fulfilled, mhh_X5_fulfilled, mow_X5_fulfilled, mnl_X5_fulfilled, DX5_fulfilled_0, DX5_fulfilled_1, DX5_fulfilled_2, DX5_fulfilled_5, DX5_fulfilled_6, DX5_fulfilled_7, DX5_fulfilled_8, DX5_fulfilled_9, DX5_fulfilled_10, DX5_fulfilled_11, DX5_fulfilled_12, DX5_fulfilled_13, DX5_fulfilled_16, DX5_fulfilled_19, DX5_fulfilled_20, DX5_fulfilled_22, DX5_fulfilled_24, DX5_fulfilled_26, DX5_fulfilled_29, DX5_fulfilled_30, DX5_fulfilled_31, DX5_fulfilled_32, DX5_fulfilled_34, DX5_fulfilled_37, DX5_fulfilled_40, DX5_fulfilled_41, DX5_fulfilled_42, DX5_fulfilled_43, DX5_fulfilled_46, DX5_fulfilled_49, DX5_fulfilled_50, DX5_fulfilled_51, DX5_fulfilled_52, DX5_fulfilled_53, DX5_fulfilled_54, DX5_fulfilled_55, DX5_fulfilled_57, DX5_fulfilled_60, DX5_fulfilled_61, DX5_fulfilled_62, DX5_fulfilled_65, DX5_fulfilled_68, DX5_fulfilled_71, DX5_fulfilled_74, DX5_fulfilled_75, DX5_fulfilled_78, DX5_fulfilled_79, DX5_fulfilled_82, DX5_fulfilled_83, DX5_fulfilled_84, DX5_fulfilled_85, DX5_fulfilled_86, DX5_fulfilled_87, ce_X5_has, ↓ct_X5_has, ycl_X5_has, ce_X5_get, ↓ct_X5_get, ycl_X5_get, ce_X5_getsOf, ↓ct_X5_getsOf, ycl_X5_getsOf, cX_nil mhh_X5_fulfilled]
    simp (disch := omega) only [i32_lit, i32_neg, i32_add, i32_mul, i32_sub, i32_nI, i32_lt, i32_le, i32_eq, inR_i, i32_clamp, i32_div, i32_max, i32_min, ite_max, ite_min, b2i_0, b2i_1, b2i_01, i32_toInt, tn_i, Int.toNat_natCast, em_t, true_and, and_true, Int.reduceToNat, Int.reduceLE, Int.reduceLT, Int.reduceAdd, Int.reduceMul, Int.reduceSub, Int.reduceNeg, Int.reduceEq, true_implies, not_true_eq_false, false_implies, not_false_eq_true, hM, hk, fd, fe, fb, fl, a5, k5, l5, a6, k6, l6, a7, k7, l7, a8, k8, l8, a9, k9, l9, a10, k10, l10, a11, k11, l11, true_and, and_true, Option.some.injEq, exists_eq_left', nmOf_0, nmOf_1, nmOf_2, nmOf_3, nmOf_4, nmOf_5, nmOf_6, Nat.add_sub_cancel, Nat.reduceSub, Nat.reduceLT, Nat.reduceEqDiff, ne_eq, not_false_eq_true, hC]
    rw [show (r : Int) + 1 = ((r + 1 : Nat) : Int) by omega]
    refine ⟨fun h2 => by omega, fun h2 => ⟨by omega, by omega, fun h3 => ⟨by omega, by omega, ?_⟩, fun h3 => ⟨by omega, by omega, by omega, ?_⟩⟩⟩
    · rw [if_neg h3] at hs
      exact hs
    · rw [if_pos (Classical.not_not.mp h3)] at hs
      exact hs
set_option maxRecDepth 100000 in
set_option maxHeartbeats 4000000 in
theorem lp_X5_fulfilled11 (G : GT) {A : Nat → Nat} {S : SS} (hW : WF S) {h : Hp} {m : Nat} {Q : Option Value → Hp → Prop} {QX : String → Hp → Prop} (hM : MD h m A S) (hC : MC h A S) (hq : Q (some (.double (flV S))) h) :
    ∀ k n : Nat, n + k = S.nl → ∀ o4, Wp G MX5_fulfilled false 5 Q QX 11 [some (.ref m), some (.int (i32 (flA S n))), some (.int (i32 (flG S n))), some (.int (i32 n)), o4] [] h (0, 0) := by
  have hnl := hW.2.1
  have hM0 := hM
  obtain ⟨⟨hk, hA, hJ⟩, fd, fe, fb, fl, hB, hL, hN, hG, hP⟩ := hM0
  obtain ⟨a5, k5, l5⟩ := hA 5 (by omega) (by omega)
  obtain ⟨a6, k6, l6⟩ := hA 6 (by omega) (by omega)
  obtain ⟨a7, k7, l7⟩ := hA 7 (by omega) (by omega)
  obtain ⟨a8, k8, l8⟩ := hA 8 (by omega) (by omega)
  obtain ⟨a9, k9, l9⟩ := hA 9 (by omega) (by omega)
  obtain ⟨a10, k10, l10⟩ := hA 10 (by omega) (by omega)
  obtain ⟨a11, k11, l11⟩ := hA 11 (by omega) (by omega)
  simp only [mLen] at l5 l6 l7 l8 l9 l10 l11
  intro k
  induction k with
  | zero =>
    intro n hn o4
    have e : n = S.nl := by omega
    subst e
    have hb := flA_b hW S.nl (Nat.le_refl _)
    unfold flV at hq
    refine wpW (cs := [(108, ce_X5_has A S), (86, ce_X5_get A S), (126, ce_X5_getsOf A S)]) (stop := [11, 22]) (n := 200) (env_cons (ceV (by decide +kernel) ⟨by decide, by decide, by decide +kernel⟩ (by decide) rfl (ok_X5_has G A S hW)) (env_cons (ceV (by decide +kernel) ⟨by decide, by decide, by decide +kernel⟩ (by decide) rfl (ok_X5_get G A S hW)) (env_cons (ceV (by decide +kernel) ⟨by decide, by decide, by decide +kernel⟩ (by decide) rfl (ok_X5_getsOf G A S hW)) (env_nil0 (env_hh rfl))))) ?_
    simp only [↓wpN_S, ↓step_u, ↓stC_s, stC_s, ↓stF_u, stF_u, ↓stepI, lenI, ↓kN_u, isS, ↓gI_0, ↓gI_S, ↓gL_0, ↓gL_S, ↓gD_0, ↓gD_S, ↓gR_0, ↓gR_S, ↓sI_c, ↓sL_c, ↓sD_c, ↓sR_c, ↓s1_r, ↓s1_i, ↓vR_r, ↓vR_n, ↓s0_n, s0_n, ↓oR_u, ↓sP_u, ↓sPa_0, ↓sPa_S, ↓lkC_c, ↓callK_u, ↓cQ_s, ↓cQ_n, putL, putW, clr, kil, catS, catN, refF, booF, finF, nF, nmOf_0, nmOf_1, nmOf_2, nmOf_3, nmOf_4, nmOf_5, nmOf_6, nmOf_50, nmOf_51, nmOf_52, ↓reduceIte, reduceIte, Bool.false_eq_true, eq_self, true_or, or_true, true_and, and_true, false_or, or_false, Nat.reduceAdd, Nat.reduceSub, Nat.reduceEqDiff, Nat.reduceLT, Nat.reduceLeDiff, reduceCtorEq, true_implies, List.length_cons, List.length_nil, List.replicate, List.cons_append, List.nil_append, mrt_X5_fulfilled, mhh_X5_fulfilled, mow_X5_fulfilled, mnl_X5_fulfilled, DX5_fulfilled_0, DX5_fulfilled_1, DX5_fulfilled_2, DX5_fulfilled_5, DX5_fulfilled_6, DX5_fulfilled_7, DX5_fulfilled_8, DX5_fulfilled_9, DX5_fulfilled_10, DX5_fulfilled_11, DX5_fulfilled_12, DX5_fulfilled_13, DX5_fulfilled_16, DX5_fulfilled_19, DX5_fulfilled_20, DX5_fulfilled_22, DX5_fulfilled_24, DX5_fulfilled_26, DX5_fulfilled_29, DX5_fulfilled_30, DX5_fulfilled_31, DX5_fulfilled_32, DX5_fulfilled_34, DX5_fulfilled_37, DX5_fulfilled_40, DX5_fulfilled_41, DX5_fulfilled_42, DX5_fulfilled_43, DX5_fulfilled_46, DX5_fulfilled_49, DX5_fulfilled_50, DX5_fulfilled_51, DX5_fulfilled_52, DX5_fulfilled_53, DX5_fulfilled_54, DX5_fulfilled_55, DX5_fulfilled_57, DX5_fulfilled_60, DX5_fulfilled_61, DX5_fulfilled_62, DX5_fulfilled_65, DX5_fulfilled_68, DX5_fulfilled_71, DX5_fulfilled_74, DX5_fulfilled_75, DX5_fulfilled_78, DX5_fulfilled_79, DX5_fulfilled_82, DX5_fulfilled_83, DX5_fulfilled_84, DX5_fulfilled_85, DX5_fulfilled_86, DX5_fulfilled_87, ce_X5_has, ↓ct_X5_has, ycl_X5_has, ce_X5_get, ↓ct_X5_get, ycl_X5_get, ce_X5_getsOf, ↓ct_X5_getsOf, ycl_X5_getsOf, cX_nil mhh_X5_fulfilled]
    simp (disch := omega) only [i32_lit, i32_neg, i32_add, i32_mul, i32_sub, i32_nI, i32_lt, i32_le, i32_eq, inR_i, i32_clamp, i32_div, i32_max, i32_min, ite_max, ite_min, b2i_0, b2i_1, b2i_01, i32_toInt, tn_i, Int.toNat_natCast, em_t, true_and, and_true, Int.reduceToNat, Int.reduceLE, Int.reduceLT, Int.reduceAdd, Int.reduceMul, Int.reduceSub, Int.reduceNeg, Int.reduceEq, true_implies, not_true_eq_false, false_implies, not_false_eq_true, hM, hk, fd, fe, fb, fl, a5, k5, l5, a6, k6, l6, a7, k7, l7, a8, k8, l8, a9, k9, l9, a10, k10, l10, a11, k11, l11, true_and, and_true, Option.some.injEq, exists_eq_left', nmOf_0, nmOf_1, nmOf_2, nmOf_3, nmOf_4, nmOf_5, nmOf_6, Nat.add_sub_cancel, Nat.reduceSub, Nat.reduceLT, Nat.reduceEqDiff, ne_eq, not_false_eq_true]
    refine ⟨fun _ => ⟨fun h2 => ⟨ddv_ok _ _ ?_, ?_⟩, fun h2 => ?_⟩, fun h2 => by omega⟩
    · rw [show (0 : Int32) = i32 0 from rfl, i32_eq (by omega) (by omega)]
      exact h2
    · rw [if_neg h2] at hq
      exact hq
    · rw [if_neg (by omega)]
      rw [if_pos h2] at hq
      exact hq
  | succ k ih =>
    intro n hn o4
    have hs := ih (n + 1) (by omega)
    unfold flA flG at hs ⊢
    rw [sumN, sumN] at hs
    have hr := lp_X5_fulfilled22 (Q := Q) (QX := QX) G hW (show n < S.nl by omega) hM hC hs 12 0 (by omega)
    rw [show sumN (fun r => if hasH S n r = true then S.lf n 4 else 0) 0 = 0 from rfl, show sumN (fun r => gts S n r) 0 = 0 from rfl, Int.add_zero, Int.add_zero] at hr
    refine wpW (cs := [(108, ce_X5_has A S), (86, ce_X5_get A S), (126, ce_X5_getsOf A S)]) (stop := [11, 22]) (n := 200) (env_cons (ceV (by decide +kernel) ⟨by decide, by decide, by decide +kernel⟩ (by decide) rfl (ok_X5_has G A S hW)) (env_cons (ceV (by decide +kernel) ⟨by decide, by decide, by decide +kernel⟩ (by decide) rfl (ok_X5_get G A S hW)) (env_cons (ceV (by decide +kernel) ⟨by decide, by decide, by decide +kernel⟩ (by decide) rfl (ok_X5_getsOf G A S hW)) (env_nil0 (env_hh rfl))))) ?_
    simp only [↓wpN_S, ↓step_u, ↓stC_s, stC_s, ↓stF_u, stF_u, ↓stepI, lenI, ↓kN_u, isS, ↓gI_0, ↓gI_S, ↓gL_0, ↓gL_S, ↓gD_0, ↓gD_S, ↓gR_0, ↓gR_S, ↓sI_c, ↓sL_c, ↓sD_c, ↓sR_c, ↓s1_r, ↓s1_i, ↓vR_r, ↓vR_n, ↓s0_n, s0_n, ↓oR_u, ↓sP_u, ↓sPa_0, ↓sPa_S, ↓lkC_c, ↓callK_u, ↓cQ_s, ↓cQ_n, putL, putW, clr, kil, catS, catN, refF, booF, finF, nF, nmOf_0, nmOf_1, nmOf_2, nmOf_3, nmOf_4, nmOf_5, nmOf_6, nmOf_50, nmOf_51, nmOf_52, ↓reduceIte, reduceIte, Bool.false_eq_true, eq_self, true_or, or_true, true_and, and_true, false_or, or_false, Nat.reduceAdd, Nat.reduceSub, Nat.reduceEqDiff, Nat.reduceLT, Nat.reduceLeDiff, reduceCtorEq, true_implies, List.length_cons, List.length_nil, List.replicate, List.cons_append, List.nil_append, mrt_X5_fulfilled, mhh_X5_fulfilled, mow_X5_fulfilled, mnl_X5_fulfilled, DX5_fulfilled_0, DX5_fulfilled_1, DX5_fulfilled_2, DX5_fulfilled_5, DX5_fulfilled_6, DX5_fulfilled_7, DX5_fulfilled_8, DX5_fulfilled_9, DX5_fulfilled_10, DX5_fulfilled_11, DX5_fulfilled_12, DX5_fulfilled_13, DX5_fulfilled_16, DX5_fulfilled_19, DX5_fulfilled_20, DX5_fulfilled_22, DX5_fulfilled_24, DX5_fulfilled_26, DX5_fulfilled_29, DX5_fulfilled_30, DX5_fulfilled_31, DX5_fulfilled_32, DX5_fulfilled_34, DX5_fulfilled_37, DX5_fulfilled_40, DX5_fulfilled_41, DX5_fulfilled_42, DX5_fulfilled_43, DX5_fulfilled_46, DX5_fulfilled_49, DX5_fulfilled_50, DX5_fulfilled_51, DX5_fulfilled_52, DX5_fulfilled_53, DX5_fulfilled_54, DX5_fulfilled_55, DX5_fulfilled_57, DX5_fulfilled_60, DX5_fulfilled_61, DX5_fulfilled_62, DX5_fulfilled_65, DX5_fulfilled_68, DX5_fulfilled_71, DX5_fulfilled_74, DX5_fulfilled_75, DX5_fulfilled_78, DX5_fulfilled_79, DX5_fulfilled_82, DX5_fulfilled_83, DX5_fulfilled_84, DX5_fulfilled_85, DX5_fulfilled_86, DX5_fulfilled_87, ce_X5_has, ↓ct_X5_has, ycl_X5_has, ce_X5_get, ↓ct_X5_get, ycl_X5_get, ce_X5_getsOf, ↓ct_X5_getsOf, ycl_X5_getsOf, cX_nil mhh_X5_fulfilled]
    simp (disch := omega) only [i32_lit, i32_neg, i32_add, i32_mul, i32_sub, i32_nI, i32_lt, i32_le, i32_eq, inR_i, i32_clamp, i32_div, i32_max, i32_min, ite_max, ite_min, b2i_0, b2i_1, b2i_01, i32_toInt, tn_i, Int.toNat_natCast, em_t, true_and, and_true, Int.reduceToNat, Int.reduceLE, Int.reduceLT, Int.reduceAdd, Int.reduceMul, Int.reduceSub, Int.reduceNeg, Int.reduceEq, true_implies, not_true_eq_false, false_implies, not_false_eq_true, hM, hk, fd, fe, fb, fl, a5, k5, l5, a6, k6, l6, a7, k7, l7, a8, k8, l8, a9, k9, l9, a10, k10, l10, a11, k11, l11, true_and, and_true, Option.some.injEq, exists_eq_left', nmOf_0, nmOf_1, nmOf_2, nmOf_3, nmOf_4, nmOf_5, nmOf_6, Nat.add_sub_cancel, Nat.reduceSub, Nat.reduceLT, Nat.reduceEqDiff, ne_eq, not_false_eq_true]
    exact ⟨fun h2 => by omega, fun h2 => hr⟩
set_option maxRecDepth 100000 in
set_option maxHeartbeats 4000000 in
theorem ok_X5_fulfilled (G : GT) (A : Nat → Nat) (S : SS) (hW : WF S) : OKm G yX5_fulfilled MX5_fulfilled 5 0 0 (ct_X5_fulfilled A S) := by
  refine mkOK (ini := false) (by decide) rfl (by first | exact fun _ => rfl | (intro hh; cases hh)) (fun As h Q QX hc => ?_)
  replace hc := sR_e hc; obtain ⟨m, r, rfl, hc⟩ := hc
  replace hc := s0_e hc; obtain ⟨rfl, hc⟩ := hc
  obtain ⟨hM, hC, hv⟩ := hc
  have hk := hM.1.1
  replace hM : MD (t0 h m) m A S := MD_s0 hM
  replace hC : MC (t0 h m) A S := hC
  refine ⟨Nat.le_of_ble_eq_true rfl, ?_⟩
  simp only [ent, entL, catN, List.length_cons, List.length_nil, List.replicate, List.cons_append, List.nil_append, reduceIte, Nat.reduceEqDiff,  Nat.reduceAdd, Nat.reduceSub, mnl_X5_fulfilled]
  refine wpW (cs := [(108, ce_X5_has A S), (86, ce_X5_get A S), (126, ce_X5_getsOf A S)]) (stop := [11]) (n := 200) (env_cons (ceV (by decide +kernel) ⟨by decide, by decide, by decide +kernel⟩ (by decide) rfl (ok_X5_has G A S hW)) (env_cons (ceV (by decide +kernel) ⟨by decide, by decide, by decide +kernel⟩ (by decide) rfl (ok_X5_get G A S hW)) (env_cons (ceV (by decide +kernel) ⟨by decide, by decide, by decide +kernel⟩ (by decide) rfl (ok_X5_getsOf G A S hW)) (env_nil0 (env_hh rfl))))) ?_
  simp only [↓wpN_S, ↓step_u, ↓stC_s, stC_s, ↓stF_u, stF_u, ↓stepI, lenI, ↓kN_u, isS, ↓gI_0, ↓gI_S, ↓gL_0, ↓gL_S, ↓gD_0, ↓gD_S, ↓gR_0, ↓gR_S, ↓sI_c, ↓sL_c, ↓sD_c, ↓sR_c, ↓s1_r, ↓s1_i, ↓vR_r, ↓vR_n, ↓s0_n, s0_n, ↓oR_u, ↓sP_u, ↓sPa_0, ↓sPa_S, ↓lkC_c, ↓callK_u, ↓cQ_s, ↓cQ_n, putL, putW, clr, kil, catS, catN, refF, booF, finF, nF, nmOf_0, nmOf_1, nmOf_2, nmOf_3, nmOf_4, nmOf_5, nmOf_6, nmOf_50, nmOf_51, nmOf_52, ↓reduceIte, reduceIte, Bool.false_eq_true, eq_self, true_or, or_true, true_and, and_true, false_or, or_false, Nat.reduceAdd, Nat.reduceSub, Nat.reduceEqDiff, Nat.reduceLT, Nat.reduceLeDiff, reduceCtorEq, true_implies, List.length_cons, List.length_nil, List.replicate, List.cons_append, List.nil_append, mrt_X5_fulfilled, mhh_X5_fulfilled, mow_X5_fulfilled, mnl_X5_fulfilled, DX5_fulfilled_0, DX5_fulfilled_1, DX5_fulfilled_2, DX5_fulfilled_5, DX5_fulfilled_6, DX5_fulfilled_7, DX5_fulfilled_8, DX5_fulfilled_9, DX5_fulfilled_10, DX5_fulfilled_11, DX5_fulfilled_12, DX5_fulfilled_13, DX5_fulfilled_16, DX5_fulfilled_19, DX5_fulfilled_20, DX5_fulfilled_22, DX5_fulfilled_24, DX5_fulfilled_26, DX5_fulfilled_29, DX5_fulfilled_30, DX5_fulfilled_31, DX5_fulfilled_32, DX5_fulfilled_34, DX5_fulfilled_37, DX5_fulfilled_40, DX5_fulfilled_41, DX5_fulfilled_42, DX5_fulfilled_43, DX5_fulfilled_46, DX5_fulfilled_49, DX5_fulfilled_50, DX5_fulfilled_51, DX5_fulfilled_52, DX5_fulfilled_53, DX5_fulfilled_54, DX5_fulfilled_55, DX5_fulfilled_57, DX5_fulfilled_60, DX5_fulfilled_61, DX5_fulfilled_62, DX5_fulfilled_65, DX5_fulfilled_68, DX5_fulfilled_71, DX5_fulfilled_74, DX5_fulfilled_75, DX5_fulfilled_78, DX5_fulfilled_79, DX5_fulfilled_82, DX5_fulfilled_83, DX5_fulfilled_84, DX5_fulfilled_85, DX5_fulfilled_86, DX5_fulfilled_87, ce_X5_has, ↓ct_X5_has, ycl_X5_has, ce_X5_get, ↓ct_X5_get, ycl_X5_get, ce_X5_getsOf, ↓ct_X5_getsOf, ycl_X5_getsOf, cX_nil mhh_X5_fulfilled]
  simp only [hk, true_and, false_implies]
  exact lp_X5_fulfilled11 (Q := Q) (QX := QX) G hW hM hC hv S.nl 0 (Nat.zero_add _) none
