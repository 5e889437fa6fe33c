/-! ===== the reference: tearDown ===== -/
/-- the first n leases: those of b end -/
def SS.eL (S : SS) (b n : Nat) : SS := (S.1, S.2.1, S.2.2.1, fun l k => if (l < n ∧ k = 6) ∧ S.lf l 0 = b then 0 else S.lf l k, S.2.2.2.2)
theorem lf_eL {S : SS} {b n l k : Nat} : (S.eL b n).lf l k = if (l < n ∧ k = 6) ∧ S.lf l 0 = b then 0 else S.lf l k := rfl
theorem eL_0 {S : SS} {b : Nat} : S.eL b 0 = S := SS_ext rfl rfl (fun _ _ => rfl) (fun l k => by rw [lf_eL, if_neg (by omega)]) (fun _ _ => rfl) (fun _ => rfl) (fun _ => rfl) rfl rfl
theorem eL_s {S : SS} {b n : Nat} (h : S.lf n 0 = b) : (S.eL b n).uL n 6 0 = S.eL b (n + 1) := by
  refine SS_ext rfl rfl (fun _ _ => rfl) (fun l k => ?_) (fun _ _ => rfl) (fun _ => rfl) (fun _ => rfl) rfl rfl
  rw [lf_uL, lf_eL, lf_eL]
  by_cases e : l = n ∧ k = 6
  · rw [if_pos e, if_pos ⟨by omega, by rw [e.1]; exact h⟩]
  · rw [if_neg e]
    by_cases e2 : (l < n ∧ k = 6) ∧ S.lf l 0 = b
    · rw [if_pos e2, if_pos ⟨by omega, e2.2⟩]
    · rw [if_neg e2, if_neg (fun z => e2 ⟨by omega, z.2⟩)]
theorem eL_k {S : SS} {b n : Nat} (h : S.lf n 0 ≠ b) : S.eL b n = S.eL b (n + 1) := by
  refine SS_ext rfl rfl (fun _ _ => rfl) (fun l k => ?_) (fun _ _ => rfl) (fun _ => rfl) (fun _ => rfl) rfl rfl
  rw [lf_eL, lf_eL]
  by_cases e2 : (l < n ∧ k = 6) ∧ S.lf l 0 = b
  · rw [if_pos e2, if_pos ⟨by omega, e2.2⟩]
  · rw [if_neg e2, if_neg (fun z => e2 ⟨⟨by rcases Nat.lt_or_ge l n with q | q; exact q; exact absurd z.2 (by rw [show l = n by omega]; exact h), z.1.2⟩, z.2⟩)]
theorem WF_eL {S : SS} {b n : Nat} (hW : WF S) : WF (S.eL b n) := by
  obtain ⟨a1, a2, a3, a4, a5, a6, a7, a8⟩ := hW
  refine ⟨a1, a2, a3, fun l hl => ?_, a5, a6, a7, a8⟩
  have h := a4 l hl
  have e2 : (S.eL b n).nb = S.nb := rfl
  simp only [lf_eL, e2, Nat.reduceEqDiff, and_false, false_and, if_false, and_true]
  by_cases q : l < n ∧ S.lf l 0 = b
  · rw [if_pos q]; omega
  · rw [if_neg q]; exact h
theorem bf_uB {S : SS} {b k i q : Nat} {v : Int} : (S.uB b k v).bf i q = if i = b ∧ q = k then v else S.bf i q := rfl
theorem cov_uB6 {S : SS} {b i : Nat} {x y : Int} : cov (S.uB b 6 0) i x y = if i = b then false else cov S i x y := by
  unfold cov
  simp only [bf_uB, Nat.reduceEqDiff, and_false, if_false, and_true]
  by_cases e : i = b
  · rw [if_pos e, if_pos e]; simp
  · rw [if_neg e, if_neg e]
theorem WF_uB6 {S : SS} {b : Nat} (hW : WF S) : WF (S.uB b 6 0) := by
  obtain ⟨a1, a2, a3, a4, a5, a6, a7, a8⟩ := hW
  refine ⟨a1, a2, fun i hi => ?_, a4, a5, a6, a7, fun b1 b2 x y h1 h2 h3 h4 => ?_⟩
  · have := a3 i hi
    simp only [bf_uB, Nat.reduceEqDiff, and_false, if_false, and_true]
    by_cases z : i = b
    · simp only [z, if_true, true_or, and_true]; subst z; omega
    · simp only [z, if_false]; exact this
  · rw [cov_uB6] at h3 h4
    by_cases e1 : b1 = b
    · rw [if_pos e1] at h3; cases h3
    · by_cases e2 : b2 = b
      · rw [if_pos e2] at h4; cases h4
      · rw [if_neg e1] at h3; rw [if_neg e2] at h4
        exact a8 b1 b2 x y h1 h2 h3 h4
def ct_X5_tearDown (A : Nat → Nat) (S : SS) : Ct := fun As h Q _ => sR As fun m r => sI r fun b r => s0 r (MD h m A S ∧ MC h A S ∧ ((0 ≤ b.toInt ∧ b.toInt < S.nb) ∧ S.bf (tn b) 6 = 1 → nxt (t0 h m) m A ((S.eL (tn b) S.nl).uB (tn b) 6 0) Q (lsOf S (tn b))) ∧ (¬ ((0 ≤ b.toInt ∧ b.toInt < S.nb) ∧ S.bf (tn b) 6 = 1) → Q (some (.int (i32 0))) (tX h m 1)))
def ce_X5_tearDown (A : Nat → Nat) (S : SS) : CE := (0, yX5_tearDown, MX5_tearDown, 1, 7, 0, 0, ct_X5_tearDown A S)
set_option maxRecDepth 100000 in
set_option maxHeartbeats 4000000 in
theorem tl_X5_tearDown72 (G : GT) {A : Nat → Nat} {S : SS} (hW : WF S) {h : Hp} {m : Nat} {l1 r : Int32} {o : Option Value} {Q : Option Value → Hp → Prop} {QX : String → Hp → Prop} (hM : MD h m A S) (hq : ∀ h', MFr h h' A → MC h' A S → Q (some (.int r)) h') :
    Wp G MX5_tearDown false 7 Q QX 72 [some (.ref m), some (.int l1), some (.int r), o] [] h (0, 0) := by
  have hM0 := hM
  obtain ⟨⟨hk, hA, hJ⟩, fd, fe, fb, fl, hB, hL, hN, hG, hP⟩ := hM0
  obtain ⟨a5, k5, l5⟩ := hA 5 (by omega) (by omega)
  obtain ⟨a6, k6, l6⟩ := hA 6 (by omega) (by omega)
  obtain ⟨a7, k7, l7⟩ := hA 7 (by omega) (by omega)
  obtain ⟨a8, k8, l8⟩ := hA 8 (by omega) (by omega)
  obtain ⟨a9, k9, l9⟩ := hA 9 (by omega) (by omega)
  obtain ⟨a10, k10, l10⟩ := hA 10 (by omega) (by omega)
  obtain ⟨a11, k11, l11⟩ := hA 11 (by omega) (by omega)
  simp only [mLen] at l5 l6 l7 l8 l9 l10 l11
  refine wpW (cs := [(54, ce_X5_stands A S), (67, ce_X5_fail), (80, ce_X5_leasesOf A S), (86, ce_X5_get A S), (89, ce_X5_set A S), (77, ce_X5_castAll A S)]) (stop := [100]) (n := 200) (env_cons (ceV (by decide +kernel) ⟨by decide, by decide, by decide +kernel⟩ (by decide) rfl (ok_X5_stands G A S hW)) (env_cons (ceV (by decide +kernel) ⟨by decide, by decide, by decide +kernel⟩ (by decide) rfl (ok_X5_fail G)) (env_cons (ceV (by decide +kernel) ⟨by decide, by decide, by decide +kernel⟩ (by decide) rfl (ok_X5_leasesOf G A S hW)) (env_cons (ceV (by decide +kernel) ⟨by decide, by decide, by decide +kernel⟩ (by decide) rfl (ok_X5_get G A S hW)) (env_cons (ceV (by decide +kernel) ⟨by decide, by decide, by decide +kernel⟩ (by decide) rfl (ok_X5_set G A S hW)) (env_cons (ceV (by decide +kernel) ⟨by decide, by decide, by decide +kernel⟩ (by decide) rfl (ok_X5_castAll G A S hW)) (env_nil0 (env_hh rfl)))))))) ?_
  simp only [↓wpN_S, ↓step_u, ↓stC_s, stC_s, ↓stF_u, stF_u, ↓stepI, lenI, ↓kN_u, isS, ↓gI_0, ↓gI_S, ↓gL_0, ↓gL_S, ↓gD_0, ↓gD_S, ↓gR_0, ↓gR_S, ↓sI_c, ↓sL_c, ↓sD_c, ↓sR_c, ↓s1_r, ↓s1_i, ↓vR_r, ↓vR_n, ↓s0_n, s0_n, ↓oR_u, ↓sP_u, ↓sPa_0, ↓sPa_S, ↓lkC_c, ↓callK_u, ↓cQ_s, ↓cQ_n, putL, putW, clr, kil, catS, catN, refF, booF, finF, nF, nmOf_0, nmOf_1, nmOf_2, nmOf_3, nmOf_4, nmOf_5, nmOf_6, nmOf_50, nmOf_51, nmOf_52, ↓reduceIte, reduceIte, Bool.false_eq_true, eq_self, true_or, or_true, true_and, and_true, false_or, or_false, Nat.reduceAdd, Nat.reduceSub, Nat.reduceEqDiff, Nat.reduceLT, Nat.reduceLeDiff, reduceCtorEq, true_implies, List.length_cons, List.length_nil, List.replicate, List.cons_append, List.nil_append, mrt_X5_tearDown, mhh_X5_tearDown, mow_X5_tearDown, mnl_X5_tearDown, DX5_tearDown_0, DX5_tearDown_1, DX5_tearDown_2, DX5_tearDown_5, DX5_tearDown_6, DX5_tearDown_7, DX5_tearDown_10, DX5_tearDown_13, DX5_tearDown_14, DX5_tearDown_15, DX5_tearDown_18, DX5_tearDown_19, DX5_tearDown_20, DX5_tearDown_21, DX5_tearDown_24, DX5_tearDown_25, DX5_tearDown_26, DX5_tearDown_27, DX5_tearDown_28, DX5_tearDown_29, DX5_tearDown_32, DX5_tearDown_35, DX5_tearDown_36, DX5_tearDown_37, DX5_tearDown_38, DX5_tearDown_41, DX5_tearDown_42, DX5_tearDown_45, DX5_tearDown_46, DX5_tearDown_47, DX5_tearDown_49, DX5_tearDown_50, DX5_tearDown_53, DX5_tearDown_56, DX5_tearDown_59, DX5_tearDown_60, DX5_tearDown_63, DX5_tearDown_65, DX5_tearDown_66, DX5_tearDown_67, DX5_tearDown_69, DX5_tearDown_70, DX5_tearDown_71, DX5_tearDown_72, DX5_tearDown_73, DX5_tearDown_76, DX5_tearDown_77, ce_X5_stands, ↓ct_X5_stands, ycl_X5_stands, ce_X5_fail, ↓ct_X5_fail, ycl_X5_fail, ce_X5_leasesOf, ↓ct_X5_leasesOf, ycl_X5_leasesOf, ce_X5_get, ↓ct_X5_get, ycl_X5_get, ce_X5_set, ↓ct_X5_set, ycl_X5_set, ce_X5_castAll, ↓ct_X5_castAll, ycl_X5_castAll, cX_nil mhh_X5_tearDown]
  simp only [hM, hk, fd, fe, fb, fl, a5, k5, l5, a6, k6, l6, a7, k7, l7, a8, k8, l8, a9, k9, l9, a10, k10, l10, a11, k11, l11, true_and, and_true, Option.some.injEq, exists_eq_left', nmOf_0, nmOf_1, nmOf_2, nmOf_3, nmOf_4, nmOf_5, nmOf_6, Nat.add_sub_cancel, Nat.reduceSub, Nat.reduceLT, Nat.reduceEqDiff, ne_eq, not_false_eq_true]
  exact hq
set_option maxRecDepth 100000 in
set_option maxHeartbeats 4000000 in
theorem lp_X5_tearDown (G : GT) {A : Nat → Nat} {S0 : SS} {h0 : Hp} {m b : Nat} {v : Int32} {Q : Option Value → Hp → Prop} {QX : String → Hp → Prop} (hb : b < S0.nb) (hq : ∀ h', Fr h0 h' (WM m A) → fi h' 6 0 m = i32 0 → MD h' m A ((S0.eL b S0.nl).uB b 6 0) → MC h' A ((S0.eL b S0.nl).uB b 6 0) → Q (some (.int v)) h') :
    ∀ k n : Nat, n + k = S0.nl → ∀ S, S = S0.eL b n → WF S → ∀ h, Fr h0 h (WM m A) → fi h 6 0 m = i32 0 → MD h m A S → Wp G MX5_tearDown false 7 Q QX 27 [some (.ref m), some (.int (i32 b)), some (.int v), some (.int (i32 n))] [] h (0, 0) := by
  intro k
  induction k with
  | zero =>
    intro n hn S e hW h f1 f2 hM
    have hnb := hW.1
    have hnl := hW.2.1
    have e1 : S.nl = S0.nl := by rw [e]; rfl
    have e2 : S.nb = S0.nb := by rw [e]; rfl
    have hM0 := hM
    obtain ⟨⟨hk, hA, hJ⟩, fd, fe, fb, fl, hB, hL, hN, hG, hP⟩ := hM0
    obtain ⟨a5, k5, l5⟩ := hA 5 (by omega) (by omega)
    obtain ⟨a6, k6, l6⟩ := hA 6 (by omega) (by omega)
    obtain ⟨a7, k7, l7⟩ := hA 7 (by omega) (by omega)
    obtain ⟨a8, k8, l8⟩ := hA 8 (by omega) (by omega)
    obtain ⟨a9, k9, l9⟩ := hA 9 (by omega) (by omega)
    obtain ⟨a10, k10, l10⟩ := hA 10 (by omega) (by omega)
    obtain ⟨a11, k11, l11⟩ := hA 11 (by omega) (by omega)
    simp only [mLen] at l5 l6 l7 l8 l9 l10 l11
    refine wpW (cs := [(54, ce_X5_stands A S), (67, ce_X5_fail), (80, ce_X5_leasesOf A S), (86, ce_X5_get A S), (89, ce_X5_set A S), (77, ce_X5_castAll A S)]) (stop := [27, 53, 72]) (n := 200) (env_cons (ceV (by decide +kernel) ⟨by decide, by decide, by decide +kernel⟩ (by decide) rfl (ok_X5_stands G A S hW)) (env_cons (ceV (by decide +kernel) ⟨by decide, by decide, by decide +kernel⟩ (by decide) rfl (ok_X5_fail G)) (env_cons (ceV (by decide +kernel) ⟨by decide, by decide, by decide +kernel⟩ (by decide) rfl (ok_X5_leasesOf G A S hW)) (env_cons (ceV (by decide +kernel) ⟨by decide, by decide, by decide +kernel⟩ (by decide) rfl (ok_X5_get G A S hW)) (env_cons (ceV (by decide +kernel) ⟨by decide, by decide, by decide +kernel⟩ (by decide) rfl (ok_X5_set G A S hW)) (env_cons (ceV (by decide +kernel) ⟨by decide, by decide, by decide +kernel⟩ (by decide) rfl (ok_X5_castAll G A S hW)) (env_nil0 (env_hh rfl)))))))) ?_
    simp only [↓wpN_S, ↓step_u, ↓stC_s, stC_s, ↓stF_u, stF_u, ↓stepI, lenI, ↓kN_u, isS, ↓gI_0, ↓gI_S, ↓gL_0, ↓gL_S, ↓gD_0, ↓gD_S, ↓gR_0, ↓gR_S, ↓sI_c, ↓sL_c, ↓sD_c, ↓sR_c, ↓s1_r, ↓s1_i, ↓vR_r, ↓vR_n, ↓s0_n, s0_n, ↓oR_u, ↓sP_u, ↓sPa_0, ↓sPa_S, ↓lkC_c, ↓callK_u, ↓cQ_s, ↓cQ_n, putL, putW, clr, kil, catS, catN, refF, booF, finF, nF, nmOf_0, nmOf_1, nmOf_2, nmOf_3, nmOf_4, nmOf_5, nmOf_6, nmOf_50, nmOf_51, nmOf_52, ↓reduceIte, reduceIte, Bool.false_eq_true, eq_self, true_or, or_true, true_and, and_true, false_or, or_false, Nat.reduceAdd, Nat.reduceSub, Nat.reduceEqDiff, Nat.reduceLT, Nat.reduceLeDiff, reduceCtorEq, true_implies, List.length_cons, List.length_nil, List.replicate, List.cons_append, List.nil_append, mrt_X5_tearDown, mhh_X5_tearDown, mow_X5_tearDown, mnl_X5_tearDown, DX5_tearDown_0, DX5_tearDown_1, DX5_tearDown_2, DX5_tearDown_5, DX5_tearDown_6, DX5_tearDown_7, DX5_tearDown_10, DX5_tearDown_13, DX5_tearDown_14, DX5_tearDown_15, DX5_tearDown_18, DX5_tearDown_19, DX5_tearDown_20, DX5_tearDown_21, DX5_tearDown_24, DX5_tearDown_25, DX5_tearDown_26, DX5_tearDown_27, DX5_tearDown_28, DX5_tearDown_29, DX5_tearDown_32, DX5_tearDown_35, DX5_tearDown_36, DX5_tearDown_37, DX5_tearDown_38, DX5_tearDown_41, DX5_tearDown_42, DX5_tearDown_45, DX5_tearDown_46, DX5_tearDown_47, DX5_tearDown_49, DX5_tearDown_50, DX5_tearDown_53, DX5_tearDown_56, DX5_tearDown_59, DX5_tearDown_60, DX5_tearDown_63, DX5_tearDown_65, DX5_tearDown_66, DX5_tearDown_67, DX5_tearDown_69, DX5_tearDown_70, DX5_tearDown_71, DX5_tearDown_72, DX5_tearDown_73, DX5_tearDown_76, DX5_tearDown_77, ce_X5_stands, ↓ct_X5_stands, ycl_X5_stands, ce_X5_fail, ↓ct_X5_fail, ycl_X5_fail, ce_X5_leasesOf, ↓ct_X5_leasesOf, ycl_X5_leasesOf, ce_X5_get, ↓ct_X5_get, ycl_X5_get, ce_X5_set, ↓ct_X5_set, ycl_X5_set, ce_X5_castAll, ↓ct_X5_castAll, ycl_X5_castAll, cX_nil mhh_X5_tearDown]
    simp (disch := omega) only [i32_lit, i32_neg, i32_add, i32_mul, i32_sub, i32_nI, i32_lt, i32_le, i32_eq, inR_i, i32_clamp, i32_div, i32_max, i32_min, ite_max, ite_min, b2i_0, b2i_1, b2i_01, i32_toInt, tn_i, Int.toNat_natCast, em_t, true_and, and_true, Int.reduceToNat, Int.reduceLE, Int.reduceLT, Int.reduceAdd, Int.reduceMul, Int.reduceSub, Int.reduceNeg, Int.reduceEq, true_implies, not_true_eq_false, false_implies, not_false_eq_true, hM, hk, fd, fe, fb, fl, a5, k5, l5, a6, k6, l6, a7, k7, l7, a8, k8, l8, a9, k9, l9, a10, k10, l10, a11, k11, l11, true_and, and_true, Option.some.injEq, exists_eq_left', nmOf_0, nmOf_1, nmOf_2, nmOf_3, nmOf_4, nmOf_5, nmOf_6, Nat.add_sub_cancel, Nat.reduceSub, Nat.reduceLT, Nat.reduceEqDiff, ne_eq, not_false_eq_true]
    refine ⟨fun _ => ?_, fun h2 => by omega⟩
    repeat (refine ⟨by omega, ?_⟩)
    rw [show (7 * (b : Int) + 6).toNat = 7 * b + 6 by omega]
    subst e
    rw [show n = S0.nl by omega] at hM hW
    refine tl_X5_tearDown72 (S := (S0.eL b S0.nl).uB b 6 0) G (WF_uB6 hW) (MD_uB hM (by omega)) (fun h' g1 g2 => ?_)
    exact hq h' ((f1.tr (Fr.sA (WM.r (by omega)))).tr g1.fr) ((g1.2.1 _ _ _).trans f2) (g1.md (MD_uB hM (by omega))) g2
  | succ k ih =>
    intro n hn S e hW h f1 f2 hM
    have hnb := hW.1
    have hnl := hW.2.1
    have e1 : S.nl = S0.nl := by rw [e]; rfl
    have e2 : S.nb = S0.nb := by rw [e]; rfl
    have e3 : S.lf n 0 = S0.lf n 0 := by rw [e, lf_eL, if_neg (by omega)]
    have hL0 := hW.2.2.2.1 n (by omega)
    have hjp : ∀ S' : SS, S' = S0.eL b (n + 1) → WF S' → ∀ h', Fr h0 h' (WM m A) → fi h' 6 0 m = i32 0 → MD h' m A S' → Wp G MX5_tearDown false 7 Q QX 53 [some (.ref m), some (.int (i32 b)), some (.int v), some (.int (i32 n))] [] h' (0, 0) := fun S' e' hW' h' f1' f2' hM' => by
      refine wpW (cs := [(54, ce_X5_stands A S), (67, ce_X5_fail), (80, ce_X5_leasesOf A S), (86, ce_X5_get A S), (89, ce_X5_set A S), (77, ce_X5_castAll A S)]) (stop := [27]) (n := 200) (env_cons (ceV (by decide +kernel) ⟨by decide, by decide, by decide +kernel⟩ (by decide) rfl (ok_X5_stands G A S hW)) (env_cons (ceV (by decide +kernel) ⟨by decide, by decide, by decide +kernel⟩ (by decide) rfl (ok_X5_fail G)) (env_cons (ceV (by decide +kernel) ⟨by decide, by decide, by decide +kernel⟩ (by decide) rfl (ok_X5_leasesOf G A S hW)) (env_cons (ceV (by decide +kernel) ⟨by decide, by decide, by decide +kernel⟩ (by decide) rfl (ok_X5_get G A S hW)) (env_cons (ceV (by decide +kernel) ⟨by decide, by decide, by decide +kernel⟩ (by decide) rfl (ok_X5_set G A S hW)) (env_cons (ceV (by decide +kernel) ⟨by decide, by decide, by decide +kernel⟩ (by decide) rfl (ok_X5_castAll G A S hW)) (env_nil0 (env_hh rfl)))))))) ?_
      simp only [↓wpN_S, ↓step_u, ↓stC_s, stC_s, ↓stF_u, stF_u, ↓stepI, lenI, ↓kN_u, isS, ↓gI_0, ↓gI_S, ↓gL_0, ↓gL_S, ↓gD_0, ↓gD_S, ↓gR_0, ↓gR_S, ↓sI_c, ↓sL_c, ↓sD_c, ↓sR_c, ↓s1_r, ↓s1_i, ↓vR_r, ↓vR_n, ↓s0_n, s0_n, ↓oR_u, ↓sP_u, ↓sPa_0, ↓sPa_S, ↓lkC_c, ↓callK_u, ↓cQ_s, ↓cQ_n, putL, putW, clr, kil, catS, catN, refF, booF, finF, nF, nmOf_0, nmOf_1, nmOf_2, nmOf_3, nmOf_4, nmOf_5, nmOf_6, nmOf_50, nmOf_51, nmOf_52, ↓reduceIte, reduceIte, Bool.false_eq_true, eq_self, true_or, or_true, true_and, and_true, false_or, or_false, Nat.reduceAdd, Nat.reduceSub, Nat.reduceEqDiff, Nat.reduceLT, Nat.reduceLeDiff, reduceCtorEq, true_implies, List.length_cons, List.length_nil, List.replicate, List.cons_append, List.nil_append, mrt_X5_tearDown, mhh_X5_tearDown, mow_X5_tearDown, mnl_X5_tearDown, DX5_tearDown_0, DX5_tearDown_1, DX5_tearDown_2, DX5_tearDown_5, DX5_tearDown_6, DX5_tearDown_7, DX5_tearDown_10, DX5_tearDown_13, DX5_tearDown_14, DX5_tearDown_15, DX5_tearDown_18, DX5_tearDown_19, DX5_tearDown_20, DX5_tearDown_21, DX5_tearDown_24, DX5_tearDown_25, DX5_tearDown_26, DX5_tearDown_27, DX5_tearDown_28, DX5_tearDown_29, DX5_tearDown_32, DX5_tearDown_35, DX5_tearDown_36, DX5_tearDown_37, DX5_tearDown_38, DX5_tearDown_41, DX5_tearDown_42, DX5_tearDown_45, DX5_tearDown_46, DX5_tearDown_47, DX5_tearDown_49, DX5_tearDown_50, DX5_tearDown_53, DX5_tearDown_56, DX5_tearDown_59, DX5_tearDown_60, DX5_tearDown_63, DX5_tearDown_65, DX5_tearDown_66, DX5_tearDown_67, DX5_tearDown_69, DX5_tearDown_70, DX5_tearDown_71, DX5_tearDown_72, DX5_tearDown_73, DX5_tearDown_76, DX5_tearDown_77, ce_X5_stands, ↓ct_X5_stands, ycl_X5_stands, ce_X5_fail, ↓ct_X5_fail, ycl_X5_fail, ce_X5_leasesOf, ↓ct_X5_leasesOf, ycl_X5_leasesOf, ce_X5_get, ↓ct_X5_get, ycl_X5_get, ce_X5_set, ↓ct_X5_set, ycl_X5_set, ce_X5_castAll, ↓ct_X5_castAll, ycl_X5_castAll, cX_nil mhh_X5_tearDown]
      simp (disch := omega) only [i32_lit, i32_neg, i32_add, i32_mul, i32_sub, i32_nI, i32_lt, i32_le, i32_eq, inR_i, i32_clamp, i32_div, i32_max, i32_min, ite_max, ite_min, b2i_0, b2i_1, b2i_01, i32_toInt, tn_i, Int.toNat_natCast, em_t, true_and, and_true, Int.reduceToNat, Int.reduceLE, Int.reduceLT, Int.reduceAdd, Int.reduceMul, Int.reduceSub, Int.reduceNeg, Int.reduceEq, true_implies, not_true_eq_false, false_implies, not_false_eq_true]
      rw [show (n : Int) + 1 = ((n + 1 : Nat) : Int) by omega]
      exact ih (n + 1) (by omega) S' e' hW' h' f1' f2' hM'
    have hM0 := hM
    obtain ⟨⟨hk, hA, hJ⟩, fd, fe, fb, fl, hB, hL, hN, hG, hP⟩ := hM0
    obtain ⟨a5, k5, l5⟩ := hA 5 (by omega) (by omega)
    obtain ⟨a6, k6, l6⟩ := hA 6 (by omega) (by omega)
    obtain ⟨a7, k7, l7⟩ := hA 7 (by omega) (by omega)
    obtain ⟨a8, k8, l8⟩ := hA 8 (by omega) (by omega)
    obtain ⟨a9, k9, l9⟩ := hA 9 (by omega) (by omega)
    obtain ⟨a10, k10, l10⟩ := hA 10 (by omega) (by omega)
    obtain ⟨a11, k11, l11⟩ := hA 11 (by omega) (by omega)
    simp only [mLen] at l5 l6 l7 l8 l9 l10 l11
    refine wpW (cs := [(54, ce_X5_stands A S), (67, ce_X5_fail), (80, ce_X5_leasesOf A S), (86, ce_X5_get A S), (89, ce_X5_set A S), (77, ce_X5_castAll A S)]) (stop := [27, 53, 72]) (n := 200) (env_cons (ceV (by decide +kernel) ⟨by decide, by decide, by decide +kernel⟩ (by decide) rfl (ok_X5_stands G A S hW)) (env_cons (ceV (by decide +kernel) ⟨by decide, by decide, by decide +kernel⟩ (by decide) rfl (ok_X5_fail G)) (env_cons (ceV (by decide +kernel) ⟨by decide, by decide, by decide +kernel⟩ (by decide) rfl (ok_X5_leasesOf G A S hW)) (env_cons (ceV (by decide +kernel) ⟨by decide, by decide, by decide +kernel⟩ (by decide) rfl (ok_X5_get G A S hW)) (env_cons (ceV (by decide +kernel) ⟨by decide, by decide, by decide +kernel⟩ (by decide) rfl (ok_X5_set G A S hW)) (env_cons (ceV (by decide +kernel) ⟨by decide, by decide, by decide +kernel⟩ (by decide) rfl (ok_X5_castAll G A S hW)) (env_nil0 (env_hh rfl)))))))) ?_
    simp only [↓wpN_S, ↓step_u, ↓stC_s, stC_s, ↓stF_u, stF_u, ↓stepI, lenI, ↓kN_u, isS, ↓gI_0, ↓gI_S, ↓gL_0, ↓gL_S, ↓gD_0, ↓gD_S, ↓gR_0, ↓gR_S, ↓sI_c, ↓sL_c, ↓sD_c, ↓sR_c, ↓s1_r, ↓s1_i, ↓vR_r, ↓vR_n, ↓s0_n, s0_n, ↓oR_u, ↓sP_u, ↓sPa_0, ↓sPa_S, ↓lkC_c, ↓callK_u, ↓cQ_s, ↓cQ_n, putL, putW, clr, kil, catS, catN, refF, booF, finF, nF, nmOf_0, nmOf_1, nmOf_2, nmOf_3, nmOf_4, nmOf_5, nmOf_6, nmOf_50, nmOf_51, nmOf_52, ↓reduceIte, reduceIte, Bool.false_eq_true, eq_self, true_or, or_true, true_and, and_true, false_or, or_false, Nat.reduceAdd, Nat.reduceSub, Nat.reduceEqDiff, Nat.reduceLT, Nat.reduceLeDiff, reduceCtorEq, true_implies, List.length_cons, List.length_nil, List.replicate, List.cons_append, List.nil_append, mrt_X5_tearDown, mhh_X5_tearDown, mow_X5_tearDown, mnl_X5_tearDown, DX5_tearDown_0, DX5_tearDown_1, DX5_tearDown_2, DX5_tearDown_5, DX5_tearDown_6, DX5_tearDown_7, DX5_tearDown_10, DX5_tearDown_13, DX5_tearDown_14, DX5_tearDown_15, DX5_tearDown_18, DX5_tearDown_19, DX5_tearDown_20, DX5_tearDown_21, DX5_tearDown_24, DX5_tearDown_25, DX5_tearDown_26, DX5_tearDown_27, DX5_tearDown_28, DX5_tearDown_29, DX5_tearDown_32, DX5_tearDown_35, DX5_tearDown_36, DX5_tearDown_37, DX5_tearDown_38, DX5_tearDown_41, DX5_tearDown_42, DX5_tearDown_45, DX5_tearDown_46, DX5_tearDown_47, DX5_tearDown_49, DX5_tearDown_50, DX5_tearDown_53, DX5_tearDown_56, DX5_tearDown_59, DX5_tearDown_60, DX5_tearDown_63, DX5_tearDown_65, DX5_tearDown_66, DX5_tearDown_67, DX5_tearDown_69, DX5_tearDown_70, DX5_tearDown_71, DX5_tearDown_72, DX5_tearDown_73, DX5_tearDown_76, DX5_tearDown_77, ce_X5_stands, ↓ct_X5_stands, ycl_X5_stands, ce_X5_fail, ↓ct_X5_fail, ycl_X5_fail, ce_X5_leasesOf, ↓ct_X5_leasesOf, ycl_X5_leasesOf, ce_X5_get, ↓ct_X5_get, ycl_X5_get, ce_X5_set, ↓ct_X5_set, ycl_X5_set, ce_X5_castAll, ↓ct_X5_castAll, ycl_X5_castAll, cX_nil mhh_X5_tearDown]
    simp (disch := omega) only [i32_lit, i32_neg, i32_add, i32_mul, i32_sub, i32_nI, i32_lt, i32_le, i32_eq, inR_i, i32_clamp, i32_div, i32_max, i32_min, ite_max, ite_min, b2i_0, b2i_1, b2i_01, i32_toInt, tn_i, Int.toNat_natCast, em_t, true_and, and_true, Int.reduceToNat, Int.reduceLE, Int.reduceLT, Int.reduceAdd, Int.reduceMul, Int.reduceSub, Int.reduceNeg, Int.reduceEq, true_implies, not_true_eq_false, false_implies, not_false_eq_true, hM, hk, fd, fe, fb, fl, a5, k5, l5, a6, k6, l6, a7, k7, l7, a8, k8, l8, a9, k9, l9, a10, k10, l10, a11, k11, l11, true_and, and_true, Option.some.injEq, exists_eq_left', nmOf_0, nmOf_1, nmOf_2, nmOf_3, nmOf_4, nmOf_5, nmOf_6, Nat.add_sub_cancel, Nat.reduceSub, Nat.reduceLT, Nat.reduceEqDiff, ne_eq, not_false_eq_true]
    refine ⟨fun h2 => by omega, fun h2 => ?_⟩
    repeat (refine ⟨by omega, ?_⟩)
    refine ⟨fun h3 => ?_, fun h3 => ?_⟩
    · exact hjp S (by rw [e]; exact eL_k (by omega)) hW h f1 f2 hM
    · repeat (refine ⟨by omega, ?_⟩)
      refine hjp (S.uL n 6 0) (by rw [e]; exact eL_s (by omega)) (WF_uL hW (WL_uL hW.2.2.2.1 (Or.inl ⟨rfl, Or.inl rfl⟩))) _ (f1.tr (Fr.sA (WM.r (by omega)))) f2 (MD_uL hM (by omega))
set_option maxRecDepth 100000 in
set_option maxHeartbeats 4000000 in
theorem ok_X5_tearDown (G : GT) (A : Nat → Nat) (S : SS) (hW : WF S) : OKm G yX5_tearDown MX5_tearDown 7 0 0 (ct_X5_tearDown A S) := by
  refine mkOK (ini := false) (by decide) rfl (by first | exact fun _ => rfl | (intro hh; cases hh)) (fun As h Q QX hc => ?_)
  replace hc := sR_e hc; obtain ⟨m, r, rfl, hc⟩ := hc
  replace hc := sI_e hc; obtain ⟨b, r, rfl, hc⟩ := hc
  replace hc := s0_e hc; obtain ⟨rfl, hc⟩ := hc
  obtain ⟨bV, hbV, rfl⟩ := i32_all b
  simp only [i32_toInt hbV, tn_i hbV] at hc
  have hc2 := hc.1
  obtain ⟨hM, hC, hv, hf⟩ := hc
  have hk := hM.1.1
  replace hM : MD (t0 h m) m A S := MD_s0 hM
  replace hC : MC (t0 h m) A S := hC
  have hf0 : fi (t0 h m) 6 0 m = i32 0 := by unfold t0; rw [fi_setI, if_pos ⟨rfl, rfl, rfl⟩]; rfl
  refine ⟨Nat.le_of_ble_eq_true rfl, ?_⟩
  simp only [ent, entL, catN, List.length_cons, List.length_nil, List.replicate, List.cons_append, List.nil_append, reduceIte, Nat.reduceEqDiff,  Nat.reduceAdd, Nat.reduceSub, mnl_X5_tearDown]
  refine wpW (cs := [(54, ce_X5_stands A S), (67, ce_X5_fail), (80, ce_X5_leasesOf A S), (86, ce_X5_get A S), (89, ce_X5_set A S), (77, ce_X5_castAll A S)]) (stop := [5]) (n := 200) (env_cons (ceV (by decide +kernel) ⟨by decide, by decide, by decide +kernel⟩ (by decide) rfl (ok_X5_stands G A S hW)) (env_cons (ceV (by decide +kernel) ⟨by decide, by decide, by decide +kernel⟩ (by decide) rfl (ok_X5_fail G)) (env_cons (ceV (by decide +kernel) ⟨by decide, by decide, by decide +kernel⟩ (by decide) rfl (ok_X5_leasesOf G A S hW)) (env_cons (ceV (by decide +kernel) ⟨by decide, by decide, by decide +kernel⟩ (by decide) rfl (ok_X5_get G A S hW)) (env_cons (ceV (by decide +kernel) ⟨by decide, by decide, by decide +kernel⟩ (by decide) rfl (ok_X5_set G A S hW)) (env_cons (ceV (by decide +kernel) ⟨by decide, by decide, by decide +kernel⟩ (by decide) rfl (ok_X5_castAll G A S hW)) (env_nil0 (env_hh rfl)))))))) ?_
  simp only [↓wpN_S, ↓step_u, ↓stC_s, stC_s, ↓stF_u, stF_u, ↓stepI, lenI, ↓kN_u, isS, ↓gI_0, ↓gI_S, ↓gL_0, ↓gL_S, ↓gD_0, ↓gD_S, ↓gR_0, ↓gR_S, ↓sI_c, ↓sL_c, ↓sD_c, ↓sR_c, ↓s1_r, ↓s1_i, ↓vR_r, ↓vR_n, ↓s0_n, s0_n, ↓oR_u, ↓sP_u, ↓sPa_0, ↓sPa_S, ↓lkC_c, ↓callK_u, ↓cQ_s, ↓cQ_n, putL, putW, clr, kil, catS, catN, refF, booF, finF, nF, nmOf_0, nmOf_1, nmOf_2, nmOf_3, nmOf_4, nmOf_5, nmOf_6, nmOf_50, nmOf_51, nmOf_52, ↓reduceIte, reduceIte, Bool.false_eq_true, eq_self, true_or, or_true, true_and, and_true, false_or, or_false, Nat.reduceAdd, Nat.reduceSub, Nat.reduceEqDiff, Nat.reduceLT, Nat.reduceLeDiff, reduceCtorEq, true_implies, List.length_cons, List.length_nil, List.replicate, List.cons_append, List.nil_append, mrt_X5_tearDown, mhh_X5_tearDown, mow_X5_tearDown, mnl_X5_tearDown, DX5_tearDown_0, DX5_tearDown_1, DX5_tearDown_2, DX5_tearDown_5, DX5_tearDown_6, DX5_tearDown_7, DX5_tearDown_10, DX5_tearDown_13, DX5_tearDown_14, DX5_tearDown_15, DX5_tearDown_18, DX5_tearDown_19, DX5_tearDown_20, DX5_tearDown_21, DX5_tearDown_24, DX5_tearDown_25, DX5_tearDown_26, DX5_tearDown_27, DX5_tearDown_28, DX5_tearDown_29, DX5_tearDown_32, DX5_tearDown_35, DX5_tearDown_36, DX5_tearDown_37, DX5_tearDown_38, DX5_tearDown_41, DX5_tearDown_42, DX5_tearDown_45, DX5_tearDown_46, DX5_tearDown_47, DX5_tearDown_49, DX5_tearDown_50, DX5_tearDown_53, DX5_tearDown_56, DX5_tearDown_59, DX5_tearDown_60, DX5_tearDown_63, DX5_tearDown_65, DX5_tearDown_66, DX5_tearDown_67, DX5_tearDown_69, DX5_tearDown_70, DX5_tearDown_71, DX5_tearDown_72, DX5_tearDown_73, DX5_tearDown_76, DX5_tearDown_77, ce_X5_stands, ↓ct_X5_stands, ycl_X5_stands, ce_X5_fail, ↓ct_X5_fail, ycl_X5_fail, ce_X5_leasesOf, ↓ct_X5_leasesOf, ycl_X5_leasesOf, ce_X5_get, ↓ct_X5_get, ycl_X5_get, ce_X5_set, ↓ct_X5_set, ycl_X5_set, ce_X5_castAll, ↓ct_X5_castAll, ycl_X5_castAll, cX_nil mhh_X5_tearDown]
  simp only [hk, true_and, false_implies]
  unfold tX at hf
  change Wp G MX5_tearDown false 7 Q QX 5 _ [] (t0 h m) _
  generalize t0 h m = g at *
  clear hk
  have hnb := hW.1
  have hnl := hW.2.1
  have hM0 := hM
  obtain ⟨⟨hk, hA, hJ⟩, fd, fe, fb, fl, hB, hL, hN, hG, hP⟩ := hM0
  obtain ⟨a5, k5, l5⟩ := hA 5 (by omega) (by omega)
  obtain ⟨a6, k6, l6⟩ := hA 6 (by omega) (by omega)
  obtain ⟨a7, k7, l7⟩ := hA 7 (by omega) (by omega)
  obtain ⟨a8, k8, l8⟩ := hA 8 (by omega) (by omega)
  obtain ⟨a9, k9, l9⟩ := hA 9 (by omega) (by omega)
  obtain ⟨a10, k10, l10⟩ := hA 10 (by omega) (by omega)
  obtain ⟨a11, k11, l11⟩ := hA 11 (by omega) (by omega)
  simp only [mLen] at l5 l6 l7 l8 l9 l10 l11
  refine wpW (cs := [(54, ce_X5_stands A S), (67, ce_X5_fail), (80, ce_X5_leasesOf A S), (86, ce_X5_get A S), (89, ce_X5_set A S), (77, ce_X5_castAll A S)]) (stop := [5, 27]) (n := 200) (env_cons (ceV (by decide +kernel) ⟨by decide, by decide, by decide +kernel⟩ (by decide) rfl (ok_X5_stands G A S hW)) (env_cons (ceV (by decide +kernel) ⟨by decide, by decide, by decide +kernel⟩ (by decide) rfl (ok_X5_fail G)) (env_cons (ceV (by decide +kernel) ⟨by decide, by decide, by decide +kernel⟩ (by decide) rfl (ok_X5_leasesOf G A S hW)) (env_cons (ceV (by decide +kernel) ⟨by decide, by decide, by decide +kernel⟩ (by decide) rfl (ok_X5_get G A S hW)) (env_cons (ceV (by decide +kernel) ⟨by decide, by decide, by decide +kernel⟩ (by decide) rfl (ok_X5_set G A S hW)) (env_cons (ceV (by decide +kernel) ⟨by decide, by decide, by decide +kernel⟩ (by decide) rfl (ok_X5_castAll G A S hW)) (env_nil0 (env_hh rfl)))))))) ?_
  simp only [↓wpN_S, ↓step_u, ↓stC_s, stC_s, ↓stF_u, stF_u, ↓stepI, lenI, ↓kN_u, isS, ↓gI_0, ↓gI_S, ↓gL_0, ↓gL_S, ↓gD_0, ↓gD_S, ↓gR_0, ↓gR_S, ↓sI_c, ↓sL_c, ↓sD_c, ↓sR_c, ↓s1_r, ↓s1_i, ↓vR_r, ↓vR_n, ↓s0_n, s0_n, ↓oR_u, ↓sP_u, ↓sPa_0, ↓sPa_S, ↓lkC_c, ↓callK_u, ↓cQ_s, ↓cQ_n, putL, putW, clr, kil, catS, catN, refF, booF, finF, nF, nmOf_0, nmOf_1, nmOf_2, nmOf_3, nmOf_4, nmOf_5, nmOf_6, nmOf_50, nmOf_51, nmOf_52, ↓reduceIte, reduceIte, Bool.false_eq_true, eq_self, true_or, or_true, true_and, and_true, false_or, or_false, Nat.reduceAdd, Nat.reduceSub, Nat.reduceEqDiff, Nat.reduceLT, Nat.reduceLeDiff, reduceCtorEq, true_implies, List.length_cons, List.length_nil, List.replicate, List.cons_append, List.nil_append, mrt_X5_tearDown, mhh_X5_tearDown, mow_X5_tearDown, mnl_X5_tearDown, DX5_tearDown_0, DX5_tearDown_1, DX5_tearDown_2, DX5_tearDown_5, DX5_tearDown_6, DX5_tearDown_7, DX5_tearDown_10, DX5_tearDown_13, DX5_tearDown_14, DX5_tearDown_15, DX5_tearDown_18, DX5_tearDown_19, DX5_tearDown_20, DX5_tearDown_21, DX5_tearDown_24, DX5_tearDown_25, DX5_tearDown_26, DX5_tearDown_27, DX5_tearDown_28, DX5_tearDown_29, DX5_tearDown_32, DX5_tearDown_35, DX5_tearDown_36, DX5_tearDown_37, DX5_tearDown_38, DX5_tearDown_41, DX5_tearDown_42, DX5_tearDown_45, DX5_tearDown_46, DX5_tearDown_47, DX5_tearDown_49, DX5_tearDown_50, DX5_tearDown_53, DX5_tearDown_56, DX5_tearDown_59, DX5_tearDown_60, DX5_tearDown_63, DX5_tearDown_65, DX5_tearDown_66, DX5_tearDown_67, DX5_tearDown_69, DX5_tearDown_70, DX5_tearDown_71, DX5_tearDown_72, DX5_tearDown_73, DX5_tearDown_76, DX5_tearDown_77, ce_X5_stands, ↓ct_X5_stands, ycl_X5_stands, ce_X5_fail, ↓ct_X5_fail, ycl_X5_fail, ce_X5_leasesOf, ↓ct_X5_leasesOf, ycl_X5_leasesOf, ce_X5_get, ↓ct_X5_get, ycl_X5_get, ce_X5_set, ↓ct_X5_set, ycl_X5_set, ce_X5_castAll, ↓ct_X5_castAll, ycl_X5_castAll, cX_nil mhh_X5_tearDown]
  simp (disch := omega) only [i32_lit, i32_neg, i32_add, i32_mul, i32_sub, i32_nI, i32_lt, i32_le, i32_eq, inR_i, i32_clamp, i32_div, i32_max, i32_min, ite_max, ite_min, b2i_0, b2i_1, b2i_01, i32_toInt, tn_i, Int.toNat_natCast, em_t, true_and, and_true, Int.reduceToNat, Int.reduceLE, Int.reduceLT, Int.reduceAdd, Int.reduceMul, Int.reduceSub, Int.reduceNeg, Int.reduceEq, true_implies, not_true_eq_false, false_implies, not_false_eq_true, hM, hk, fd, fe, fb, fl, a5, k5, l5, a6, k6, l6, a7, k7, l7, a8, k8, l8, a9, k9, l9, a10, k10, l10, a11, k11, l11, true_and, and_true, Option.some.injEq, exists_eq_left', nmOf_0, nmOf_1, nmOf_2, nmOf_3, nmOf_4, nmOf_5, nmOf_6, Nat.add_sub_cancel, Nat.reduceSub, Nat.reduceLT, Nat.reduceEqDiff, ne_eq, not_false_eq_true, hC]
  refine ⟨fun h1 => ?_, hf⟩
  have h1 := Classical.not_not.mp h1
  obtain ⟨b, rfl⟩ := Int.eq_ofNat_of_zero_le h1.1.1
  simp only [Int.toNat_natCast] at hv h1
  exact lp_X5_tearDown (h0 := g) G (by omega) (hv h1) S.nl 0 (by omega) S eL_0.symm hW g Fr.rf hf0 hM
