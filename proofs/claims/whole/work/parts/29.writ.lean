/-! ===== the reference: castAll, set, setHeight ===== -/
def ct_X5_castAll (A : Nat → Nat) (S : SS) : Ct := fun As h Q _ => sR As fun m r => s0 r (MD h m A S ∧ ∀ h', MFr h h' A → MC h' A S → Q none h')
def ce_X5_castAll (A : Nat → Nat) (S : SS) : CE := (0, yX5_castAll, MX5_castAll, 0, 6, 0, 0, ct_X5_castAll A S)
set_option maxRecDepth 100000 in
set_option maxHeartbeats 4000000 in
theorem lp_X5_castAll (G : GT) {A : Nat → Nat} {S : SS} (hW : WF S) {h : Hp} {m : Nat} {Q : Option Value → Hp → Prop} {QX : String → Hp → Prop} (hq : ∀ h', MFr h h' A → MC h' A S → Q none h') :
    ∀ k r : Nat, r + k = 12 → ∀ h1 : Hp, MD h1 m A S → MFr h h1 A → (∀ j, j < r → MCr h1 A S j 256) → Wp G MX5_castAll false 6 Q QX 2 [some (.ref m), some (.int (i32 r))] [] h1 (0, 0) := by
  intro k
  induction k with
  | zero =>
    intro r hr h1 hM f1 f2
    have hM0 := hM
    obtain ⟨⟨hk, hA, hJ⟩, fd, fe, fb, fl, hB, hL, hN, hG, hP⟩ := hM0
    obtain ⟨a5, k5, l5⟩ := hA 5 (by omega) (by omega)
    obtain ⟨a6, k6, l6⟩ := hA 6 (by omega) (by omega)
    obtain ⟨a7, k7, l7⟩ := hA 7 (by omega) (by omega)
    obtain ⟨a8, k8, l8⟩ := hA 8 (by omega) (by omega)
    obtain ⟨a9, k9, l9⟩ := hA 9 (by omega) (by omega)
    obtain ⟨a10, k10, l10⟩ := hA 10 (by omega) (by omega)
    obtain ⟨a11, k11, l11⟩ := hA 11 (by omega) (by omega)
    simp only [mLen] at l5 l6 l7 l8 l9 l10 l11
    refine wpW (cs := [(31, ce_X5_cast A S)]) (stop := [2]) (n := 200) (env_cons (ceV (by decide +kernel) ⟨by decide, by decide, by decide +kernel⟩ (by decide) rfl (ok_X5_cast G A S hW)) (env_nil0 (env_hh rfl))) ?_
    simp only [↓wpN_S, ↓step_u, ↓stC_s, stC_s, ↓stF_u, stF_u, ↓stepI, lenI, ↓kN_u, isS, ↓gI_0, ↓gI_S, ↓gL_0, ↓gL_S, ↓gD_0, ↓gD_S, ↓gR_0, ↓gR_S, ↓sI_c, ↓sL_c, ↓sD_c, ↓sR_c, ↓s1_r, ↓s1_i, ↓vR_r, ↓vR_n, ↓s0_n, s0_n, ↓oR_u, ↓sP_u, ↓sPa_0, ↓sPa_S, ↓lkC_c, ↓callK_u, ↓cQ_s, ↓cQ_n, putL, putW, clr, kil, catS, catN, refF, booF, finF, nF, nmOf_0, nmOf_1, nmOf_2, nmOf_3, nmOf_4, nmOf_5, nmOf_6, nmOf_50, nmOf_51, nmOf_52, ↓reduceIte, reduceIte, Bool.false_eq_true, eq_self, true_or, or_true, true_and, and_true, false_or, or_false, Nat.reduceAdd, Nat.reduceSub, Nat.reduceEqDiff, Nat.reduceLT, Nat.reduceLeDiff, reduceCtorEq, true_implies, List.length_cons, List.length_nil, List.replicate, List.cons_append, List.nil_append, mrt_X5_castAll, mhh_X5_castAll, mow_X5_castAll, mnl_X5_castAll, DX5_castAll_0, DX5_castAll_1, DX5_castAll_2, DX5_castAll_3, DX5_castAll_5, DX5_castAll_8, DX5_castAll_9, DX5_castAll_10, DX5_castAll_13, DX5_castAll_16, DX5_castAll_19, ce_X5_cast, ↓ct_X5_cast, ycl_X5_cast, cX_nil mhh_X5_castAll]
    simp (disch := omega) only [i32_lit, i32_neg, i32_add, i32_mul, i32_sub, i32_nI, i32_lt, i32_le, i32_eq, inR_i, i32_clamp, i32_div, i32_max, i32_min, ite_max, ite_min, b2i_0, b2i_1, b2i_01, i32_toInt, tn_i, Int.toNat_natCast, em_t, true_and, and_true, Int.reduceToNat, Int.reduceLE, Int.reduceLT, Int.reduceAdd, Int.reduceMul, Int.reduceSub, Int.reduceNeg, Int.reduceEq, true_implies, not_true_eq_false, false_implies, not_false_eq_true, hM, hk, fd, fe, fb, fl, a5, k5, l5, a6, k6, l6, a7, k7, l7, a8, k8, l8, a9, k9, l9, a10, k10, l10, a11, k11, l11, true_and, and_true, Option.some.injEq, exists_eq_left', nmOf_0, nmOf_1, nmOf_2, nmOf_3, nmOf_4, nmOf_5, nmOf_6, Nat.add_sub_cancel, Nat.reduceSub, Nat.reduceLT, Nat.reduceEqDiff, ne_eq, not_false_eq_true]
    exact ⟨fun _ => hq h1 f1 (fun j c hj hc => f2 j (by omega) c hc), fun h2 => by omega⟩
  | succ k ih =>
    intro r hr h1 hM f1 f2
    have hM0 := hM
    obtain ⟨⟨hk, hA, hJ⟩, fd, fe, fb, fl, hB, hL, hN, hG, hP⟩ := hM0
    obtain ⟨a5, k5, l5⟩ := hA 5 (by omega) (by omega)
    obtain ⟨a6, k6, l6⟩ := hA 6 (by omega) (by omega)
    obtain ⟨a7, k7, l7⟩ := hA 7 (by omega) (by omega)
    obtain ⟨a8, k8, l8⟩ := hA 8 (by omega) (by omega)
    obtain ⟨a9, k9, l9⟩ := hA 9 (by omega) (by omega)
    obtain ⟨a10, k10, l10⟩ := hA 10 (by omega) (by omega)
    obtain ⟨a11, k11, l11⟩ := hA 11 (by omega) (by omega)
    simp only [mLen] at l5 l6 l7 l8 l9 l10 l11
    refine wpW (cs := [(31, ce_X5_cast A S)]) (stop := [2]) (n := 200) (env_cons (ceV (by decide +kernel) ⟨by decide, by decide, by decide +kernel⟩ (by decide) rfl (ok_X5_cast G A S hW)) (env_nil0 (env_hh rfl))) ?_
    simp only [↓wpN_S, ↓step_u, ↓stC_s, stC_s, ↓stF_u, stF_u, ↓stepI, lenI, ↓kN_u, isS, ↓gI_0, ↓gI_S, ↓gL_0, ↓gL_S, ↓gD_0, ↓gD_S, ↓gR_0, ↓gR_S, ↓sI_c, ↓sL_c, ↓sD_c, ↓sR_c, ↓s1_r, ↓s1_i, ↓vR_r, ↓vR_n, ↓s0_n, s0_n, ↓oR_u, ↓sP_u, ↓sPa_0, ↓sPa_S, ↓lkC_c, ↓callK_u, ↓cQ_s, ↓cQ_n, putL, putW, clr, kil, catS, catN, refF, booF, finF, nF, nmOf_0, nmOf_1, nmOf_2, nmOf_3, nmOf_4, nmOf_5, nmOf_6, nmOf_50, nmOf_51, nmOf_52, ↓reduceIte, reduceIte, Bool.false_eq_true, eq_self, true_or, or_true, true_and, and_true, false_or, or_false, Nat.reduceAdd, Nat.reduceSub, Nat.reduceEqDiff, Nat.reduceLT, Nat.reduceLeDiff, reduceCtorEq, true_implies, List.length_cons, List.length_nil, List.replicate, List.cons_append, List.nil_append, mrt_X5_castAll, mhh_X5_castAll, mow_X5_castAll, mnl_X5_castAll, DX5_castAll_0, DX5_castAll_1, DX5_castAll_2, DX5_castAll_3, DX5_castAll_5, DX5_castAll_8, DX5_castAll_9, DX5_castAll_10, DX5_castAll_13, DX5_castAll_16, DX5_castAll_19, ce_X5_cast, ↓ct_X5_cast, ycl_X5_cast, cX_nil mhh_X5_castAll]
    simp (disch := omega) only [i32_lit, i32_neg, i32_add, i32_mul, i32_sub, i32_nI, i32_lt, i32_le, i32_eq, inR_i, i32_clamp, i32_div, i32_max, i32_min, ite_max, ite_min, b2i_0, b2i_1, b2i_01, i32_toInt, tn_i, Int.toNat_natCast, em_t, true_and, and_true, Int.reduceToNat, Int.reduceLE, Int.reduceLT, Int.reduceAdd, Int.reduceMul, Int.reduceSub, Int.reduceNeg, Int.reduceEq, true_implies, not_true_eq_false, false_implies, not_false_eq_true, hM, hk, fd, fe, fb, fl, a5, k5, l5, a6, k6, l6, a7, k7, l7, a8, k8, l8, a9, k9, l9, a10, k10, l10, a11, k11, l11, true_and, and_true, Option.some.injEq, exists_eq_left', nmOf_0, nmOf_1, nmOf_2, nmOf_3, nmOf_4, nmOf_5, nmOf_6, Nat.add_sub_cancel, Nat.reduceSub, Nat.reduceLT, Nat.reduceEqDiff, ne_eq, not_false_eq_true]
    refine ⟨fun h2 => by omega, fun h2 => ⟨by omega, fun h' g1 g2 g3 => ?_⟩⟩
    refine ih (r + 1) (by omega) h' (g1.md hM) (f1.tr g1) (fun j hj i hi => ?_)
    rcases Nat.lt_or_ge j r with q | q
    · have e := g3 (256 * j + i) (Or.inl (by omega))
      rw [e.1, e.2]
      exact f2 j q i hi
    · have e : j = r := by omega
      subst e
      exact g2 i hi
set_option maxRecDepth 100000 in
set_option maxHeartbeats 4000000 in
theorem ok_X5_castAll (G : GT) (A : Nat → Nat) (S : SS) (hW : WF S) : OKm G yX5_castAll MX5_castAll 6 0 0 (ct_X5_castAll A S) := by
  refine mkOK (ini := false) (by decide) rfl (by first | exact fun _ => rfl | (intro hh; cases hh)) (fun As h Q QX hc => ?_)
  replace hc := sR_e hc; obtain ⟨m, r, rfl, hc⟩ := hc
  replace hc := s0_e hc; obtain ⟨rfl, hc⟩ := hc
  obtain ⟨hM, hq⟩ := hc
  refine ⟨Nat.le_of_ble_eq_true rfl, ?_⟩
  simp only [ent, entL, catN, List.length_cons, List.length_nil, List.replicate, List.cons_append, List.nil_append, reduceIte, Nat.reduceEqDiff,  Nat.reduceAdd, Nat.reduceSub, mnl_X5_castAll]
  refine wpW (cs := [(31, ce_X5_cast A S)]) (stop := [2]) (n := 200) (env_cons (ceV (by decide +kernel) ⟨by decide, by decide, by decide +kernel⟩ (by decide) rfl (ok_X5_cast G A S hW)) (env_nil0 (env_hh rfl))) ?_
  simp only [↓wpN_S, ↓step_u, ↓stC_s, stC_s, ↓stF_u, stF_u, ↓stepI, lenI, ↓kN_u, isS, ↓gI_0, ↓gI_S, ↓gL_0, ↓gL_S, ↓gD_0, ↓gD_S, ↓gR_0, ↓gR_S, ↓sI_c, ↓sL_c, ↓sD_c, ↓sR_c, ↓s1_r, ↓s1_i, ↓vR_r, ↓vR_n, ↓s0_n, s0_n, ↓oR_u, ↓sP_u, ↓sPa_0, ↓sPa_S, ↓lkC_c, ↓callK_u, ↓cQ_s, ↓cQ_n, putL, putW, clr, kil, catS, catN, refF, booF, finF, nF, nmOf_0, nmOf_1, nmOf_2, nmOf_3, nmOf_4, nmOf_5, nmOf_6, nmOf_50, nmOf_51, nmOf_52, ↓reduceIte, reduceIte, Bool.false_eq_true, eq_self, true_or, or_true, true_and, and_true, false_or, or_false, Nat.reduceAdd, Nat.reduceSub, Nat.reduceEqDiff, Nat.reduceLT, Nat.reduceLeDiff, reduceCtorEq, true_implies, List.length_cons, List.length_nil, List.replicate, List.cons_append, List.nil_append, mrt_X5_castAll, mhh_X5_castAll, mow_X5_castAll, mnl_X5_castAll, DX5_castAll_0, DX5_castAll_1, DX5_castAll_2, DX5_castAll_3, DX5_castAll_5, DX5_castAll_8, DX5_castAll_9, DX5_castAll_10, DX5_castAll_13, DX5_castAll_16, DX5_castAll_19, ce_X5_cast, ↓ct_X5_cast, ycl_X5_cast, cX_nil mhh_X5_castAll]
  exact lp_X5_castAll G hW hq 12 0 (by omega) h hM MFr.rf (fun j hj => by omega)
/-! the changes of a state -/
def SS.uB (S : SS) (b k : Nat) (v : Int) : SS := (S.1, S.2.1, fun b' k' => if b' = b ∧ k' = k then v else S.bf b' k', S.2.2.2)
def SS.uL (S : SS) (l k : Nat) (v : Int) : SS := (S.1, S.2.1, S.2.2.1, fun l' k' => if l' = l ∧ k' = k then v else S.lf l' k', S.2.2.2.2)
theorem MD_uL {h : Hp} {m : Nat} {A : Nat → Nat} {S : SS} {l k : Nat} {v : Int} (hM : MD h m A S) (hk : k < 9) : MD (setIA h (A 6) (9 * l + k) (i32 v)) m A (S.uL l k v) := by
  obtain ⟨⟨hk', hA, hJ⟩, fd, fe, fb, fl, hB, hL, hN, hG, hP⟩ := hM
  have n6 : ∀ i, 5 ≤ i → i ≤ 11 → i ≠ 6 → A i ≠ A 6 := fun i h1 h2 h3 h4 => h3 (hJ i 6 h1 h2 (by omega) (by omega) h4)
  refine ⟨⟨hk', hA, hJ⟩, fd, fe, fb, fl, fun b q hb hq => ?_, fun l' k' hl' hk' => ?_, fun r q hr hq => ?_, fun o ho => ?_, fun t ht => ?_⟩
  · rw [ia_setIA, if_neg (fun z => n6 5 (by omega) (by omega) (by omega) z.1)]; exact hB b q hb hq
  · rw [ia_setIA]
    unfold SS.uL SS.lf
    by_cases e : l' = l ∧ k' = k
    · rw [if_pos ⟨rfl, by rw [e.1, e.2]⟩]; simp only [e, and_self, if_true]
    · rw [if_neg (fun z => e (by omega))]; simp only [e, if_false]; exact hL l' k' hl' hk'
  · rw [ia_setIA, if_neg (fun z => n6 7 (by omega) (by omega) (by omega) z.1)]; exact hN r q hr hq
  · rw [ia_setIA, if_neg (fun z => n6 8 (by omega) (by omega) (by omega) z.1)]; exact hG o ho
  · rw [ia_setIA, if_neg (fun z => n6 9 (by omega) (by omega) (by omega) z.1)]; exact hP t ht
theorem MD_uB {h : Hp} {m : Nat} {A : Nat → Nat} {S : SS} {l k : Nat} {v : Int} (hM : MD h m A S) (hk : k < 7) : MD (setIA h (A 5) (7 * l + k) (i32 v)) m A (S.uB l k v) := by
  obtain ⟨⟨hk', hA, hJ⟩, fd, fe, fb, fl, hB, hL, hN, hG, hP⟩ := hM
  have n6 : ∀ i, 5 ≤ i → i ≤ 11 → i ≠ 5 → A i ≠ A 5 := fun i h1 h2 h3 h4 => h3 (hJ i 5 h1 h2 (by omega) (by omega) h4)
  refine ⟨⟨hk', hA, hJ⟩, fd, fe, fb, fl, fun l' k' hl' hk' => ?_, fun b q hb hq => ?_, fun r q hr hq => ?_, fun o ho => ?_, fun t ht => ?_⟩
  · rw [ia_setIA]
    unfold SS.uB SS.bf
    by_cases e : l' = l ∧ k' = k
    · rw [if_pos ⟨rfl, by rw [e.1, e.2]⟩]; simp only [e, and_self, if_true]
    · rw [if_neg (fun z => e (by omega))]; simp only [e, if_false]; exact hB l' k' hl' hk'
  · rw [ia_setIA, if_neg (fun z => n6 6 (by omega) (by omega) (by omega) z.1)]; exact hL b q hb hq
  · rw [ia_setIA, if_neg (fun z => n6 7 (by omega) (by omega) (by omega) z.1)]; exact hN r q hr hq
  · rw [ia_setIA, if_neg (fun z => n6 8 (by omega) (by omega) (by omega) z.1)]; exact hG o ho
  · rw [ia_setIA, if_neg (fun z => n6 9 (by omega) (by omega) (by omega) z.1)]; exact hP t ht
theorem cov_cg {S T : SS} (h2 : SS.bf S = SS.bf T) : cov S = cov T := by
  funext b x y
  unfold cov
  rw [h2]
theorem stp_cg {S T : SS} (h2 : SS.bf S = SS.bf T) (h3 : SS.sn S = SS.sn T) : stp S = stp T := by
  funext b r x y
  unfold stp reach
  rw [cov_cg h2, h2, h3]
theorem cst_cg {S T : SS} (h2 : SS.bf S = SS.bf T) (h3 : SS.sn S = SS.sn T) (r : Nat) (x y : Int) : ∀ n, cst S r x y n = cst T r x y n
  | 0 => rfl
  | n + 1 => by
    unfold cst
    rw [cst_cg h2 h3 r x y n, stp_cg h2 h3]
theorem bel_cg {S T : SS} (h1 : SS.nb S = SS.nb T) (h2 : SS.bf S = SS.bf T) (h3 : SS.sn S = SS.sn T) : bel S = bel T := by
  funext r c
  unfold bel isCov
  rw [cov_cg h2, h1, cst_cg h2 h3]
theorem shd_cg {S T : SS} (h1 : SS.nb S = SS.nb T) (h2 : SS.bf S = SS.bf T) (h3 : SS.sn S = SS.sn T) : shd S = shd T := by
  funext r c
  unfold shd isCov
  rw [cov_cg h2, h1, cst_cg h2 h3]
theorem bel_uL {S : SS} {l k : Nat} {v : Int} : bel (S.uL l k v) = bel S := bel_cg rfl rfl rfl
theorem shd_uL {S : SS} {l k : Nat} {v : Int} : shd (S.uL l k v) = shd S := shd_cg rfl rfl rfl
theorem MC_uL {h : Hp} {m : Nat} {A : Nat → Nat} {S : SS} {l k i : Nat} {w : Int32} {v : Int} (hM : MD h m A S) (hC : MC h A S) : MC (setIA h (A 6) i w) A (S.uL l k v) := by
  obtain ⟨⟨-, -, hJ⟩, -⟩ := hM
  intro r c hr hc
  rw [ia_setIA, ia_setIA, if_neg (fun z => absurd (hJ 10 6 (by omega) (by omega) (by omega) (by omega) z.1) (by omega)), if_neg (fun z => absurd (hJ 11 6 (by omega) (by omega) (by omega) (by omega) z.1) (by omega)), bel_uL, shd_uL]
  exact hC r c hr hc
def ct_X5_set (A : Nat → Nat) (S : SS) : Ct := fun As h Q _ => sR As fun m r => sI r fun l r => sI r fun k r => sI r fun v r => s0 r (MD h m A S ∧ (0 ≤ l.toInt ∧ l.toInt < S.nl) ∧ (0 ≤ k.toInt ∧ k.toInt < 9) ∧ Q none (setIA h (A 6) (9 * tn l + tn k) v))
def ce_X5_set (A : Nat → Nat) (S : SS) : CE := (0, yX5_set, MX5_set, 3, 0, 0, 0, ct_X5_set A S)
set_option maxRecDepth 100000 in
set_option maxHeartbeats 4000000 in
theorem ok_X5_set (G : GT) (A : Nat → Nat) (S : SS) (hW : WF S) : OKm G yX5_set MX5_set 0 0 0 (ct_X5_set A S) := by
  refine mkOK (ini := false) (by decide) rfl (by first | exact fun _ => rfl | (intro hh; cases hh)) (fun As h Q QX hc => ?_)
  replace hc := sR_e hc; obtain ⟨m, r, rfl, hc⟩ := hc
  replace hc := sI_e hc; obtain ⟨b, r, rfl, hc⟩ := hc
  replace hc := sI_e hc; obtain ⟨k, r, rfl, hc⟩ := hc
  replace hc := sI_e hc; obtain ⟨v, r, rfl, hc⟩ := hc
  replace hc := s0_e hc; obtain ⟨rfl, hc⟩ := hc
  obtain ⟨hM, hb, hkk, hq⟩ := hc
  have hnl := hW.2.1
  obtain ⟨bv, hbv, rfl⟩ := i32_all b
  obtain ⟨kv, hkv, rfl⟩ := i32_all k
  rw [i32_toInt hbv] at hb
  rw [i32_toInt hkv] at hkk
  obtain ⟨bn, rfl⟩ := Int.eq_ofNat_of_zero_le hb.1
  obtain ⟨kn, rfl⟩ := Int.eq_ofNat_of_zero_le hkk.1
  simp only [tn_i hbv, tn_i hkv, Int.toNat_natCast] at hq
  have hM0 := hM
  obtain ⟨⟨hk, hA, hJ⟩, fd, fe, fb, fl, hB, hL, hN, hG, hP⟩ := hM0
  obtain ⟨a5, k5, l5⟩ := hA 5 (by omega) (by omega)
  obtain ⟨a6, k6, l6⟩ := hA 6 (by omega) (by omega)
  obtain ⟨a7, k7, l7⟩ := hA 7 (by omega) (by omega)
  obtain ⟨a8, k8, l8⟩ := hA 8 (by omega) (by omega)
  obtain ⟨a9, k9, l9⟩ := hA 9 (by omega) (by omega)
  obtain ⟨a10, k10, l10⟩ := hA 10 (by omega) (by omega)
  obtain ⟨a11, k11, l11⟩ := hA 11 (by omega) (by omega)
  simp only [mLen] at l5 l6 l7 l8 l9 l10 l11
  refine ⟨Nat.le_of_ble_eq_true rfl, ?_⟩
  simp only [ent, entL, catN, List.length_cons, List.length_nil, List.replicate, List.cons_append, List.nil_append, reduceIte, Nat.reduceEqDiff,  Nat.reduceAdd, Nat.reduceSub, mnl_X5_set]
  refine wpW (cs := []) (stop := []) (n := 200) (env_nil0 (env_hh rfl)) ?_
  simp only [↓wpN_S, ↓step_u, ↓stC_s, stC_s, ↓stF_u, stF_u, ↓stepI, lenI, ↓kN_u, isS, ↓gI_0, ↓gI_S, ↓gL_0, ↓gL_S, ↓gD_0, ↓gD_S, ↓gR_0, ↓gR_S, ↓sI_c, ↓sL_c, ↓sD_c, ↓sR_c, ↓s1_r, ↓s1_i, ↓vR_r, ↓vR_n, ↓s0_n, s0_n, ↓oR_u, ↓sP_u, ↓sPa_0, ↓sPa_S, ↓lkC_c, ↓callK_u, ↓cQ_s, ↓cQ_n, putL, putW, clr, kil, catS, catN, refF, booF, finF, nF, nmOf_0, nmOf_1, nmOf_2, nmOf_3, nmOf_4, nmOf_5, nmOf_6, nmOf_50, nmOf_51, nmOf_52, ↓reduceIte, reduceIte, Bool.false_eq_true, eq_self, true_or, or_true, true_and, and_true, false_or, or_false, Nat.reduceAdd, Nat.reduceSub, Nat.reduceEqDiff, Nat.reduceLT, Nat.reduceLeDiff, reduceCtorEq, true_implies, List.length_cons, List.length_nil, List.replicate, List.cons_append, List.nil_append, mrt_X5_set, mhh_X5_set, mow_X5_set, mnl_X5_set, DX5_set_0, DX5_set_1, DX5_set_4, DX5_set_6, DX5_set_7, DX5_set_8, DX5_set_9, DX5_set_10, DX5_set_11, DX5_set_12]
  simp (disch := omega) only [i32_lit, i32_neg, i32_add, i32_mul, i32_sub, i32_nI, i32_lt, i32_le, i32_eq, inR_i, i32_clamp, i32_div, i32_max, i32_min, ite_max, ite_min, b2i_0, b2i_1, b2i_01, i32_toInt, tn_i, Int.toNat_natCast, em_t, true_and, and_true, Int.reduceToNat, Int.reduceLE, Int.reduceLT, Int.reduceAdd, Int.reduceMul, Int.reduceSub, Int.reduceNeg, Int.reduceEq, true_implies, not_true_eq_false, false_implies, not_false_eq_true, hM, hk, fd, fe, fb, fl, a5, k5, l5, a6, k6, l6, a7, k7, l7, a8, k8, l8, a9, k9, l9, a10, k10, l10, a11, k11, l11, true_and, and_true, Option.some.injEq, exists_eq_left', nmOf_0, nmOf_1, nmOf_2, nmOf_3, nmOf_4, nmOf_5, nmOf_6, Nat.add_sub_cancel, Nat.reduceSub, Nat.reduceLT, Nat.reduceEqDiff, ne_eq, not_false_eq_true]
  refine ⟨by omega, ?_⟩
  rw [show (9 * (bn : Int) + kn).toNat = 9 * bn + kn by omega]
  exact hq
