/-! ===== the class: setSun ===== -/
theorem CH_rc {h h' : Hp} {D : WD} {S T : SS} {r : Nat} (hH : CH h D S r) (hf : ∀ k, fi h' 2 k (D 2 r) = fi h 2 k (D 2 r)) (hi : ∀ a i, ia h' a i = ia h a i) (h0 : T.nl = S.nl) (h1 : SS.nb T = SS.nb S) (h2 : SS.bf T = SS.bf S) (h4 : SS.lf T = SS.lf S) (h3 : ∀ k, T.sn r k = S.sn r k) : CH h' D T r := by
  have eb : ∀ c, bel T r c = bel S r c := fun c => bel_rc h1 h2 h3 c
  have es : ∀ c, shd T r c = shd S r c := fun c => shd_rc h1 h2 h3 c
  have ea : ∀ b, area T b r = area S b r := fun b => sumN_congr _ (fun c _ => by rw [eb])
  have eh : ∀ l, hasH T l r = hasH S l r := fun l => by unfold hasH; rw [h4]
  have ew : ∀ b p q, wnt T b r p q = wnt S b r p q := fun b p q => by unfold wnt; rw [h0, h4]; exact sumN_congr _ (fun l _ => by rw [eh])
  have eg : ∀ l, gts T l r = gts S l r := fun l => by unfold gts free; rw [eh, h4, ea, ew]
  have ei : ∀ l, isSh T l r = isSh S l r := fun l => by unfold isSh; rw [eh, eg, h4]
  have e0 : hrT T r 0 = hrT S r 0 := sumN_congr _ (fun c _ => by rw [eb])
  have e1 : hrT T r 1 = hrT S r 1 := sumN_congr _ (fun c _ => by rw [es])
  have e2 : hrT T r 2 = hrT S r 2 := by show sumN _ T.nl = sumN _ S.nl; rw [h0]; exact sumN_congr _ (fun l _ => eg l)
  have e3 : hrT T r 3 = hrT S r 3 := by show sumN _ T.nl = sumN _ S.nl; rw [h0]; exact sumN_congr _ (fun l _ => by rw [ei])
  simp only [CH, HM, HL, hf, hi, eb, es, ea, eg, e0, e1, e2, e3, h0]
  exact hH
def sunH (h : Hp) (a : Nat) (x y l : Int) : Hp := setI (setI (setI (setI (setI h 2 1 a (i32 x)) 2 2 a (i32 y)) 2 3 a (i32 l)) 2 4 a (i32 0)) 2 11 a (i32 0)
theorem CI_s {G : GT} {h : Hp} {D : WD} {S : SS} {r : Nat} {x y l : Int} (hI : CI G h D S) (hr : r < 12) : CI G (sunH h (D 2 r) x y l) D (S.uS r (sS x y l)) := by
  obtain ⟨⟨a, a', c1, c2, c3, c4, d, e1, e2, e3, e4⟩, ⟨p1, p2, p3, p4, p5, p6, p7, p8⟩, hH⟩ := hI
  have hne : ∀ r', r' < 12 → r' ≠ r → ¬ D 2 r' = D 2 r := fun r' hr' q z => q (e4.2.1 r' r hr' hr z)
  have hoth : ∀ r', r' < 12 → r' ≠ r → ∀ k, fi (sunH h (D 2 r) x y l) 2 k (D 2 r') = fi h 2 k (D 2 r') := fun r' hr' q k => by
    have := hne r' hr' q
    unfold sunH
    rw [fi_setI, if_neg (fun z => this z.2.2), fi_setI, if_neg (fun z => this z.2.2), fi_setI, if_neg (fun z => this z.2.2), fi_setI, if_neg (fun z => this z.2.2), fi_setI, if_neg (fun z => this z.2.2)]
  have hth : ∀ c k b, c ≠ 2 → fi (sunH h (D 2 r) x y l) c k b = fi h c k b := fun c k b q => by
    unfold sunH
    rw [fi_setI, if_neg (fun z => q z.1), fi_setI, if_neg (fun z => q z.1), fi_setI, if_neg (fun z => q z.1), fi_setI, if_neg (fun z => q z.1), fi_setI, if_neg (fun z => q z.1)]
  have hgl : ∀ {aa q cap n f}, Lst G h aa q cap n f → Lst G (sunH h (D 2 r) x y l) aa q cap n f := fun hL => hL.eq rfl (hth 0 2 _ (by omega)) rfl rfl rfl (fun _ => rfl)
  refine ⟨⟨a, a', c1, c2, c3, c4, ⟨hgl d.1, hgl d.2.1, hgl d.2.2⟩, e1, e2, e3, e4⟩, ⟨(hth 5 5 _ (by omega)).trans p1, (hth 5 6 _ (by omega)).trans p2, p3, p4, p5, fun b hb => ?_, fun i hi => ?_, fun r' hr' => ?_⟩, fun r' hr' => ?_⟩
  · have q := fun k => hth 1 k (D 1 b) (by omega)
    simp only [BD, q]
    exact p6 b hb
  · have q := fun k => hth 3 k (D 3 i) (by omega)
    simp only [LD, q]
    exact p7 i hi
  · obtain ⟨q0, q1, q2, q3⟩ := p8 r' hr'
    by_cases z : r' = r
    · subst z
      have e : ∀ k, (S.uS r' (sS x y l)).sn r' k = sS x y l k := fun k => by rw [sn_uS, if_pos rfl]
      simp only [HD, e]
      unfold sunH
      refine ⟨?_, ?_, ?_, ?_⟩
      · rw [fi_setI, if_neg (by omega), fi_setI, if_neg (by omega), fi_setI, if_neg (by omega), fi_setI, if_neg (by omega), fi_setI, if_neg (by omega)]; exact q0
      · rw [fi_setI, if_neg (by omega), fi_setI, if_neg (by omega), fi_setI, if_neg (by omega), fi_setI, if_neg (by omega), fi_setI, if_pos ⟨rfl, rfl, rfl⟩]; rfl
      · rw [fi_setI, if_neg (by omega), fi_setI, if_neg (by omega), fi_setI, if_neg (by omega), fi_setI, if_pos ⟨rfl, rfl, rfl⟩]; rfl
      · rw [fi_setI, if_neg (by omega), fi_setI, if_neg (by omega), fi_setI, if_pos ⟨rfl, rfl, rfl⟩]; rfl
    · have e : ∀ k, (S.uS r (sS x y l)).sn r' k = S.sn r' k := fun k => by rw [sn_uS, if_neg z]
      have q := hoth r' hr' z
      simp only [HD, e, q]
      exact ⟨q0, q1, q2, q3⟩
  · by_cases z : r' = r
    · subst z
      have f4 : fi (sunH h (D 2 r') x y l) 2 4 (D 2 r') = i32 0 := by unfold sunH; rw [fi_setI, if_neg (by omega), fi_setI, if_pos ⟨rfl, rfl, rfl⟩]
      have f11 : fi (sunH h (D 2 r') x y l) 2 11 (D 2 r') = i32 0 := by unfold sunH; rw [fi_setI, if_pos ⟨rfl, rfl, rfl⟩]
      have ne : ¬ i32 0 = i32 1 := by rw [i32_eq (by omega) (by omega)]; omega
      exact ⟨Or.inl f4, Or.inl f11, fun y => absurd (f4.symm.trans y) ne, fun y => absurd (f11.symm.trans y) ne⟩
    · exact CH_rc (hH r' hr') (hoth r' hr' z) (fun _ _ => rfl) rfl rfl rfl rfl (fun k => by rw [sn_uS, if_neg z])
def ct_X4_setSun_t (G : GT) (D : WD) (S : SS) : Ct := fun As h Q QX => sR As fun c r => sI r fun hr r => sI r fun x r => sI r fun y r => sI r fun l r => s0 r (CI G h D S ∧ c = D 0 0 ∧ ((0 ≤ hr.toInt ∧ hr.toInt ≤ 11) ∧ vsC x.toInt y.toInt l.toInt → nxc G h D S (S.uS (tn hr) (sS x.toInt y.toInt l.toInt)) Q (.int (i32 (S.sn (tn hr) 2)))) ∧ (¬ (0 ≤ hr.toInt ∧ hr.toInt ≤ 11) → QX IOB h) ∧ ((0 ≤ hr.toInt ∧ hr.toInt ≤ 11) ∧ ¬ vsC x.toInt y.toInt l.toInt → QX IAE h))
def ce_X4_setSun_t (G : GT) (D : WD) (S : SS) : CE := (0, yX4_setSun, MX4_setSun, 4, 9, 8, 48, ct_X4_setSun_t G D S)
set_option maxRecDepth 100000 in
set_option maxHeartbeats 4000000 in
theorem ok_X4_setSun_t (G : GT) (G : GT) (D : WD) (S : SS) (hW : WF S) : OKm G yX4_setSun MX4_setSun 9 8 48 (ct_X4_setSun_t G D S) := by
  refine mkOK (ini := false) (by decide) rfl (by first | exact fun _ => rfl | (intro hh; cases hh)) (fun As h Q QX hc => ?_)
  replace hc := sR_e hc; obtain ⟨c, r, rfl, hc⟩ := hc
  replace hc := sI_e hc; obtain ⟨hr, r, rfl, hc⟩ := hc
  replace hc := sI_e hc; obtain ⟨x, r, rfl, hc⟩ := hc
  replace hc := sI_e hc; obtain ⟨y, r, rfl, hc⟩ := hc
  replace hc := sI_e hc; obtain ⟨l, r, rfl, hc⟩ := hc
  replace hc := s0_e hc; obtain ⟨rfl, hc⟩ := hc
  obtain ⟨hI, rfl, hq, hx1, hx2⟩ := hc
  obtain ⟨rV, hrV, rfl⟩ := i32_all hr
  obtain ⟨xV, hxV, rfl⟩ := i32_all x
  obtain ⟨yV, hyV, rfl⟩ := i32_all y
  obtain ⟨nV, hnV, rfl⟩ := i32_all l
  simp only [i32_toInt hrV, tn_i hrV, i32_toInt hxV, i32_toInt hyV, i32_toInt hnV] at hq hx1 hx2
  have hD := hI.cd
  have hD0 := hD
  have hA0 := hD.1
  have hB0 := hD.2
  obtain ⟨⟨kC, rC0, rC1, rC2, rC3, rC4⟩, ⟨kQ, rQ0, rQ1⟩, ⟨kV, lV⟩, ⟨kG, lG⟩, ⟨kP, lP⟩, ⟨kT, lT⟩, ⟨⟨LB1, LB2, LB3, LB4, LB5, LB6, LB7⟩, ⟨LH1, LH2, LH3, LH4, LH5, LH6, LH7⟩, ⟨LL1, LL2, LL3, LL4, LL5, LL6, LL7⟩⟩, hKB, hHA, hKL, hCJ⟩ := hA0
  obtain ⟨dDy, dEv, dG, dP, dV, dB, dL, dH⟩ := hB0
  have hnb := hW.1
  have hnl := hW.2.1
  refine ⟨Nat.le_of_ble_eq_true rfl, ?_⟩
  simp only [ent, entL, catN, List.length_cons, List.length_nil, List.replicate, List.cons_append, List.nil_append, reduceIte, Nat.reduceEqDiff,  Nat.reduceAdd, Nat.reduceSub, mnl_X4_setSun]
  refine wpW (cs := [(106, ce_X4_hourAt_t G D S), (42, ce_X4_needArgument_t), (124, ce_X1_forgetShade G D S)]) (stop := [5]) (n := 200) (env_cons (ceV (by decide +kernel) ⟨by decide, by decide, by decide +kernel⟩ (by decide) rfl (ok_X4_hourAt_t G G D S hW)) (env_cons (ceS (by decide +kernel) ⟨by decide, by decide, by decide +kernel⟩ (by decide) (ok_X4_needArgument_t G)) (env_cons (ceV (by decide +kernel) ⟨by decide, by decide, by decide +kernel⟩ (by decide) rfl (ok_X1_forgetShade G G D S hW)) (env_nil0 (env_hh rfl))))) ?_
  simp only [↓wpN_S, ↓step_u, ↓stC_s, stC_s, ↓stF_u, stF_u, ↓stepI, lenI, ↓kN_u, isS, ↓gI_0, ↓gI_S, ↓gL_0, ↓gL_S, ↓gD_0, ↓gD_S, ↓gR_0, ↓gR_S, ↓sI_c, ↓sL_c, ↓sD_c, ↓sR_c, ↓s1_r, ↓s1_i, ↓vR_r, ↓vR_n, ↓s0_n, s0_n, ↓oR_u, ↓sP_u, ↓sPa_0, ↓sPa_S, ↓lkC_c, ↓callK_u, ↓cQ_s, ↓cQ_n, putL, putW, clr, kil, catS, catN, refF, booF, finF, nF, nmOf_0, nmOf_1, nmOf_2, nmOf_3, nmOf_4, nmOf_5, nmOf_6, nmOf_50, nmOf_51, nmOf_52, ↓reduceIte, reduceIte, Bool.false_eq_true, eq_self, true_or, or_true, true_and, and_true, false_or, or_false, Nat.reduceAdd, Nat.reduceSub, Nat.reduceEqDiff, Nat.reduceLT, Nat.reduceLeDiff, reduceCtorEq, true_implies, List.length_cons, List.length_nil, List.replicate, List.cons_append, List.nil_append, mrt_X4_setSun, mhh_X4_setSun, mow_X4_setSun, mnl_X4_setSun, DX4_setSun_0, DX4_setSun_1, DX4_setSun_2, DX4_setSun_5, DX4_setSun_7, DX4_setSun_8, DX4_setSun_9, DX4_setSun_10, DX4_setSun_13, DX4_setSun_14, DX4_setSun_15, DX4_setSun_16, DX4_setSun_19, DX4_setSun_21, DX4_setSun_22, DX4_setSun_24, DX4_setSun_27, DX4_setSun_28, DX4_setSun_31, DX4_setSun_32, DX4_setSun_35, DX4_setSun_38, DX4_setSun_39, DX4_setSun_41, DX4_setSun_44, DX4_setSun_45, DX4_setSun_47, DX4_setSun_50, DX4_setSun_52, DX4_setSun_54, DX4_setSun_55, DX4_setSun_58, DX4_setSun_60, DX4_setSun_61, DX4_setSun_64, DX4_setSun_66, DX4_setSun_68, DX4_setSun_71, DX4_setSun_73, DX4_setSun_76, DX4_setSun_78, ce_X4_hourAt_t, ↓ct_X4_hourAt_t, ycl_X4_hourAt, ce_X4_needArgument_t, ↓ct_X4_needArgument_t, ycl_X4_needArgument, ce_X1_forgetShade, ↓ct_X1_forgetShade, ycl_X1_forgetShade, cX_nil mhh_X4_setSun]
  simp (disch := omega) only [i32_lit, i32_neg, i32_add, i32_mul, i32_sub, i32_nI, i32_lt, i32_le, i32_eq, inR_i, i32_clamp, i32_div, i32_max, i32_min, ite_max, ite_min, b2i_0, b2i_1, b2i_01, i32_toInt, tn_i, Int.toNat_natCast, em_t, true_and, and_true, Int.reduceToNat, Int.reduceLE, Int.reduceLT, Int.reduceAdd, Int.reduceMul, Int.reduceSub, Int.reduceNeg, Int.reduceEq, true_implies, not_true_eq_false, false_implies, not_false_eq_true, kC, rC0, rC1, rC2, rC3, rC4, kQ, rQ0, rQ1, kV, lV, kG, lG, kP, lP, kT, lT, LB1, LB2, LB3, LH1, LH2, LH3, LL1, LL2, LL3, dDy, dEv, true_and, and_true, Option.some.injEq, exists_eq_left', nmOf_0, nmOf_1, nmOf_2, nmOf_3, nmOf_4, nmOf_5, nmOf_6, Nat.add_sub_cancel, Nat.reduceSub, Nat.reduceLT, Nat.reduceEqDiff, ne_eq, not_false_eq_true, hD0]
  refine ⟨fun h1 => ?_, fun z => hx1 (by omega)⟩
  have h3 := h1.2
  obtain ⟨r, rfl⟩ := Int.eq_ofNat_of_zero_le h1.1
  simp only [Int.toNat_natCast] at hq ⊢
  have hr : r < 12 := by omega
  have hfin : vsC xV yV nV → Q (some (.int (i32 (S.sn r 2)))) (sunH h (D 2 r) xV yV nV) := fun hv => (hq ⟨by omega, hv⟩).of rfl rfl _ (by
    unfold sunH
    exact ((((Fr.sI (WO.h (by omega) hr)).tr (Fr.sI (WO.h (by omega) hr))).tr (Fr.sI (WO.h (by omega) hr))).tr (Fr.sI (WO.h (by omega) hr))).tr (Fr.sI (WO.h (by omega) hr))) (CI_s hI hr)
  obtain ⟨kH, ⟨rH5, rH6, rH7, rH8, rH12⟩, ⟨kH4, lH4⟩, ⟨kH5, lH5⟩, ⟨kH6, lH6⟩, ⟨kH7, lH7⟩⟩ := hHA r hr
  obtain ⟨eH0, eH1, eH2, eH3⟩ := dH r hr
  have qH := LH7 r hr
  obtain ⟨kqH, lqH⟩ := LH6 (by omega)
  obtain ⟨vH0, vH0', vH1, vH1', -, vH2, vH2'⟩ := hW.2.2.2.2.1 r hr
  refine wpW (cs := [(106, ce_X4_hourAt_t G D S), (42, ce_X4_needArgument_t), (124, ce_X1_forgetShade G D S)]) (stop := []) (n := 200) (env_cons (ceV (by decide +kernel) ⟨by decide, by decide, by decide +kernel⟩ (by decide) rfl (ok_X4_hourAt_t G G D S hW)) (env_cons (ceS (by decide +kernel) ⟨by decide, by decide, by decide +kernel⟩ (by decide) (ok_X4_needArgument_t G)) (env_cons (ceV (by decide +kernel) ⟨by decide, by decide, by decide +kernel⟩ (by decide) rfl (ok_X1_forgetShade G G D S hW)) (env_nil0 (env_hh rfl))))) ?_
  simp only [↓wpN_S, ↓step_u, ↓stC_s, stC_s, ↓stF_u, stF_u, ↓stepI, lenI, ↓kN_u, isS, ↓gI_0, ↓gI_S, ↓gL_0, ↓gL_S, ↓gD_0, ↓gD_S, ↓gR_0, ↓gR_S, ↓sI_c, ↓sL_c, ↓sD_c, ↓sR_c, ↓s1_r, ↓s1_i, ↓vR_r, ↓vR_n, ↓s0_n, s0_n, ↓oR_u, ↓sP_u, ↓sPa_0, ↓sPa_S, ↓lkC_c, ↓callK_u, ↓cQ_s, ↓cQ_n, putL, putW, clr, kil, catS, catN, refF, booF, finF, nF, nmOf_0, nmOf_1, nmOf_2, nmOf_3, nmOf_4, nmOf_5, nmOf_6, nmOf_50, nmOf_51, nmOf_52, ↓reduceIte, reduceIte, Bool.false_eq_true, eq_self, true_or, or_true, true_and, and_true, false_or, or_false, Nat.reduceAdd, Nat.reduceSub, Nat.reduceEqDiff, Nat.reduceLT, Nat.reduceLeDiff, reduceCtorEq, true_implies, List.length_cons, List.length_nil, List.replicate, List.cons_append, List.nil_append, mrt_X4_setSun, mhh_X4_setSun, mow_X4_setSun, mnl_X4_setSun, DX4_setSun_0, DX4_setSun_1, DX4_setSun_2, DX4_setSun_5, DX4_setSun_7, DX4_setSun_8, DX4_setSun_9, DX4_setSun_10, DX4_setSun_13, DX4_setSun_14, DX4_setSun_15, DX4_setSun_16, DX4_setSun_19, DX4_setSun_21, DX4_setSun_22, DX4_setSun_24, DX4_setSun_27, DX4_setSun_28, DX4_setSun_31, DX4_setSun_32, DX4_setSun_35, DX4_setSun_38, DX4_setSun_39, DX4_setSun_41, DX4_setSun_44, DX4_setSun_45, DX4_setSun_47, DX4_setSun_50, DX4_setSun_52, DX4_setSun_54, DX4_setSun_55, DX4_setSun_58, DX4_setSun_60, DX4_setSun_61, DX4_setSun_64, DX4_setSun_66, DX4_setSun_68, DX4_setSun_71, DX4_setSun_73, DX4_setSun_76, DX4_setSun_78, ce_X4_hourAt_t, ↓ct_X4_hourAt_t, ycl_X4_hourAt, ce_X4_needArgument_t, ↓ct_X4_needArgument_t, ycl_X4_needArgument, ce_X1_forgetShade, ↓ct_X1_forgetShade, ycl_X1_forgetShade, cX_nil mhh_X4_setSun]
  simp (disch := omega) only [i32_lit, i32_neg, i32_add, i32_mul, i32_sub, i32_nI, i32_lt, i32_le, i32_eq, inR_i, i32_clamp, i32_div, i32_max, i32_min, ite_max, ite_min, b2i_0, b2i_1, b2i_01, i32_toInt, tn_i, Int.toNat_natCast, em_t, true_and, and_true, Int.reduceToNat, Int.reduceLE, Int.reduceLT, Int.reduceAdd, Int.reduceMul, Int.reduceSub, Int.reduceNeg, Int.reduceEq, true_implies, not_true_eq_false, false_implies, not_false_eq_true, kC, rC0, rC1, rC2, rC3, rC4, kQ, rQ0, rQ1, kV, lV, kG, lG, kP, lP, kT, lT, LB1, LB2, LB3, LH1, LH2, LH3, LL1, LL2, LL3, dDy, dEv, true_and, and_true, Option.some.injEq, exists_eq_left', nmOf_0, nmOf_1, nmOf_2, nmOf_3, nmOf_4, nmOf_5, nmOf_6, Nat.add_sub_cancel, Nat.reduceSub, Nat.reduceLT, Nat.reduceEqDiff, ne_eq, not_false_eq_true, kH, rH5, rH6, rH7, rH8, rH12, kH4, lH4, kH5, lH5, kH6, lH6, kH7, lH7, eH0, eH1, eH2, eH3, qH, kqH, lqH, kd_setI, fi_setI, fr_setI, ln_setI, ia_setI, ja_setI, ra_setI, kd_setR, fi_setR, fr_setR, ln_setR, ia_setR, ja_setR, ra_setR, kd_setIA, fi_setIA, fr_setIA, ln_setIA, ia_setIA, ja_setIA, ra_setIA, kd_setLA, fi_setLA, fr_setLA, ln_setLA, ia_setLA, ja_setLA, ra_setLA, kd_setRA, fi_setRA, fr_setRA, ln_setRA, ia_setRA, ja_setRA, ra_setRA, kd_cpRA, fi_cpRA, fr_cpRA, ln_cpRA, ia_cpRA, ja_cpRA, ra_cpRA, kd_cpIA, fi_cpIA, fr_cpIA, ln_cpIA, ia_cpIA, ja_cpIA, ra_cpIA, kd_newO, fi_newO, fr_newO, ln_newO, ia_newO, ja_newO, ra_newO, kd_newA, fi_newA, fr_newA, ln_newA, ia_newA, ja_newA, ra_newA]
  have hbad : ¬ vsC xV yV nV → QX IAE h := fun z => hx2 ⟨by omega, z⟩
  exact ⟨fun a1 => ⟨fun a2 => ⟨fun a3 => ⟨fun a4 => hfin ⟨a1, a2, fun z => a4 z.1, a3⟩, fun a4 => ⟨fun a5 => hfin ⟨a1, a2, fun z => a5 z.2, a3⟩, fun a5 => ⟨thr_X4_setSun, hbad (fun z => z.2.2.1 ⟨a4, a5⟩)⟩⟩⟩, fun z => hbad (fun y => z y.2.2.2)⟩, fun z => hbad (fun y => z y.2.1)⟩, fun z => hbad (fun y => z y.1)⟩

