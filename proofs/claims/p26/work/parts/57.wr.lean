/-! ===== the class: raise, end, setPrice, setSun ===== -/
theorem nxc.of {G : GT} {h : Hp} {D : WD} {S S' : SS} {Q : Option Value → Hp → Prop} {v : Value} (hq : nxc G h D S S' Q v) (h1 : S'.nb = S.nb) (h2 : S'.nl = S.nl) : ∀ h', Fr h h' (WO D S) → CI G h' D S' → Q (some v) h' := fun h' f hI => hq h' D rfl f (fun a ha => Or.inl (by
  rcases ha with ⟨i, hi, e⟩ | ⟨b, hb, e⟩ | ⟨l, hl, e⟩ | ⟨t, r, ht, hr, e⟩
  · exact Or.inl ⟨i, hi, e⟩
  · exact Or.inr (Or.inl ⟨b, by rw [← h1]; exact hb, e⟩)
  · exact Or.inr (Or.inr (Or.inl ⟨l, by rw [← h2]; exact hl, e⟩))
  · exact Or.inr (Or.inr (Or.inr ⟨t, r, ht, hr, e⟩)))) hI
def ct_X4_raise_t (G : GT) (D : WD) (S : SS) : Ct := fun As h Q QX => sR As fun c r => sI r fun b r => sI r fun v r => s0 r (CI G h D S ∧ c = D 0 0 ∧ (((0 ≤ b.toInt ∧ b.toInt < S.nb) ∧ S.bf (tn b) 6 = 1) ∧ (1 ≤ v.toInt ∧ v.toInt ≤ 9) → nxc G h D S (S.uB (tn b) 4 v.toInt) Q (.int (i32 (S.bf (tn b) 4)))) ∧ (¬ ((0 ≤ b.toInt ∧ b.toInt < S.nb) ∧ S.bf (tn b) 6 = 1) → QX IOB h) ∧ (((0 ≤ b.toInt ∧ b.toInt < S.nb) ∧ S.bf (tn b) 6 = 1) ∧ ¬ (1 ≤ v.toInt ∧ v.toInt ≤ 9) → QX IAE h))
def ce_X4_raise_t (G : GT) (D : WD) (S : SS) : CE := (0, yX4_raise, MX4_raise, 2, 10, 8, 48, ct_X4_raise_t G D S)
set_option maxRecDepth 100000 in
set_option maxHeartbeats 4000000 in
theorem ok_X4_raise_t (G : GT) (G : GT) (D : WD) (S : SS) (hW : WF S) : OKm G yX4_raise MX4_raise 10 8 48 (ct_X4_raise_t G D S) := by
  refine mkOK (ini := false) (by decide) rfl (by first | exact fun _ => rfl | (intro hh; cases hh)) (fun As h Q QX hc => ?_)
  replace hc := sR_e hc; obtain ⟨c, r, rfl, hc⟩ := hc
  replace hc := sI_e hc; obtain ⟨b, r, rfl, hc⟩ := hc
  replace hc := sI_e hc; obtain ⟨v, r, rfl, hc⟩ := hc
  replace hc := s0_e hc; obtain ⟨rfl, hc⟩ := hc
  obtain ⟨hI, rfl, hq, hx1, hx2⟩ := hc
  obtain ⟨bV, hbV, rfl⟩ := i32_all b
  obtain ⟨vV, hvV, rfl⟩ := i32_all v
  simp only [i32_toInt hbV, tn_i hbV, i32_toInt hvV] at hq hx1 hx2
  have hD := hI.cd
  have hD0 := hD
  have hA0 := hD.1
  have hB0 := hD.2
  obtain ⟨⟨kC, rC0, rC1, rC2, rC3, rC4⟩, ⟨kQ, rQ0, rQ1⟩, ⟨kV, lV⟩, ⟨kG, lG⟩, ⟨kP, lP⟩, ⟨kT, lT⟩, ⟨⟨LB1, LB2, LB3, LB4, LB5, LB6, LB7⟩, ⟨LH1, LH2, LH3, LH4, LH5, LH6, LH7⟩, ⟨LL1, LL2, LL3, LL4, LL5, LL6, LL7⟩⟩, hKB, hHA, hKL, hCJ⟩ := hA0
  obtain ⟨dDy, dEv, dG, dP, dV, dB, dL, dH⟩ := hB0
  have hnb := hW.1
  have hnl := hW.2.1
  refine ⟨Nat.le_of_ble_eq_true rfl, ?_⟩
  simp only [ent, entL, catN, List.length_cons, List.length_nil, List.replicate, List.cons_append, List.nil_append, reduceIte, Nat.reduceEqDiff,  Nat.reduceAdd, Nat.reduceSub, mnl_X4_raise]
  refine wpW (cs := [(76, ce_X4_standingBuilding_t G D S), (42, ce_X4_needArgument_t), (102, ce_X4_changeHeight G D S)]) (stop := [13]) (n := 200) (env_cons (ceV (by decide +kernel) ⟨by decide, by decide, by decide +kernel⟩ (by decide) rfl (ok_X4_standingBuilding_t G G D S hW)) (env_cons (ceS (by decide +kernel) ⟨by decide, by decide, by decide +kernel⟩ (by decide) (ok_X4_needArgument_t G)) (env_cons (ceV (by decide +kernel) ⟨by decide, by decide, by decide +kernel⟩ (by decide) rfl (ok_X4_changeHeight G G D S hW)) (env_nil0 (env_hh rfl))))) ?_
  simp only [↓wpN_S, ↓step_u, ↓stC_s, stC_s, ↓stF_u, stF_u, ↓stepI, lenI, ↓kN_u, isS, ↓gI_0, ↓gI_S, ↓gL_0, ↓gL_S, ↓gD_0, ↓gD_S, ↓gR_0, ↓gR_S, ↓sI_c, ↓sL_c, ↓sD_c, ↓sR_c, ↓s1_r, ↓s1_i, ↓vR_r, ↓vR_n, ↓s0_n, s0_n, ↓oR_u, ↓sP_u, ↓sPa_0, ↓sPa_S, ↓lkC_c, ↓callK_u, ↓cQ_s, ↓cQ_n, putL, putW, clr, kil, catS, catN, refF, booF, finF, nF, nmOf_0, nmOf_1, nmOf_2, nmOf_3, nmOf_4, nmOf_5, nmOf_6, nmOf_50, nmOf_51, nmOf_52, ↓reduceIte, reduceIte, Bool.false_eq_true, eq_self, true_or, or_true, true_and, and_true, false_or, or_false, Nat.reduceAdd, Nat.reduceSub, Nat.reduceEqDiff, Nat.reduceLT, Nat.reduceLeDiff, reduceCtorEq, true_implies, List.length_cons, List.length_nil, List.replicate, List.cons_append, List.nil_append, mrt_X4_raise, mhh_X4_raise, mow_X4_raise, mnl_X4_raise, DX4_raise_0, DX4_raise_1, DX4_raise_2, DX4_raise_5, DX4_raise_6, DX4_raise_7, DX4_raise_8, DX4_raise_10, DX4_raise_13, DX4_raise_14, DX4_raise_17, DX4_raise_19, DX4_raise_20, DX4_raise_21, DX4_raise_22, DX4_raise_25, DX4_raise_27, ce_X4_standingBuilding_t, ↓ct_X4_standingBuilding_t, ycl_X4_standingBuilding, ce_X4_needArgument_t, ↓ct_X4_needArgument_t, ycl_X4_needArgument, ce_X4_changeHeight, ↓ct_X4_changeHeight, ycl_X4_changeHeight, cX_nil mhh_X4_raise]
  simp (disch := omega) only [i32_lit, i32_neg, i32_add, i32_mul, i32_sub, i32_nI, i32_lt, i32_le, i32_eq, inR_i, i32_clamp, i32_div, i32_max, i32_min, ite_max, ite_min, b2i_0, b2i_1, b2i_01, i32_toInt, tn_i, Int.toNat_natCast, em_t, true_and, and_true, Int.reduceToNat, Int.reduceLE, Int.reduceLT, Int.reduceAdd, Int.reduceMul, Int.reduceSub, Int.reduceNeg, Int.reduceEq, true_implies, not_true_eq_false, false_implies, not_false_eq_true, kC, rC0, rC1, rC2, rC3, rC4, kQ, rQ0, rQ1, kV, lV, kG, lG, kP, lP, kT, lT, LB1, LB2, LB3, LH1, LH2, LH3, LL1, LL2, LL3, dDy, dEv, true_and, and_true, Option.some.injEq, exists_eq_left', nmOf_0, nmOf_1, nmOf_2, nmOf_3, nmOf_4, nmOf_5, nmOf_6, Nat.add_sub_cancel, Nat.reduceSub, Nat.reduceLT, Nat.reduceEqDiff, ne_eq, not_false_eq_true, hD0]
  refine ⟨fun h1 => ⟨fun h2 => ?_, fun z => hx2 ⟨h1, z⟩⟩, fun z => hx1 z⟩
  replace hq := (hq ⟨h1, h2⟩).of rfl rfl
  have h3 := h1.1.2
  obtain ⟨b, rfl⟩ := Int.eq_ofNat_of_zero_le h1.1.1
  simp only [Int.toNat_natCast] at hq ⊢
  have hb : b < S.nb := by omega
  have kB := hKB b hb
  obtain ⟨eB0, eB1, eB2, eB3, eB4, eB5, eB6, eB7⟩ := dB b hb
  have qB := LB7 b hb
  obtain ⟨kqB, lqB⟩ := LB6 (by omega)
  obtain ⟨vB0, vB2, vB2', vB02, vB1, vB3, vB3', vB13, vB4, vB4', vB5, vB5', vB6⟩ := hW.2.2.1 b hb
  refine Wp.z ?_
  refine wpW (cs := [(76, ce_X4_standingBuilding_t G D S), (42, ce_X4_needArgument_t), (102, ce_X4_changeHeight G D S)]) (stop := []) (n := 200) (env_cons (ceV (by decide +kernel) ⟨by decide, by decide, by decide +kernel⟩ (by decide) rfl (ok_X4_standingBuilding_t G G D S hW)) (env_cons (ceS (by decide +kernel) ⟨by decide, by decide, by decide +kernel⟩ (by decide) (ok_X4_needArgument_t G)) (env_cons (ceV (by decide +kernel) ⟨by decide, by decide, by decide +kernel⟩ (by decide) rfl (ok_X4_changeHeight G G D S hW)) (env_nil0 (env_hh rfl))))) ?_
  simp only [↓wpN_S, ↓step_u, ↓stC_s, stC_s, ↓stF_u, stF_u, ↓stepI, lenI, ↓kN_u, isS, ↓gI_0, ↓gI_S, ↓gL_0, ↓gL_S, ↓gD_0, ↓gD_S, ↓gR_0, ↓gR_S, ↓sI_c, ↓sL_c, ↓sD_c, ↓sR_c, ↓s1_r, ↓s1_i, ↓vR_r, ↓vR_n, ↓s0_n, s0_n, ↓oR_u, ↓sP_u, ↓sPa_0, ↓sPa_S, ↓lkC_c, ↓callK_u, ↓cQ_s, ↓cQ_n, putL, putW, clr, kil, catS, catN, refF, booF, finF, nF, nmOf_0, nmOf_1, nmOf_2, nmOf_3, nmOf_4, nmOf_5, nmOf_6, nmOf_50, nmOf_51, nmOf_52, ↓reduceIte, reduceIte, Bool.false_eq_true, eq_self, true_or, or_true, true_and, and_true, false_or, or_false, Nat.reduceAdd, Nat.reduceSub, Nat.reduceEqDiff, Nat.reduceLT, Nat.reduceLeDiff, reduceCtorEq, true_implies, List.length_cons, List.length_nil, List.replicate, List.cons_append, List.nil_append, mrt_X4_raise, mhh_X4_raise, mow_X4_raise, mnl_X4_raise, DX4_raise_0, DX4_raise_1, DX4_raise_2, DX4_raise_5, DX4_raise_6, DX4_raise_7, DX4_raise_8, DX4_raise_10, DX4_raise_13, DX4_raise_14, DX4_raise_17, DX4_raise_19, DX4_raise_20, DX4_raise_21, DX4_raise_22, DX4_raise_25, DX4_raise_27, ce_X4_standingBuilding_t, ↓ct_X4_standingBuilding_t, ycl_X4_standingBuilding, ce_X4_needArgument_t, ↓ct_X4_needArgument_t, ycl_X4_needArgument, ce_X4_changeHeight, ↓ct_X4_changeHeight, ycl_X4_changeHeight, cX_nil mhh_X4_raise]
  simp (disch := omega) only [i32_lit, i32_neg, i32_add, i32_mul, i32_sub, i32_nI, i32_lt, i32_le, i32_eq, inR_i, i32_clamp, i32_div, i32_max, i32_min, ite_max, ite_min, b2i_0, b2i_1, b2i_01, i32_toInt, tn_i, Int.toNat_natCast, em_t, true_and, and_true, Int.reduceToNat, Int.reduceLE, Int.reduceLT, Int.reduceAdd, Int.reduceMul, Int.reduceSub, Int.reduceNeg, Int.reduceEq, true_implies, not_true_eq_false, false_implies, not_false_eq_true, kC, rC0, rC1, rC2, rC3, rC4, kQ, rQ0, rQ1, kV, lV, kG, lG, kP, lP, kT, lT, LB1, LB2, LB3, LH1, LH2, LH3, LL1, LL2, LL3, dDy, dEv, true_and, and_true, Option.some.injEq, exists_eq_left', nmOf_0, nmOf_1, nmOf_2, nmOf_3, nmOf_4, nmOf_5, nmOf_6, Nat.add_sub_cancel, Nat.reduceSub, Nat.reduceLT, Nat.reduceEqDiff, ne_eq, not_false_eq_true, kB, eB0, eB1, eB2, eB3, eB4, eB5, eB6, eB7, qB, kqB, lqB, hD0]
  exact ⟨h2, b, hb, rfl, hq⟩
/-! leases' numbers -/
theorem CD_l {G : GT} {h : Hp} {D : WD} {S : SS} {l k : Nat} {v : Int} (hD : CD G h D S) (hl : l < S.nl) (hk : k = 5 ∨ k = 6 ∨ k = 7 ∨ k = 8) : CD G (setI h 3 (k + 1) (D 3 l) (i32 v)) D (S.uL l k v) := by
  obtain ⟨⟨a, a', c1, c2, c3, c4, d, e1, e2, e3, e4⟩, ⟨p1, p2, p3, p4, p5, p6, p7, p8⟩⟩ := hD
  refine ⟨⟨a, a', c1, c2, c3, c4, d, e1, e2, e3, e4⟩, ⟨p1, p2, p3, p4, p5, p6, fun i hi => ?_, p8⟩⟩
  obtain ⟨q0, q1, q2, q3, q4, q5, q6, q7, q8, q9⟩ := p7 i hi
  have hi' : i < S.nl := hi
  have key : ∀ j, fi h 3 (j + 1) (D 3 i) = i32 (S.lf i j) → fi (setI h 3 (k + 1) (D 3 l) (i32 v)) 3 (j + 1) (D 3 i) = i32 ((S.uL l k v).lf i j) := fun j hj => by
    rw [fi_setI, lf_uL]
    by_cases z : i = l ∧ j = k
    · rw [if_pos ⟨rfl, by omega, by rw [z.1]⟩, if_pos z]
    · rw [if_neg (fun y => z ⟨e4.2.2.1 i l hi' hl y.2.2, by omega⟩), if_neg z]; exact hj
  exact ⟨by rw [fi_setI, if_neg (by omega)]; exact q0, key 0 q1, key 1 q2, key 2 q3, key 3 q4, key 4 q5, key 5 q6, key 6 q7, key 7 q8, key 8 q9⟩
theorem HM_cg {h : Hp} {D : WD} {S T : SS} {r : Nat} (hM : HM h D S r) (h1 : SS.nb T = SS.nb S) (h2 : SS.bf T = SS.bf S) (h3 : SS.sn T = SS.sn S) : HM h D T r := by
  have eb := bel_cg h1 h2 h3
  have es := shd_cg h1 h2 h3
  obtain ⟨m1, m2, m3, m4⟩ := hM
  refine ⟨fun k hk => by rw [eb, es]; exact m1 k hk, fun b hb => by rw [area_cg h1 h2 h3]; exact m2 b hb, ?_, ?_⟩
  · show _ = i32 (sumN (fun c => if 0 ≤ bel T r c then 1 else 0) 256)
    rw [eb]; exact m3
  · show _ = i32 (sumN (fun c => if 1 < shd T r c then 1 else 0) 256)
    rw [es]; exact m4
/-- a lease's number changes, what is let is forgotten -/
theorem CI_l {G : GT} {h h' : Hp} {D : WD} {S : SS} {l k : Nat} {v : Int} (hI : CI G h D S) (hl : l < S.nl) (hk : k = 5 ∨ k = 6 ∨ k = 7 ∨ k = 8) (f : FO (setI h 3 (k + 1) (D 3 l) (i32 v)) h' D) (hF : ∀ r, r < 12 → fi h' 2 4 (D 2 r) = fi (setI h 3 (k + 1) (D 3 l) (i32 v)) 2 4 (D 2 r) ∧ fi h' 2 11 (D 2 r) = i32 0) : CI G h' D (S.uL l k v) := by
  refine CI.fa (CD_l hI.cd hl hk) (fun r hr => ?_) f hF
  obtain ⟨h1, -, h3, -⟩ := hI.2.2 r hr
  have e : ∀ j, fi (setI h 3 (k + 1) (D 3 l) (i32 v)) 2 j (D 2 r) = fi h 2 j (D 2 r) := fun j => by rw [fi_setI, if_neg (by omega)]
  rw [e]
  exact ⟨h1, fun z => HM_cg ((h3 z).st (fun _ => rfl) (fun _ => rfl) (fun _ => rfl) (e 9) (e 10)) rfl rfl rfl⟩
