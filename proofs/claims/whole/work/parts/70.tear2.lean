/-! ===== the class: tearDown ===== -/
theorem anyN_cg {p q : Nat → Bool} : ∀ n, (∀ i, i < n → p i = q i) → anyN p n = anyN q n
  | 0, _ => rfl
  | n + 1, h => by
    show (anyN p n || p n) = (anyN q n || q n)
    rw [anyN_cg n (fun i hi => h i (by omega)), h n (by omega)]
theorem isCov_td {S : SS} (hW : WF S) {b : Nat} (hb : b < S.nb) (h6 : S.bf b 6 = 1) {x y : Int} : isCov (S.uB b 6 0) x y = if cvx S b x y then false else isCov S x y := by
  have e2 : (S.uB b 6 0).nb = S.nb := rfl
  by_cases q : cvx S b x y
  · rw [if_pos q]
    refine anyN_f _ (fun i hi => ?_)
    rw [cov_uB6]
    by_cases z : i = b
    · rw [if_pos z]
    · rw [if_neg z]
      cases e : cov S i x y with
      | false => rfl
      | true => exact absurd (hW.2.2.2.2.2.2.2 i b x y hi hb e (cov_cvx.mpr ⟨h6, q⟩)) z
  · rw [if_neg q]
    refine anyN_cg _ (fun i hi => ?_)
    rw [cov_uB6]
    by_cases z : i = b
    · rw [if_pos z, z]
      cases e : cov S b x y with
      | false => rfl
      | true => exact absurd (cov_cvx.mp e).2 q
    · rw [if_neg z]
theorem CD_td {G : GT} {h h2 : Hp} {D : WD} {S : SS} {b : Nat} (hD : CD G h D S) (hW : WF S) (hb : b < S.nb) (h6 : S.bf b 6 = 1) (f : SF (setI h 1 7 (D 1 b) (i32 0)) h2 (D 0 3)) (hc : ∀ c, c < 256 → ia h2 (D 0 3) c = if inP (S.bf b 0) (S.bf b 1) (S.bf b 2) (S.bf b 3) c then i32 0 else ia h (D 0 3) c) : CD G h2 D (S.uB b 6 0) := by
  obtain ⟨⟨⟨a1, a2, a3, a4, a5, a6⟩, ⟨b1, b2, b3⟩, c1, c2, c3, c4, ⟨d1, d2, d3⟩, e1, e2, e3, e4⟩, ⟨p1, p2, p3, p4, p5, p6, p7, p8⟩⟩ := hD
  obtain ⟨g1, g2, g3, g4, g5, g6, g7⟩ := f
  have k1 : ∀ a, kd h2 a = kd h a := g1
  have k3 : ∀ c k a, fr h2 c k a = fr h c k a := g3
  have k4 : ∀ a, ln h2 a = ln h a := g4
  have k7 : ∀ a i, ra h2 a i = ra h a i := g7
  have kf : ∀ c k a, c ≠ 1 → fi h2 c k a = fi h c k a := fun c k a q => by rw [g2, fi_setI, if_neg (fun z => q z.1)]
  have ki : ∀ a i, a ≠ D 0 3 → ia h2 a i = ia h a i := g5
  have n6 : ¬ D 0 6 = D 0 3 := fun q => by rw [← q, c2.1] at c1; omega
  have n7 : ¬ D 0 7 = D 0 3 := fun q => by rw [← q, c3.1] at c1; omega
  have gl : ∀ {a q cap n f}, Lst G h a q cap n f → Lst G h2 a q cap n f := fun hL => Lst.eq hL (k1 _) (kf _ _ _ (by omega)) (k3 _ _ _) (k1 _) (k4 _) (fun i => k7 _ i)
  refine ⟨?_, (kf _ _ _ (by omega)).trans p1, (kf _ _ _ (by omega)).trans p2, fun o ho => (ki _ _ n6).trans (p3 o ho), fun t ht => (ki _ _ n7).trans (p4 t ht), fun k hk => ?_, fun i hi => ?_, fun l hl => ?_, fun r hr => ?_⟩
  · simp only [CA, HA, k1, k3, k4]
    exact ⟨⟨a1, a2, a3, a4, a5, a6⟩, ⟨b1, b2, b3⟩, c1, c2, c3, c4, ⟨gl d1, gl d2, gl d3⟩, e1, e2, e3, e4⟩
  · rw [hc k hk, isCov_td hW hb h6]
    by_cases z : cvx S b ((k % 16 : Nat) : Int) ((k / 16 : Nat) : Int)
    · have z' : inP (S.bf b 0) (S.bf b 1) (S.bf b 2) (S.bf b 3) k := z
      rw [if_pos z', if_pos z, b2i_f (by decide)]
    · have z' : ¬ inP (S.bf b 0) (S.bf b 1) (S.bf b 2) (S.bf b 3) k := z
      rw [if_neg z', if_neg z]
      exact p5 k hk
  · have hi' : i < S.nb := hi
    obtain ⟨q0, q1, q2, q3, q4, q5, q6, q7⟩ := p6 i hi'
    simp only [BD, bf_uB, g2, fi_setI, Nat.reduceEqDiff, and_false, false_and, if_false, and_true, true_and]
    refine ⟨q0, q1, q2, q3, q4, q5, q6, ?_⟩
    by_cases z : i = b
    · subst z; simp only [if_true]
    · rw [if_neg (fun y => z (e4.1 i b hi' hb y)), if_neg z]; exact q7
  · have q := fun k => kf 3 k (D 3 l) (by omega)
    simp only [LD, q]
    exact p7 l hl
  · have q := fun k => kf 2 k (D 2 r) (by omega)
    simp only [HD, q]
    exact p8 r hr
def ct_X4_tearDown_t (G : GT) (D : WD) (S : SS) : Ct := fun As h Q QX => sR As fun c r => sI r fun b r => s0 r (CI G h D S ∧ c = D 0 0 ∧ ((0 ≤ b.toInt ∧ b.toInt < S.nb) ∧ S.bf (tn b) 6 = 1 → nxc G h D S ((S.eL (tn b) S.nl).uB (tn b) 6 0) Q (.int (i32 (lsOf S (tn b))))) ∧ (¬ ((0 ≤ b.toInt ∧ b.toInt < S.nb) ∧ S.bf (tn b) 6 = 1) → QX IOB h))
def ce_X4_tearDown_t (G : GT) (D : WD) (S : SS) : CE := (0, yX4_tearDown, MX4_tearDown, 1, 10, 8, 48, ct_X4_tearDown_t G D S)
set_option maxRecDepth 100000 in
set_option maxHeartbeats 4000000 in
theorem tl_X4_tearDown76 (G : GT) {D : WD} {S : SS} (hW : WF S) {h : Hp} {v : Int32} {o1 o2 o4 o5 : Option Value} {Q : Option Value → Hp → Prop} {QX : String → Hp → Prop} (hD : CD G h D S) (hq : ∀ h', FO h h' D → CF h' D 12 → Q (some (.int v)) h') :
    Wp G MX4_tearDown false 10 Q QX 76 [some (.ref (D 0 0)), o1, o2, some (.int v), o4, o5] [] h (0, 0) := by
  have hD0 := hD
  have hA0 := hD.1
  have hB0 := hD.2
  obtain ⟨⟨kC, rC0, rC1, rC2, rC3, rC4⟩, ⟨kQ, rQ0, rQ1⟩, ⟨kV, lV⟩, ⟨kG, lG⟩, ⟨kP, lP⟩, ⟨kT, lT⟩, ⟨⟨LB1, LB2, LB3, LB4, LB5, LB6, LB7⟩, ⟨LH1, LH2, LH3, LH4, LH5, LH6, LH7⟩, ⟨LL1, LL2, LL3, LL4, LL5, LL6, LL7⟩⟩, hKB, hHA, hKL, hCJ⟩ := hA0
  obtain ⟨dDy, dEv, dG, dP, dV, dB, dL, dH⟩ := hB0
  have hnb := hW.1
  have hnl := hW.2.1
  refine wpW (cs := [(76, ce_X4_standingBuilding_t G D S), (80, ce_X4_leasesOf G D S), (49, ce_Jx4a65c_size_8abf5), (84, ce_Jx4a65c_get_915e3), (69, ce_X3_setCovered), (73, ce_X4_forgetShades G D S)]) (stop := []) (n := 200) (env_cons (ceV (by decide +kernel) ⟨by decide, by decide, by decide +kernel⟩ (by decide) rfl (ok_X4_standingBuilding_t G G D S hW)) (env_cons (ceV (by decide +kernel) ⟨by decide, by decide, by decide +kernel⟩ (by decide) rfl (ok_X4_leasesOf G G D S hW)) (env_cons (ceV (by decide +kernel) ⟨by decide, by decide, by decide +kernel⟩ (by decide) rfl (ok_Jx4a65c_size_8abf5 G)) (env_cons (ceV (by decide +kernel) ⟨by decide, by decide, by decide +kernel⟩ (by decide) rfl (ok_Jx4a65c_get_915e3 G)) (env_cons (ceV (by decide +kernel) ⟨by decide, by decide, by decide +kernel⟩ (by decide) rfl (ok_X3_setCovered G)) (env_cons (ceV (by decide +kernel) ⟨by decide, by decide, by decide +kernel⟩ (by decide) rfl (ok_X4_forgetShades G G D S hW)) (env_nil0 (env_hh rfl)))))))) ?_
  simp only [↓wpN_S, ↓step_u, ↓stC_s, stC_s, ↓stF_u, stF_u, ↓stepI, lenI, ↓kN_u, isS, ↓gI_0, ↓gI_S, ↓gL_0, ↓gL_S, ↓gD_0, ↓gD_S, ↓gR_0, ↓gR_S, ↓sI_c, ↓sL_c, ↓sD_c, ↓sR_c, ↓s1_r, ↓s1_i, ↓vR_r, ↓vR_n, ↓s0_n, s0_n, ↓oR_u, ↓sP_u, ↓sPa_0, ↓sPa_S, ↓lkC_c, ↓callK_u, ↓cQ_s, ↓cQ_n, putL, putW, clr, kil, catS, catN, refF, booF, finF, nF, nmOf_0, nmOf_1, nmOf_2, nmOf_3, nmOf_4, nmOf_5, nmOf_6, nmOf_50, nmOf_51, nmOf_52, ↓reduceIte, reduceIte, Bool.false_eq_true, eq_self, true_or, or_true, true_and, and_true, false_or, or_false, Nat.reduceAdd, Nat.reduceSub, Nat.reduceEqDiff, Nat.reduceLT, Nat.reduceLeDiff, reduceCtorEq, true_implies, List.length_cons, List.length_nil, List.replicate, List.cons_append, List.nil_append, mrt_X4_tearDown, mhh_X4_tearDown, mow_X4_tearDown, mnl_X4_tearDown, DX4_tearDown_0, DX4_tearDown_1, DX4_tearDown_2, DX4_tearDown_5, DX4_tearDown_6, DX4_tearDown_7, DX4_tearDown_8, DX4_tearDown_11, DX4_tearDown_12, DX4_tearDown_13, DX4_tearDown_15, DX4_tearDown_17, DX4_tearDown_18, DX4_tearDown_21, DX4_tearDown_24, DX4_tearDown_27, DX4_tearDown_28, DX4_tearDown_31, DX4_tearDown_33, DX4_tearDown_36, DX4_tearDown_39, DX4_tearDown_41, DX4_tearDown_43, DX4_tearDown_46, DX4_tearDown_47, DX4_tearDown_50, DX4_tearDown_52, DX4_tearDown_53, DX4_tearDown_56, DX4_tearDown_59, DX4_tearDown_62, DX4_tearDown_63, DX4_tearDown_64, DX4_tearDown_67, DX4_tearDown_68, DX4_tearDown_71, DX4_tearDown_72, DX4_tearDown_73, DX4_tearDown_76, DX4_tearDown_77, DX4_tearDown_80, DX4_tearDown_81, ce_X4_standingBuilding_t, ↓ct_X4_standingBuilding_t, ycl_X4_standingBuilding, ce_X4_leasesOf, ↓ct_X4_leasesOf, ycl_X4_leasesOf, ce_Jx4a65c_size_8abf5, ↓ct_Jx4a65c_size_8abf5, ycl_Jx4a65c_size_8abf5, ce_Jx4a65c_get_915e3, ↓ct_Jx4a65c_get_915e3, ycl_Jx4a65c_get_915e3, ce_X3_setCovered, ↓ct_X3_setCovered, ycl_X3_setCovered, ce_X4_forgetShades, ↓ct_X4_forgetShades, ycl_X4_forgetShades, cX_nil mhh_X4_tearDown]
  simp (disch := omega) only [i32_lit, i32_neg, i32_add, i32_mul, i32_sub, i32_nI, i32_lt, i32_le, i32_eq, inR_i, i32_clamp, i32_div, i32_max, i32_min, ite_max, ite_min, b2i_0, b2i_1, b2i_01, i32_toInt, tn_i, Int.toNat_natCast, em_t, true_and, and_true, Int.reduceToNat, Int.reduceLE, Int.reduceLT, Int.reduceAdd, Int.reduceMul, Int.reduceSub, Int.reduceNeg, Int.reduceEq, true_implies, not_true_eq_false, false_implies, not_false_eq_true, kC, rC0, rC1, rC2, rC3, rC4, kQ, rQ0, rQ1, kV, lV, kG, lG, kP, lP, kT, lT, LB1, LB2, LB3, LH1, LH2, LH3, LL1, LL2, LL3, dDy, dEv, true_and, and_true, Option.some.injEq, exists_eq_left', nmOf_0, nmOf_1, nmOf_2, nmOf_3, nmOf_4, nmOf_5, nmOf_6, Nat.add_sub_cancel, Nat.reduceSub, Nat.reduceLT, Nat.reduceEqDiff, ne_eq, not_false_eq_true, hD0]
  exact hq
theorem SF.fr {h h' : Hp} {cv : Nat} {W : Nat → Prop} (f : SF h h' cv) (hw : W cv) : Fr h h' W := fun a _ => by
  obtain ⟨g1, g2, g3, g4, g5, g6, g7⟩ := f
  exact ⟨⟨g1 a, g4 a⟩, fun q => ⟨fun c k => g2 c k a, fun c k => g3 c k a, fun i => g5 a i (fun z => q (z ▸ hw)), fun i => g6 a i, fun i => g7 a i⟩⟩
set_option maxRecDepth 100000 in
set_option maxHeartbeats 4000000 in
theorem tl_X4_tearDown62 (G : GT) {D : WD} {S : SS} (hW : WF S) {h : Hp} {b : Nat} {v : Int32} {o4 o5 : Option Value} {Q : Option Value → Hp → Prop} {QX : String → Hp → Prop} (hb : b < S.nb) (h6 : S.bf b 6 = 1) (hD : CD G h D S) (hq : ∀ h', Fr h h' (WO D S) → CI G h' D (S.uB b 6 0) → Q (some (.int v)) h') :
    Wp G MX4_tearDown false 10 Q QX 62 [some (.ref (D 0 0)), some (.int (i32 b)), some (.ref (D 1 b)), some (.int v), o4, o5] [] h (0, 0) := by
  have hD0 := hD
  have hA0 := hD.1
  have hB0 := hD.2
  obtain ⟨⟨kC, rC0, rC1, rC2, rC3, rC4⟩, ⟨kQ, rQ0, rQ1⟩, ⟨kV, lV⟩, ⟨kG, lG⟩, ⟨kP, lP⟩, ⟨kT, lT⟩, ⟨⟨LB1, LB2, LB3, LB4, LB5, LB6, LB7⟩, ⟨LH1, LH2, LH3, LH4, LH5, LH6, LH7⟩, ⟨LL1, LL2, LL3, LL4, LL5, LL6, LL7⟩⟩, hKB, hHA, hKL, hCJ⟩ := hA0
  obtain ⟨dDy, dEv, dG, dP, dV, dB, dL, dH⟩ := hB0
  have hnb := hW.1
  have hnl := hW.2.1
  have kB := hKB b hb
  obtain ⟨eB0, eB1, eB2, eB3, eB4, eB5, eB6, eB7⟩ := dB b hb
  have qB := LB7 b hb
  obtain ⟨kqB, lqB⟩ := LB6 (by omega)
  obtain ⟨vB0, vB2, vB2', vB02, vB1, vB3, vB3', vB13, vB4, vB4', vB5, vB5', vB6⟩ := hW.2.2.1 b hb
  refine wpW (cs := [(76, ce_X4_standingBuilding_t G D S), (80, ce_X4_leasesOf G D S), (49, ce_Jx4a65c_size_8abf5), (84, ce_Jx4a65c_get_915e3), (69, ce_X3_setCovered), (73, ce_X4_forgetShades G D S)]) (stop := [76]) (n := 200) (env_cons (ceV (by decide +kernel) ⟨by decide, by decide, by decide +kernel⟩ (by decide) rfl (ok_X4_standingBuilding_t G G D S hW)) (env_cons (ceV (by decide +kernel) ⟨by decide, by decide, by decide +kernel⟩ (by decide) rfl (ok_X4_leasesOf G G D S hW)) (env_cons (ceV (by decide +kernel) ⟨by decide, by decide, by decide +kernel⟩ (by decide) rfl (ok_Jx4a65c_size_8abf5 G)) (env_cons (ceV (by decide +kernel) ⟨by decide, by decide, by decide +kernel⟩ (by decide) rfl (ok_Jx4a65c_get_915e3 G)) (env_cons (ceV (by decide +kernel) ⟨by decide, by decide, by decide +kernel⟩ (by decide) rfl (ok_X3_setCovered G)) (env_cons (ceV (by decide +kernel) ⟨by decide, by decide, by decide +kernel⟩ (by decide) rfl (ok_X4_forgetShades G G D S hW)) (env_nil0 (env_hh rfl)))))))) ?_
  simp only [↓wpN_S, ↓step_u, ↓stC_s, stC_s, ↓stF_u, stF_u, ↓stepI, lenI, ↓kN_u, isS, ↓gI_0, ↓gI_S, ↓gL_0, ↓gL_S, ↓gD_0, ↓gD_S, ↓gR_0, ↓gR_S, ↓sI_c, ↓sL_c, ↓sD_c, ↓sR_c, ↓s1_r, ↓s1_i, ↓vR_r, ↓vR_n, ↓s0_n, s0_n, ↓oR_u, ↓sP_u, ↓sPa_0, ↓sPa_S, ↓lkC_c, ↓callK_u, ↓cQ_s, ↓cQ_n, putL, putW, clr, kil, catS, catN, refF, booF, finF, nF, nmOf_0, nmOf_1, nmOf_2, nmOf_3, nmOf_4, nmOf_5, nmOf_6, nmOf_50, nmOf_51, nmOf_52, ↓reduceIte, reduceIte, Bool.false_eq_true, eq_self, true_or, or_true, true_and, and_true, false_or, or_false, Nat.reduceAdd, Nat.reduceSub, Nat.reduceEqDiff, Nat.reduceLT, Nat.reduceLeDiff, reduceCtorEq, true_implies, List.length_cons, List.length_nil, List.replicate, List.cons_append, List.nil_append, mrt_X4_tearDown, mhh_X4_tearDown, mow_X4_tearDown, mnl_X4_tearDown, DX4_tearDown_0, DX4_tearDown_1, DX4_tearDown_2, DX4_tearDown_5, DX4_tearDown_6, DX4_tearDown_7, DX4_tearDown_8, DX4_tearDown_11, DX4_tearDown_12, DX4_tearDown_13, DX4_tearDown_15, DX4_tearDown_17, DX4_tearDown_18, DX4_tearDown_21, DX4_tearDown_24, DX4_tearDown_27, DX4_tearDown_28, DX4_tearDown_31, DX4_tearDown_33, DX4_tearDown_36, DX4_tearDown_39, DX4_tearDown_41, DX4_tearDown_43, DX4_tearDown_46, DX4_tearDown_47, DX4_tearDown_50, DX4_tearDown_52, DX4_tearDown_53, DX4_tearDown_56, DX4_tearDown_59, DX4_tearDown_62, DX4_tearDown_63, DX4_tearDown_64, DX4_tearDown_67, DX4_tearDown_68, DX4_tearDown_71, DX4_tearDown_72, DX4_tearDown_73, DX4_tearDown_76, DX4_tearDown_77, DX4_tearDown_80, DX4_tearDown_81, ce_X4_standingBuilding_t, ↓ct_X4_standingBuilding_t, ycl_X4_standingBuilding, ce_X4_leasesOf, ↓ct_X4_leasesOf, ycl_X4_leasesOf, ce_Jx4a65c_size_8abf5, ↓ct_Jx4a65c_size_8abf5, ycl_Jx4a65c_size_8abf5, ce_Jx4a65c_get_915e3, ↓ct_Jx4a65c_get_915e3, ycl_Jx4a65c_get_915e3, ce_X3_setCovered, ↓ct_X3_setCovered, ycl_X3_setCovered, ce_X4_forgetShades, ↓ct_X4_forgetShades, ycl_X4_forgetShades, cX_nil mhh_X4_tearDown]
  simp (disch := omega) only [i32_lit, i32_neg, i32_add, i32_mul, i32_sub, i32_nI, i32_lt, i32_le, i32_eq, inR_i, i32_clamp, i32_div, i32_max, i32_min, ite_max, ite_min, b2i_0, b2i_1, b2i_01, i32_toInt, tn_i, Int.toNat_natCast, em_t, true_and, and_true, Int.reduceToNat, Int.reduceLE, Int.reduceLT, Int.reduceAdd, Int.reduceMul, Int.reduceSub, Int.reduceNeg, Int.reduceEq, true_implies, not_true_eq_false, false_implies, not_false_eq_true, kC, rC0, rC1, rC2, rC3, rC4, kQ, rQ0, rQ1, kV, lV, kG, lG, kP, lP, kT, lT, LB1, LB2, LB3, LH1, LH2, LH3, LL1, LL2, LL3, dDy, dEv, true_and, and_true, Option.some.injEq, exists_eq_left', nmOf_0, nmOf_1, nmOf_2, nmOf_3, nmOf_4, nmOf_5, nmOf_6, Nat.add_sub_cancel, Nat.reduceSub, Nat.reduceLT, Nat.reduceEqDiff, ne_eq, not_false_eq_true, kB, eB0, eB1, eB2, eB3, eB4, eB5, eB6, eB7, qB, kqB, lqB, kd_setI, fi_setI, fr_setI, ln_setI, ia_setI, ja_setI, ra_setI, kd_setR, fi_setR, fr_setR, ln_setR, ia_setR, ja_setR, ra_setR, kd_setIA, fi_setIA, fr_setIA, ln_setIA, ia_setIA, ja_setIA, ra_setIA, kd_setLA, fi_setLA, fr_setLA, ln_setLA, ia_setLA, ja_setLA, ra_setLA, kd_setRA, fi_setRA, fr_setRA, ln_setRA, ia_setRA, ja_setRA, ra_setRA, kd_cpRA, fi_cpRA, fr_cpRA, ln_cpRA, ia_cpRA, ja_cpRA, ra_cpRA, kd_cpIA, fi_cpIA, fr_cpIA, ln_cpIA, ia_cpIA, ja_cpIA, ra_cpIA, kd_newO, fi_newO, fr_newO, ln_newO, ia_newO, ja_newO, ra_newO, kd_newA, fi_newA, fr_newA, ln_newA, ia_newA, ja_newA, ra_newA]
  refine ⟨D 0 3, S.bf b 0, S.bf b 1, S.bf b 2, S.bf b 3, rfl, kV, lV, ⟨kB, eB1, eB2, eB3, eB4⟩, ⟨⟨by omega, by omega, by omega, by omega⟩, ⟨by omega, by omega, by omega, by omega⟩⟩, Or.inl trivial, fun h' f hc => ?_⟩
  have hD2 := CD_td hD0 hW hb h6 f hc
  exact tl_X4_tearDown76 (S := S.uB b 6 0) G (WF_uB6 hW) hD2 (fun h'' g1 g2 => hq h'' (((Fr.sI (WO.b hb)).tr (f.fr (WO.s (by omega)))).tr g1.fr) (g2.ci (hD2.fo g1)))
set_option maxRecDepth 100000 in
set_option maxHeartbeats 4000000 in
theorem lp_X4_tearDown15 (G : GT) {D : WD} {S0 : SS} {h0 : Hp} {b : Nat} {v : Int32} {Q : Option Value → Hp → Prop} {QX : String → Hp → Prop} (hb : b < S0.nb) (h6 : S0.bf b 6 = 1) (hq : ∀ h', Fr h0 h' (WO D S0) → CI G h' D ((S0.eL b S0.nl).uB b 6 0) → Q (some (.int v)) h') :
    ∀ k n : Nat, n + k = S0.nl → ∀ S, S = S0.eL b n → WF S → ∀ h, Fr h0 h (WO D S0) → CD G h D S → ∀ o5, Wp G MX4_tearDown false 10 Q QX 15 [some (.ref (D 0 0)), some (.int (i32 b)), some (.ref (D 1 b)), some (.int v), some (.int (i32 n)), o5] [] h (0, 0) := by
  intro k
  induction k with
  | zero =>
    intro n hn S e hW h f hD o5
    have en : n = S0.nl := by omega
    have e1 : S.nl = S0.nl := by rw [e]; rfl
    have eb : S.bf b 6 = 1 := by rw [e]; exact h6
    have hz := tl_X4_tearDown62 (o4 := some (.int (i32 n))) (o5 := o5) (v := v) (Q := Q) (QX := QX) G hW (b := b) (by rw [e]; exact hb) eb hD (fun h' f' hI' => hq h' (f.tr (f'.up (WO_cg (by rw [e]; rfl) e1))) (by rw [← en, ← e]; exact hI'))
    have hA0 := hD.1
    have hB0 := hD.2
    obtain ⟨⟨kC, rC0, rC1, rC2, rC3, rC4⟩, ⟨kQ, rQ0, rQ1⟩, ⟨kV, lV⟩, ⟨kG, lG⟩, ⟨kP, lP⟩, ⟨kT, lT⟩, ⟨⟨LB1, LB2, LB3, LB4, LB5, LB6, LB7⟩, ⟨LH1, LH2, LH3, LH4, LH5, LH6, LH7⟩, ⟨LL1, LL2, LL3, LL4, LL5, LL6, LL7⟩⟩, hKB, hHA, hKL, hCJ⟩ := hA0
    obtain ⟨dDy, dEv, dG, dP, dV, dB, dL, dH⟩ := hB0
    have hnb := hW.1
    have hnl := hW.2.1
    refine wpW (cs := [(76, ce_X4_standingBuilding_t G D S), (80, ce_X4_leasesOf G D S), (49, ce_Jx4a65c_size_8abf5), (84, ce_Jx4a65c_get_915e3), (69, ce_X3_setCovered), (73, ce_X4_forgetShades G D S)]) (stop := [15, 56, 62]) (n := 200) (env_cons (ceV (by decide +kernel) ⟨by decide, by decide, by decide +kernel⟩ (by decide) rfl (ok_X4_standingBuilding_t G G D S hW)) (env_cons (ceV (by decide +kernel) ⟨by decide, by decide, by decide +kernel⟩ (by decide) rfl (ok_X4_leasesOf G G D S hW)) (env_cons (ceV (by decide +kernel) ⟨by decide, by decide, by decide +kernel⟩ (by decide) rfl (ok_Jx4a65c_size_8abf5 G)) (env_cons (ceV (by decide +kernel) ⟨by decide, by decide, by decide +kernel⟩ (by decide) rfl (ok_Jx4a65c_get_915e3 G)) (env_cons (ceV (by decide +kernel) ⟨by decide, by decide, by decide +kernel⟩ (by decide) rfl (ok_X3_setCovered G)) (env_cons (ceV (by decide +kernel) ⟨by decide, by decide, by decide +kernel⟩ (by decide) rfl (ok_X4_forgetShades G G D S hW)) (env_nil0 (env_hh rfl)))))))) ?_
    simp only [↓wpN_S, ↓step_u, ↓stC_s, stC_s, ↓stF_u, stF_u, ↓stepI, lenI, ↓kN_u, isS, ↓gI_0, ↓gI_S, ↓gL_0, ↓gL_S, ↓gD_0, ↓gD_S, ↓gR_0, ↓gR_S, ↓sI_c, ↓sL_c, ↓sD_c, ↓sR_c, ↓s1_r, ↓s1_i, ↓vR_r, ↓vR_n, ↓s0_n, s0_n, ↓oR_u, ↓sP_u, ↓sPa_0, ↓sPa_S, ↓lkC_c, ↓callK_u, ↓cQ_s, ↓cQ_n, putL, putW, clr, kil, catS, catN, refF, booF, finF, nF, nmOf_0, nmOf_1, nmOf_2, nmOf_3, nmOf_4, nmOf_5, nmOf_6, nmOf_50, nmOf_51, nmOf_52, ↓reduceIte, reduceIte, Bool.false_eq_true, eq_self, true_or, or_true, true_and, and_true, false_or, or_false, Nat.reduceAdd, Nat.reduceSub, Nat.reduceEqDiff, Nat.reduceLT, Nat.reduceLeDiff, reduceCtorEq, true_implies, List.length_cons, List.length_nil, List.replicate, List.cons_append, List.nil_append, mrt_X4_tearDown, mhh_X4_tearDown, mow_X4_tearDown, mnl_X4_tearDown, DX4_tearDown_0, DX4_tearDown_1, DX4_tearDown_2, DX4_tearDown_5, DX4_tearDown_6, DX4_tearDown_7, DX4_tearDown_8, DX4_tearDown_11, DX4_tearDown_12, DX4_tearDown_13, DX4_tearDown_15, DX4_tearDown_17, DX4_tearDown_18, DX4_tearDown_21, DX4_tearDown_24, DX4_tearDown_27, DX4_tearDown_28, DX4_tearDown_31, DX4_tearDown_33, DX4_tearDown_36, DX4_tearDown_39, DX4_tearDown_41, DX4_tearDown_43, DX4_tearDown_46, DX4_tearDown_47, DX4_tearDown_50, DX4_tearDown_52, DX4_tearDown_53, DX4_tearDown_56, DX4_tearDown_59, DX4_tearDown_62, DX4_tearDown_63, DX4_tearDown_64, DX4_tearDown_67, DX4_tearDown_68, DX4_tearDown_71, DX4_tearDown_72, DX4_tearDown_73, DX4_tearDown_76, DX4_tearDown_77, DX4_tearDown_80, DX4_tearDown_81, ce_X4_standingBuilding_t, ↓ct_X4_standingBuilding_t, ycl_X4_standingBuilding, ce_X4_leasesOf, ↓ct_X4_leasesOf, ycl_X4_leasesOf, ce_Jx4a65c_size_8abf5, ↓ct_Jx4a65c_size_8abf5, ycl_Jx4a65c_size_8abf5, ce_Jx4a65c_get_915e3, ↓ct_Jx4a65c_get_915e3, ycl_Jx4a65c_get_915e3, ce_X3_setCovered, ↓ct_X3_setCovered, ycl_X3_setCovered, ce_X4_forgetShades, ↓ct_X4_forgetShades, ycl_X4_forgetShades, cX_nil mhh_X4_tearDown]
    simp (disch := omega) only [i32_lit, i32_neg, i32_add, i32_mul, i32_sub, i32_nI, i32_lt, i32_le, i32_eq, inR_i, i32_clamp, i32_div, i32_max, i32_min, ite_max, ite_min, b2i_0, b2i_1, b2i_01, i32_toInt, tn_i, Int.toNat_natCast, em_t, true_and, and_true, Int.reduceToNat, Int.reduceLE, Int.reduceLT, Int.reduceAdd, Int.reduceMul, Int.reduceSub, Int.reduceNeg, Int.reduceEq, true_implies, not_true_eq_false, false_implies, not_false_eq_true, kC, rC0, rC1, rC2, rC3, rC4, kQ, rQ0, rQ1, kV, lV, kG, lG, kP, lP, kT, lT, LB1, LB2, LB3, LH1, LH2, LH3, LL1, LL2, LL3, dDy, dEv, true_and, and_true, Option.some.injEq, exists_eq_left', nmOf_0, nmOf_1, nmOf_2, nmOf_3, nmOf_4, nmOf_5, nmOf_6, Nat.add_sub_cancel, Nat.reduceSub, Nat.reduceLT, Nat.reduceEqDiff, ne_eq, not_false_eq_true]
    exact ⟨fun _ => hz, fun z => by omega⟩
  | succ k ih =>
    intro n hn S e hW h f hD o5
    have e1 : S.nl = S0.nl := by rw [e]; rfl
    have e2 : S.nb = S0.nb := by rw [e]; rfl
    have hn' : n < S.nl := by omega
    have hnb0 := hW.1
    have e3 : S.lf n 0 = S0.lf n 0 := by rw [e, lf_eL, if_neg (by omega)]
    have hjp : ∀ S' : SS, S' = S0.eL b (n + 1) → WF S' → ∀ h', Fr h0 h' (WO D S0) → CD G h' D S' → ∀ o5, Wp G MX4_tearDown false 10 Q QX 56 [some (.ref (D 0 0)), some (.int (i32 b)), some (.ref (D 1 b)), some (.int v), some (.int (i32 n)), o5] [] h' (0, 0) := fun S' e' hW' h' f' hD' o5 => by
      refine wpW (cs := [(76, ce_X4_standingBuilding_t G D S), (80, ce_X4_leasesOf G D S), (49, ce_Jx4a65c_size_8abf5), (84, ce_Jx4a65c_get_915e3), (69, ce_X3_setCovered), (73, ce_X4_forgetShades G D S)]) (stop := [15]) (n := 200) (env_cons (ceV (by decide +kernel) ⟨by decide, by decide, by decide +kernel⟩ (by decide) rfl (ok_X4_standingBuilding_t G G D S hW)) (env_cons (ceV (by decide +kernel) ⟨by decide, by decide, by decide +kernel⟩ (by decide) rfl (ok_X4_leasesOf G G D S hW)) (env_cons (ceV (by decide +kernel) ⟨by decide, by decide, by decide +kernel⟩ (by decide) rfl (ok_Jx4a65c_size_8abf5 G)) (env_cons (ceV (by decide +kernel) ⟨by decide, by decide, by decide +kernel⟩ (by decide) rfl (ok_Jx4a65c_get_915e3 G)) (env_cons (ceV (by decide +kernel) ⟨by decide, by decide, by decide +kernel⟩ (by decide) rfl (ok_X3_setCovered G)) (env_cons (ceV (by decide +kernel) ⟨by decide, by decide, by decide +kernel⟩ (by decide) rfl (ok_X4_forgetShades G G D S hW)) (env_nil0 (env_hh rfl)))))))) ?_
      simp only [↓wpN_S, ↓step_u, ↓stC_s, stC_s, ↓stF_u, stF_u, ↓stepI, lenI, ↓kN_u, isS, ↓gI_0, ↓gI_S, ↓gL_0, ↓gL_S, ↓gD_0, ↓gD_S, ↓gR_0, ↓gR_S, ↓sI_c, ↓sL_c, ↓sD_c, ↓sR_c, ↓s1_r, ↓s1_i, ↓vR_r, ↓vR_n, ↓s0_n, s0_n, ↓oR_u, ↓sP_u, ↓sPa_0, ↓sPa_S, ↓lkC_c, ↓callK_u, ↓cQ_s, ↓cQ_n, putL, putW, clr, kil, catS, catN, refF, booF, finF, nF, nmOf_0, nmOf_1, nmOf_2, nmOf_3, nmOf_4, nmOf_5, nmOf_6, nmOf_50, nmOf_51, nmOf_52, ↓reduceIte, reduceIte, Bool.false_eq_true, eq_self, true_or, or_true, true_and, and_true, false_or, or_false, Nat.reduceAdd, Nat.reduceSub, Nat.reduceEqDiff, Nat.reduceLT, Nat.reduceLeDiff, reduceCtorEq, true_implies, List.length_cons, List.length_nil, List.replicate, List.cons_append, List.nil_append, mrt_X4_tearDown, mhh_X4_tearDown, mow_X4_tearDown, mnl_X4_tearDown, DX4_tearDown_0, DX4_tearDown_1, DX4_tearDown_2, DX4_tearDown_5, DX4_tearDown_6, DX4_tearDown_7, DX4_tearDown_8, DX4_tearDown_11, DX4_tearDown_12, DX4_tearDown_13, DX4_tearDown_15, DX4_tearDown_17, DX4_tearDown_18, DX4_tearDown_21, DX4_tearDown_24, DX4_tearDown_27, DX4_tearDown_28, DX4_tearDown_31, DX4_tearDown_33, DX4_tearDown_36, DX4_tearDown_39, DX4_tearDown_41, DX4_tearDown_43, DX4_tearDown_46, DX4_tearDown_47, DX4_tearDown_50, DX4_tearDown_52, DX4_tearDown_53, DX4_tearDown_56, DX4_tearDown_59, DX4_tearDown_62, DX4_tearDown_63, DX4_tearDown_64, DX4_tearDown_67, DX4_tearDown_68, DX4_tearDown_71, DX4_tearDown_72, DX4_tearDown_73, DX4_tearDown_76, DX4_tearDown_77, DX4_tearDown_80, DX4_tearDown_81, ce_X4_standingBuilding_t, ↓ct_X4_standingBuilding_t, ycl_X4_standingBuilding, ce_X4_leasesOf, ↓ct_X4_leasesOf, ycl_X4_leasesOf, ce_Jx4a65c_size_8abf5, ↓ct_Jx4a65c_size_8abf5, ycl_Jx4a65c_size_8abf5, ce_Jx4a65c_get_915e3, ↓ct_Jx4a65c_get_915e3, ycl_Jx4a65c_get_915e3, ce_X3_setCovered, ↓ct_X3_setCovered, ycl_X3_setCovered, ce_X4_forgetShades, ↓ct_X4_forgetShades, ycl_X4_forgetShades, cX_nil mhh_X4_tearDown]
      simp (disch := omega) only [i32_lit, i32_neg, i32_add, i32_mul, i32_sub, i32_nI, i32_lt, i32_le, i32_eq, inR_i, i32_clamp, i32_div, i32_max, i32_min, ite_max, ite_min, b2i_0, b2i_1, b2i_01, i32_toInt, tn_i, Int.toNat_natCast, em_t, true_and, and_true, Int.reduceToNat, Int.reduceLE, Int.reduceLT, Int.reduceAdd, Int.reduceMul, Int.reduceSub, Int.reduceNeg, Int.reduceEq, true_implies, not_true_eq_false, false_implies, not_false_eq_true]
      rw [show (n : Int) + 1 = ((n + 1 : Nat) : Int) by omega]
      exact ih (n + 1) (by omega) S' e' hW' h' f' hD' o5
    have hD0 := hD
    have hA0 := hD.1
    have hB0 := hD.2
    obtain ⟨⟨kC, rC0, rC1, rC2, rC3, rC4⟩, ⟨kQ, rQ0, rQ1⟩, ⟨kV, lV⟩, ⟨kG, lG⟩, ⟨kP, lP⟩, ⟨kT, lT⟩, ⟨⟨LB1, LB2, LB3, LB4, LB5, LB6, LB7⟩, ⟨LH1, LH2, LH3, LH4, LH5, LH6, LH7⟩, ⟨LL1, LL2, LL3, LL4, LL5, LL6, LL7⟩⟩, hKB, hHA, hKL, hCJ⟩ := hA0
    obtain ⟨dDy, dEv, dG, dP, dV, dB, dL, dH⟩ := hB0
    have hnb := hW.1
    have hnl := hW.2.1
    have kL := hKL n hn'
    obtain ⟨eL0, eL1, eL2, eL3, eL4, eL5, eL6, eL7, eL8, eL9⟩ := dL n hn'
    have qL := LL7 n hn'
    obtain ⟨kqL, lqL⟩ := LL6 (by omega)
    obtain ⟨vL0, vL0', vL1, vL1', vL2, vL2', vL3, vL4, vL4', vL5, vL5', vL6, vL7, vL7'⟩ := hW.2.2.2.1 n hn'
    refine wpW (cs := [(76, ce_X4_standingBuilding_t G D S), (80, ce_X4_leasesOf G D S), (49, ce_Jx4a65c_size_8abf5), (84, ce_Jx4a65c_get_915e3), (69, ce_X3_setCovered), (73, ce_X4_forgetShades G D S)]) (stop := [15, 56, 62]) (n := 200) (env_cons (ceV (by decide +kernel) ⟨by decide, by decide, by decide +kernel⟩ (by decide) rfl (ok_X4_standingBuilding_t G G D S hW)) (env_cons (ceV (by decide +kernel) ⟨by decide, by decide, by decide +kernel⟩ (by decide) rfl (ok_X4_leasesOf G G D S hW)) (env_cons (ceV (by decide +kernel) ⟨by decide, by decide, by decide +kernel⟩ (by decide) rfl (ok_Jx4a65c_size_8abf5 G)) (env_cons (ceV (by decide +kernel) ⟨by decide, by decide, by decide +kernel⟩ (by decide) rfl (ok_Jx4a65c_get_915e3 G)) (env_cons (ceV (by decide +kernel) ⟨by decide, by decide, by decide +kernel⟩ (by decide) rfl (ok_X3_setCovered G)) (env_cons (ceV (by decide +kernel) ⟨by decide, by decide, by decide +kernel⟩ (by decide) rfl (ok_X4_forgetShades G G D S hW)) (env_nil0 (env_hh rfl)))))))) ?_
    simp only [↓wpN_S, ↓step_u, ↓stC_s, stC_s, ↓stF_u, stF_u, ↓stepI, lenI, ↓kN_u, isS, ↓gI_0, ↓gI_S, ↓gL_0, ↓gL_S, ↓gD_0, ↓gD_S, ↓gR_0, ↓gR_S, ↓sI_c, ↓sL_c, ↓sD_c, ↓sR_c, ↓s1_r, ↓s1_i, ↓vR_r, ↓vR_n, ↓s0_n, s0_n, ↓oR_u, ↓sP_u, ↓sPa_0, ↓sPa_S, ↓lkC_c, ↓callK_u, ↓cQ_s, ↓cQ_n, putL, putW, clr, kil, catS, catN, refF, booF, finF, nF, nmOf_0, nmOf_1, nmOf_2, nmOf_3, nmOf_4, nmOf_5, nmOf_6, nmOf_50, nmOf_51, nmOf_52, ↓reduceIte, reduceIte, Bool.false_eq_true, eq_self, true_or, or_true, true_and, and_true, false_or, or_false, Nat.reduceAdd, Nat.reduceSub, Nat.reduceEqDiff, Nat.reduceLT, Nat.reduceLeDiff, reduceCtorEq, true_implies, List.length_cons, List.length_nil, List.replicate, List.cons_append, List.nil_append, mrt_X4_tearDown, mhh_X4_tearDown, mow_X4_tearDown, mnl_X4_tearDown, DX4_tearDown_0, DX4_tearDown_1, DX4_tearDown_2, DX4_tearDown_5, DX4_tearDown_6, DX4_tearDown_7, DX4_tearDown_8, DX4_tearDown_11, DX4_tearDown_12, DX4_tearDown_13, DX4_tearDown_15, DX4_tearDown_17, DX4_tearDown_18, DX4_tearDown_21, DX4_tearDown_24, DX4_tearDown_27, DX4_tearDown_28, DX4_tearDown_31, DX4_tearDown_33, DX4_tearDown_36, DX4_tearDown_39, DX4_tearDown_41, DX4_tearDown_43, DX4_tearDown_46, DX4_tearDown_47, DX4_tearDown_50, DX4_tearDown_52, DX4_tearDown_53, DX4_tearDown_56, DX4_tearDown_59, DX4_tearDown_62, DX4_tearDown_63, DX4_tearDown_64, DX4_tearDown_67, DX4_tearDown_68, DX4_tearDown_71, DX4_tearDown_72, DX4_tearDown_73, DX4_tearDown_76, DX4_tearDown_77, DX4_tearDown_80, DX4_tearDown_81, ce_X4_standingBuilding_t, ↓ct_X4_standingBuilding_t, ycl_X4_standingBuilding, ce_X4_leasesOf, ↓ct_X4_leasesOf, ycl_X4_leasesOf, ce_Jx4a65c_size_8abf5, ↓ct_Jx4a65c_size_8abf5, ycl_Jx4a65c_size_8abf5, ce_Jx4a65c_get_915e3, ↓ct_Jx4a65c_get_915e3, ycl_Jx4a65c_get_915e3, ce_X3_setCovered, ↓ct_X3_setCovered, ycl_X3_setCovered, ce_X4_forgetShades, ↓ct_X4_forgetShades, ycl_X4_forgetShades, cX_nil mhh_X4_tearDown]
    simp (disch := omega) only [i32_lit, i32_neg, i32_add, i32_mul, i32_sub, i32_nI, i32_lt, i32_le, i32_eq, inR_i, i32_clamp, i32_div, i32_max, i32_min, ite_max, ite_min, b2i_0, b2i_1, b2i_01, i32_toInt, tn_i, Int.toNat_natCast, em_t, true_and, and_true, Int.reduceToNat, Int.reduceLE, Int.reduceLT, Int.reduceAdd, Int.reduceMul, Int.reduceSub, Int.reduceNeg, Int.reduceEq, true_implies, not_true_eq_false, false_implies, not_false_eq_true, kC, rC0, rC1, rC2, rC3, rC4, kQ, rQ0, rQ1, kV, lV, kG, lG, kP, lP, kT, lT, LB1, LB2, LB3, LH1, LH2, LH3, LL1, LL2, LL3, dDy, dEv, true_and, and_true, Option.some.injEq, exists_eq_left', nmOf_0, nmOf_1, nmOf_2, nmOf_3, nmOf_4, nmOf_5, nmOf_6, Nat.add_sub_cancel, Nat.reduceSub, Nat.reduceLT, Nat.reduceEqDiff, ne_eq, not_false_eq_true, kL, eL0, eL1, eL2, eL3, eL4, eL5, eL6, eL7, eL8, eL9, qL, kqL, lqL]
    refine ⟨fun z => by omega, fun _ => ⟨by omega, by omega, by omega, fun z => ?_, fun z => ?_⟩⟩
    · exact hjp S (by rw [e]; exact eL_k (by omega)) hW h f hD0 _
    · exact hjp (S.uL n 6 0) (by rw [e]; exact eL_s (by omega)) (WF_uL hW (WL_uL hW.2.2.2.1 (Or.inl ⟨rfl, Or.inl rfl⟩))) _ (f.tr (Fr.sI (WO.l (by omega)))) (CD_l (k := 6) hD0 hn' (by omega)) _
set_option maxRecDepth 100000 in
set_option maxHeartbeats 4000000 in
theorem ok_X4_tearDown_t (G : GT) (G : GT) (D : WD) (S : SS) (hW : WF S) : OKm G yX4_tearDown MX4_tearDown 10 8 48 (ct_X4_tearDown_t G D S) := by
  refine mkOK (ini := false) (by decide) rfl (by first | exact fun _ => rfl | (intro hh; cases hh)) (fun As h Q QX hc => ?_)
  replace hc := sR_e hc; obtain ⟨c, r, rfl, hc⟩ := hc
  replace hc := sI_e hc; obtain ⟨b, r, rfl, hc⟩ := hc
  replace hc := s0_e hc; obtain ⟨rfl, hc⟩ := hc
  obtain ⟨hI, rfl, hq, hx⟩ := hc
  obtain ⟨bV, hbV, rfl⟩ := i32_all b
  simp only [i32_toInt hbV, tn_i hbV] at hq hx
  have hD := hI.cd
  have hD0 := hD
  have hA0 := hD.1
  have hB0 := hD.2
  obtain ⟨⟨kC, rC0, rC1, rC2, rC3, rC4⟩, ⟨kQ, rQ0, rQ1⟩, ⟨kV, lV⟩, ⟨kG, lG⟩, ⟨kP, lP⟩, ⟨kT, lT⟩, ⟨⟨LB1, LB2, LB3, LB4, LB5, LB6, LB7⟩, ⟨LH1, LH2, LH3, LH4, LH5, LH6, LH7⟩, ⟨LL1, LL2, LL3, LL4, LL5, LL6, LL7⟩⟩, hKB, hHA, hKL, hCJ⟩ := hA0
  obtain ⟨dDy, dEv, dG, dP, dV, dB, dL, dH⟩ := hB0
  have hnb := hW.1
  have hnl := hW.2.1
  refine ⟨Nat.le_of_ble_eq_true rfl, ?_⟩
  simp only [ent, entL, catN, List.length_cons, List.length_nil, List.replicate, List.cons_append, List.nil_append, reduceIte, Nat.reduceEqDiff,  Nat.reduceAdd, Nat.reduceSub, mnl_X4_tearDown]
  refine wpW (cs := [(76, ce_X4_standingBuilding_t G D S), (80, ce_X4_leasesOf G D S), (49, ce_Jx4a65c_size_8abf5), (84, ce_Jx4a65c_get_915e3), (69, ce_X3_setCovered), (73, ce_X4_forgetShades G D S)]) (stop := [15]) (n := 200) (env_cons (ceV (by decide +kernel) ⟨by decide, by decide, by decide +kernel⟩ (by decide) rfl (ok_X4_standingBuilding_t G G D S hW)) (env_cons (ceV (by decide +kernel) ⟨by decide, by decide, by decide +kernel⟩ (by decide) rfl (ok_X4_leasesOf G G D S hW)) (env_cons (ceV (by decide +kernel) ⟨by decide, by decide, by decide +kernel⟩ (by decide) rfl (ok_Jx4a65c_size_8abf5 G)) (env_cons (ceV (by decide +kernel) ⟨by decide, by decide, by decide +kernel⟩ (by decide) rfl (ok_Jx4a65c_get_915e3 G)) (env_cons (ceV (by decide +kernel) ⟨by decide, by decide, by decide +kernel⟩ (by decide) rfl (ok_X3_setCovered G)) (env_cons (ceV (by decide +kernel) ⟨by decide, by decide, by decide +kernel⟩ (by decide) rfl (ok_X4_forgetShades G G D S hW)) (env_nil0 (env_hh rfl)))))))) ?_
  simp only [↓wpN_S, ↓step_u, ↓stC_s, stC_s, ↓stF_u, stF_u, ↓stepI, lenI, ↓kN_u, isS, ↓gI_0, ↓gI_S, ↓gL_0, ↓gL_S, ↓gD_0, ↓gD_S, ↓gR_0, ↓gR_S, ↓sI_c, ↓sL_c, ↓sD_c, ↓sR_c, ↓s1_r, ↓s1_i, ↓vR_r, ↓vR_n, ↓s0_n, s0_n, ↓oR_u, ↓sP_u, ↓sPa_0, ↓sPa_S, ↓lkC_c, ↓callK_u, ↓cQ_s, ↓cQ_n, putL, putW, clr, kil, catS, catN, refF, booF, finF, nF, nmOf_0, nmOf_1, nmOf_2, nmOf_3, nmOf_4, nmOf_5, nmOf_6, nmOf_50, nmOf_51, nmOf_52, ↓reduceIte, reduceIte, Bool.false_eq_true, eq_self, true_or, or_true, true_and, and_true, false_or, or_false, Nat.reduceAdd, Nat.reduceSub, Nat.reduceEqDiff, Nat.reduceLT, Nat.reduceLeDiff, reduceCtorEq, true_implies, List.length_cons, List.length_nil, List.replicate, List.cons_append, List.nil_append, mrt_X4_tearDown, mhh_X4_tearDown, mow_X4_tearDown, mnl_X4_tearDown, DX4_tearDown_0, DX4_tearDown_1, DX4_tearDown_2, DX4_tearDown_5, DX4_tearDown_6, DX4_tearDown_7, DX4_tearDown_8, DX4_tearDown_11, DX4_tearDown_12, DX4_tearDown_13, DX4_tearDown_15, DX4_tearDown_17, DX4_tearDown_18, DX4_tearDown_21, DX4_tearDown_24, DX4_tearDown_27, DX4_tearDown_28, DX4_tearDown_31, DX4_tearDown_33, DX4_tearDown_36, DX4_tearDown_39, DX4_tearDown_41, DX4_tearDown_43, DX4_tearDown_46, DX4_tearDown_47, DX4_tearDown_50, DX4_tearDown_52, DX4_tearDown_53, DX4_tearDown_56, DX4_tearDown_59, DX4_tearDown_62, DX4_tearDown_63, DX4_tearDown_64, DX4_tearDown_67, DX4_tearDown_68, DX4_tearDown_71, DX4_tearDown_72, DX4_tearDown_73, DX4_tearDown_76, DX4_tearDown_77, DX4_tearDown_80, DX4_tearDown_81, ce_X4_standingBuilding_t, ↓ct_X4_standingBuilding_t, ycl_X4_standingBuilding, ce_X4_leasesOf, ↓ct_X4_leasesOf, ycl_X4_leasesOf, ce_Jx4a65c_size_8abf5, ↓ct_Jx4a65c_size_8abf5, ycl_Jx4a65c_size_8abf5, ce_Jx4a65c_get_915e3, ↓ct_Jx4a65c_get_915e3, ycl_Jx4a65c_get_915e3, ce_X3_setCovered, ↓ct_X3_setCovered, ycl_X3_setCovered, ce_X4_forgetShades, ↓ct_X4_forgetShades, ycl_X4_forgetShades, cX_nil mhh_X4_tearDown]
  simp (disch := omega) only [i32_lit, i32_neg, i32_add, i32_mul, i32_sub, i32_nI, i32_lt, i32_le, i32_eq, inR_i, i32_clamp, i32_div, i32_max, i32_min, ite_max, ite_min, b2i_0, b2i_1, b2i_01, i32_toInt, tn_i, Int.toNat_natCast, em_t, true_and, and_true, Int.reduceToNat, Int.reduceLE, Int.reduceLT, Int.reduceAdd, Int.reduceMul, Int.reduceSub, Int.reduceNeg, Int.reduceEq, true_implies, not_true_eq_false, false_implies, not_false_eq_true, kC, rC0, rC1, rC2, rC3, rC4, kQ, rQ0, rQ1, kV, lV, kG, lG, kP, lP, kT, lT, LB1, LB2, LB3, LH1, LH2, LH3, LL1, LL2, LL3, dDy, dEv, true_and, and_true, Option.some.injEq, exists_eq_left', nmOf_0, nmOf_1, nmOf_2, nmOf_3, nmOf_4, nmOf_5, nmOf_6, Nat.add_sub_cancel, Nat.reduceSub, Nat.reduceLT, Nat.reduceEqDiff, ne_eq, not_false_eq_true, hD0]
  refine ⟨fun h1 => ?_, fun z => hx z⟩
  replace hq := (hq h1).of rfl rfl
  have h3 := h1.1.2
  have h6 := h1.2
  obtain ⟨b, rfl⟩ := Int.eq_ofNat_of_zero_le h1.1.1
  simp only [Int.toNat_natCast] at hq h6 ⊢
  exact Wp.z (lp_X4_tearDown15 (Q := Q) (QX := QX) G (by omega) h6 hq S.nl 0 (Nat.zero_add _) S eL_0.symm hW h Fr.rf hD0 none)
