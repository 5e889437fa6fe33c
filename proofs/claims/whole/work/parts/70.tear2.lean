/-! ===== the class: tearDown ===== -/
theorem anyN_cg {p q : Nat → Bool} : ∀ n, (∀ i, i < n → p i = q i) → anyN p n = anyN q n
  | 0, _ => rfl
  | n + 1, h => by
    show (anyN p n || p n) = (anyN q n || q n)
    rw [anyN_cg n (fun i hi => h i (by omega)), h n (by omega)]
theorem isCov_td {S : SS} (hW : WF S) {b : Nat} (hb : b < S.nb) (h6 : S.bf b 6 = 1) {x y : Int} : isCov (S.uB b 6 0) x y = if cvx S b x y then false else isCov S x y := by
  have e2 : (S.uB b 6 0).nb = S.nb := rfl
  by_cases q : cvx S b x y
  · rw [if_pos q]
    refine anyN_f _ (fun i hi => ?_)
    rw [cov_uB6]
    by_cases z : i = b
    · rw [if_pos z]
    · rw [if_neg z]
      cases e : cov S i x y with
      | false => rfl
      | true => exact absurd (hW.2.2.2.2.2.2.2 i b x y hi hb e (cov_cvx.mpr ⟨h6, q⟩)) z
  · rw [if_neg q]
    refine anyN_cg _ (fun i hi => ?_)
    rw [cov_uB6]
    by_cases z : i = b
    · rw [if_pos z, z]
      cases e : cov S b x y with
      | false => rfl
      | true => exact absurd (cov_cvx.mp e).2 q
    · rw [if_neg z]
theorem CD_td {G : GT} {h h2 : Hp} {D : WD} {S : SS} {b : Nat} (hD : CD G h D S) (hW : WF S) (hb : b < S.nb) (h6 : S.bf b 6 = 1) (f : SF (setI h 1 7 (D 1 b) (i32 0)) h2 (D 0 3)) (hc : ∀ c, c < 256 → ia h2 (D 0 3) c = if inP (S.bf b 0) (S.bf b 1) (S.bf b 2) (S.bf b 3) c then i32 0 else ia h (D 0 3) c) : CD G h2 D (S.uB b 6 0) := by
  obtain ⟨⟨⟨a1, a2, a3, a4, a5, a6⟩, ⟨b1, b2, b3⟩, c1, c2, c3, c4, ⟨d1, d2, d3⟩, e1, e2, e3, e4⟩, ⟨p1, p2, p3, p4, p5, p6, p7, p8⟩⟩ := hD
  obtain ⟨g1, g2, g3, g4, g5, g6, g7⟩ := f
  have k1 : ∀ a, kd h2 a = kd h a := g1
  have k3 : ∀ c k a, fr h2 c k a = fr h c k a := g3
  have k4 : ∀ a, ln h2 a = ln h a := g4
  have k7 : ∀ a i, ra h2 a i = ra h a i := g7
  have kf : ∀ c k a, c ≠ 1 → fi h2 c k a = fi h c k a := fun c k a q => by rw [g2, fi_setI, if_neg (fun z => q z.1)]
  have ki : ∀ a i, a ≠ D 0 3 → ia h2 a i = ia h a i := g5
  have n6 : ¬ D 0 6 = D 0 3 := fun q => by rw [← q, c2.1] at c1; omega
  have n7 : ¬ D 0 7 = D 0 3 := fun q => by rw [← q, c3.1] at c1; omega
  have gl : ∀ {a q cap n f}, Lst G h a q cap n f → Lst G h2 a q cap n f := fun hL => Lst.eq hL (k1 _) (kf _ _ _ (by omega)) (k3 _ _ _) (k1 _) (k4 _) (fun i => k7 _ i)
  refine ⟨?_, (kf _ _ _ (by omega)).trans p1, (kf _ _ _ (by omega)).trans p2, fun o ho => (ki _ _ n6).trans (p3 o ho), fun t ht => (ki _ _ n7).trans (p4 t ht), fun k hk => ?_, fun i hi => ?_, fun l hl => ?_, fun r hr => ?_⟩
  · simp only [CA, HA, k1, k3, k4]
    exact ⟨⟨a1, a2, a3, a4, a5, a6⟩, ⟨b1, b2, b3⟩, c1, c2, c3, c4, ⟨gl d1, gl d2, gl d3⟩, e1, e2, e3, e4⟩
  · rw [hc k hk, isCov_td hW hb h6]
    by_cases z : cvx S b ((k % 16 : Nat) : Int) ((k / 16 : Nat) : Int)
    · have z' : inP (S.bf b 0) (S.bf b 1) (S.bf b 2) (S.bf b 3) k := z
      rw [if_pos z', if_pos z, b2i_f (by decide)]
    · have z' : ¬ inP (S.bf b 0) (S.bf b 1) (S.bf b 2) (S.bf b 3) k := z
      rw [if_neg z', if_neg z]
      exact p5 k hk
  · have hi' : i < S.nb := hi
    obtain ⟨q0, q1, q2, q3, q4, q5, q6, q7⟩ := p6 i hi'
    simp only [BD, bf_uB, g2, fi_setI, Nat.reduceEqDiff, and_false, false_and, if_false, and_true, true_and]
    refine ⟨q0, q1, q2, q3, q4, q5, q6, ?_⟩
    by_cases z : i = b
    · subst z; simp only [if_true]
    · rw [if_neg (fun y => z (e4.1 i b hi' hb y)), if_neg z]; exact q7
  · have q := fun k => kf 3 k (D 3 l) (by omega)
    simp only [LD, q]
    exact p7 l hl
  · have q := fun k => kf 2 k (D 2 r) (by omega)
    simp only [HD, q]
    exact p8 r hr
def ct_X4_tearDown_t (G : GT) (D : WD) (S : SS) : Ct := fun As h Q QX => sR As fun c r => sI r fun b r => s0 r (CI G h D S ∧ c = D 0 0 ∧ ((0 ≤ b.toInt ∧ b.toInt < S.nb) ∧ S.bf (tn b) 6 = 1 → nxc G h D S ((S.eL (tn b) S.nl).uB (tn b) 6 0) Q (.int (i32 (lsOf S (tn b))))) ∧ (¬ ((0 ≤ b.toInt ∧ b.toInt < S.nb) ∧ S.bf (tn b) 6 = 1) → QX IOB h))
def ce_X4_tearDown_t (G : GT) (D : WD) (S : SS) : CE := (0, yX4_tearDown, MX4_tearDown, 1, 10, 8, 48, ct_X4_tearDown_t G D S)
set_option maxRecDepth 100000 in
set_option maxHeartbeats 4000000 in
theorem tl_X4_tearDown76 (G : GT) {D : WD} {S : SS} (hW : WF S) {h : Hp} {v : Int32} {o1 o2 o4 o5 : Option Value} {Q : Option Value → Hp → Prop} {QX : String → Hp → Prop} (hD : CD G h D S) (hq : ∀ h', FO h h' D → CF h' D 12 → Q (some (.int v)) h') :
    Wp G MX4_tearDown false 10 Q QX 76 [some (.ref (D 0 0)), o1, o2, some (.int v), o4, o5] [] h (0, 0) := by
  have hD0 := hD
  have hA0 := hD.1
  have hB0 := hD.2
  obtain ⟨⟨kC, rC0, rC1, rC2, rC3, rC4⟩, ⟨kQ, rQ0, rQ1⟩, ⟨kV, lV⟩, ⟨kG, lG⟩, ⟨kP, lP⟩, ⟨kT, lT⟩, ⟨⟨LB1, LB2, LB3, LB4, LB5, LB6, LB7⟩, ⟨LH1, LH2, LH3, LH4, LH5, LH6, LH7⟩, ⟨LL1, LL2, LL3, LL4, LL5, LL6, LL7⟩⟩, hKB, hHA, hKL, hCJ⟩ := hA0
  obtain ⟨dDy, dEv, dG, dP, dV, dB, dL, dH⟩ := hB0
  have hnb := hW.1
  have hnl := hW.2.1
  refine wpW (cs := [(76, ce_X4_standingBuilding_t G D S), (80, ce_X4_leasesOf G D S), (49, ce_Jx4a65c_size_8abf5), (84, ce_Jx4a65c_get_915e3), (69, ce_X3_setCovered), (73, ce_X4_forgetShades G D S)]) (stop := []) (n := 200) (env_cons (ceV (by decide +kernel) ⟨by decide, by decide, by decide +kernel⟩ (by decide) rfl (ok_X4_standingBuilding_t G G D S hW)) (env_cons (ceV (by decide +kernel) ⟨by decide, by decide, by decide +kernel⟩ (by decide) rfl (ok_X4_leasesOf G G D S hW)) (env_cons (ceV (by decide +kernel) ⟨by decide, by decide, by decide +kernel⟩ (by decide) rfl (ok_Jx4a65c_size_8abf5 G)) (env_cons (ceV (by decide +kernel) ⟨by decide, by decide, by decide +kernel⟩ (by decide) rfl (ok_Jx4a65c_get_915e3 G)) (env_cons (ceV (by decide +kernel) ⟨by decide, by decide, by decide +kernel⟩ (by decide) rfl (ok_X3_setCovered G)) (env_cons (ceV (by decide +kernel) ⟨by decide, by decide, by decide +kernel⟩ (by decide) rfl (ok_X4_forgetShades G G D S hW)) (env_nil0 (env_hh rfl)))))))) ?_
  simp only [↓wpN_S, ↓step_u, ↓stC_s, stC_s, ↓stF_u, stF_u, ↓stepI, lenI, ↓kN_u, isS, ↓gI_0, ↓gI_S, ↓gL_0, ↓gL_S, ↓gD_0, ↓gD_S, ↓gR_0, ↓gR_S, ↓sI_c, ↓sL_c, ↓sD_c, ↓sR_c, ↓s1_r, ↓s1_i, ↓vR_r, ↓vR_n, ↓s0_n, s0_n, ↓oR_u, ↓sP_u, ↓sPa_0, ↓sPa_S, ↓lkC_c, ↓callK_u, ↓cQ_s, ↓cQ_n, putL, putW, clr, kil, catS, catN, refF, booF, finF, nF, nmOf_0, nmOf_1, nmOf_2, nmOf_3, nmOf_4, nmOf_5, nmOf_6, nmOf_50, nmOf_51, nmOf_52, ↓reduceIte, reduceIte, Bool.false_eq_true, eq_self, true_or, or_true, true_and, and_true, false_or, or_false, Nat.reduceAdd, Nat.reduceSub, Nat.reduceEqDiff, Nat.reduceLT, Nat.reduceLeDiff, reduceCtorEq, true_implies, List.length_cons, List.length_nil, List.replicate, List.cons_append, List.nil_append, mrt_X4_tearDown, mhh_X4_tearDown, mow_X4_tearDown, mnl_X4_tearDown, DX4_tearDown_0, DX4_tearDown_1, DX4_tearDown_2, DX4_tearDown_5, DX4_tearDown_6, DX4_tearDown_7, DX4_tearDown_8, DX4_tearDown_11, DX4_tearDown_12, DX4_tearDown_13, DX4_tearDown_15, DX4_tearDown_17, DX4_tearDown_18, DX4_tearDown_21, DX4_tearDown_24, DX4_tearDown_27, DX4_tearDown_28, DX4_tearDown_31, DX4_tearDown_33, DX4_tearDown_36, DX4_tearDown_39, DX4_tearDown_41, DX4_tearDown_43, DX4_tearDown_46, DX4_tearDown_47, DX4_tearDown_50, DX4_tearDown_52, DX4_tearDown_53, DX4_tearDown_56, DX4_tearDown_59, DX4_tearDown_62, DX4_tearDown_63, DX4_tearDown_64, DX4_tearDown_67, DX4_tearDown_68, DX4_tearDown_71, DX4_tearDown_72, DX4_tearDown_73, DX4_tearDown_76, DX4_tearDown_77, DX4_tearDown_80, DX4_tearDown_81, ce_X4_standingBuilding_t, ↓ct_X4_standingBuilding_t, ycl_X4_standingBuilding, ce_X4_leasesOf, ↓ct_X4_leasesOf, ycl_X4_leasesOf, ce_Jx4a65c_size_8abf5, ↓ct_Jx4a65c_size_8abf5, ycl_Jx4a65c_size_8abf5, ce_Jx4a65c_get_915e3, ↓ct_Jx4a65c_get_915e3, ycl_Jx4a65c_get_915e3, ce_X3_setCovered, ↓ct_X3_setCovered, ycl_X3_setCovered, ce_X4_forgetShades, ↓ct_X4_forgetShades, ycl_X4_forgetShades, cX_nil mhh_X4_tearDown]
  simp (disch := omega) only [i32_lit, i32_neg, i32_add, i32_mul, i32_sub, i32_nI, i32_lt, i32_le, i32_eq, inR_i, i32_clamp, i32_div, i32_max, i32_min, ite_max, ite_min, b2i_0, b2i_1, b2i_01, i32_toInt, tn_i, Int.toNat_natCast, em_t, true_and, and_true, Int.reduceToNat, Int.reduceLE, Int.reduceLT, Int.reduceAdd, Int.reduceMul, Int.reduceSub, Int.reduceNeg, Int.reduceEq, true_implies, not_true_eq_false, false_implies, not_false_eq_true, kC, rC0, rC1, rC2, rC3, rC4, kQ, rQ0, rQ1, kV, lV, kG, lG, kP, lP, kT, lT, LB1, LB2, LB3, LH1, LH2, LH3, LL1, LL2, LL3, dDy, dEv, true_and, and_true, Option.some.injEq, exists_eq_left', nmOf_0, nmOf_1, nmOf_2, nmOf_3, nmOf_4, nmOf_5, nmOf_6, Nat.add_sub_cancel, Nat.reduceSub, Nat.reduceLT, Nat.reduceEqDiff, ne_eq, not_false_eq_true, hD0]
  exact hq
