/-! ===== the class: let ===== -/
/-- the world with one more lease -/
def lD (D : WD) (n a q cap : Nat) : WD := fun t i => if t = 3 then (if i = n then a else D 3 i) else if t = 0 then (if i = 11 then q else D 0 i) else if t = 9 then (if i = 2 then cap else D 9 i) else D t i
section LDW
variable {D : WD} {n a q cap : Nat}
theorem lD_0 {i : Nat} (hi : i ≠ 11) : lD D n a q cap 0 i = D 0 i := by show (if i = 11 then q else D 0 i) = _; rw [if_neg hi]
theorem lD_011 : lD D n a q cap 0 11 = q := rfl
theorem lD_92 : lD D n a q cap 9 2 = cap := rfl
theorem lD_9 {i : Nat} (hi : i ≠ 2) : lD D n a q cap 9 i = D 9 i := by show (if i = 2 then cap else D 9 i) = _; rw [if_neg hi]
theorem lD_3n : lD D n a q cap 3 n = a := by show (if n = n then a else D 3 n) = _; rw [if_pos rfl]
theorem lD_3 {i : Nat} (hi : i ≠ n) : lD D n a q cap 3 i = D 3 i := by show (if i = n then a else D 3 i) = _; rw [if_neg hi]
theorem lD_3f : lD D n a q cap 3 = updL (D 3) n a := rfl
theorem lD_1 : lD D n a q cap 1 = D 1 := rfl
theorem lD_2 : lD D n a q cap 2 = D 2 := rfl
theorem lD_4 : lD D n a q cap 4 = D 4 := rfl
theorem lD_5 : lD D n a q cap 5 = D 5 := rfl
theorem lD_6 : lD D n a q cap 6 = D 6 := rfl
theorem lD_7 : lD D n a q cap 7 = D 7 := rfl
theorem lD_rk {t i : Nat} (h : RK t i) : lD D n a q cap t i = D t i := by
  rcases h with ⟨rfl, h1, h2⟩ | ⟨h1, h2, -⟩
  · exact lD_0 (by omega)
  · unfold lD
    rw [if_neg (by omega), if_neg (by omega), if_neg (by omega)]
end LDW
/-- a new lease's fields -/
def LN (h : Hp) (a n : Nat) (b t f l c p : Int) : Prop := kd h a = 4 ∧ fi h 3 0 a = i32 n ∧ fi h 3 1 a = i32 b ∧ fi h 3 2 a = i32 t ∧ fi h 3 3 a = i32 f ∧ fi h 3 4 a = i32 l ∧ fi h 3 5 a = i32 c ∧ fi h 3 6 a = i32 p ∧ fi h 3 7 a = i32 1 ∧ fi h 3 8 a = i32 0 ∧ fi h 3 9 a = i32 0
theorem CD_aL {G : GT} {g h1 : Hp} {D : WD} {S : SS} {a q cap : Nat} {b t f l c p : Int} (hI : CI G g D S) (hE : kd h1 G.2.2.1.2.1 = 0) (hne : ∀ b, b < S.nl → D 3 b ≠ a) (hB : LN g a S.nl b t f l c p) (ff : Fr g h1 (fun b => b = D 0 5 ∨ b = D 0 11)) (hq : q = D 0 11 ∧ 0 < D 9 2 ∨ kd g q = 0) (hL : Lst G h1 (D 0 5) q cap (S.nl + 1) (updL (D 3) S.nl a)) (hcap : 0 < cap) :
    CD G h1 (lD D S.nl a q cap) (S.aL (lS b t f l c p)) ∧ ∀ r, r < 12 → (fi h1 2 4 (lD D S.nl a q cap 2 r) = i32 0 ∨ fi h1 2 4 (lD D S.nl a q cap 2 r) = i32 1) ∧ (fi h1 2 4 (lD D S.nl a q cap 2 r) = i32 1 → HM h1 (lD D S.nl a q cap) (S.aL (lS b t f l c p)) r) := by
  obtain ⟨d1, d2, d3⟩ := hI.1.2.2.2.2.2.2.1
  obtain ⟨e41, e42, e43, ⟨e441, e442, e443⟩, ⟨e451, e452, e453⟩, e46⟩ := hI.1.2.2.2.2.2.2.2.2.2.2
  have q9 := d1.kq
  have q10 := d2.kq
  have q11 := d3.kq
  have k2 := d1.1
  have k4 := d2.1
  have k5 := d3.1
  obtain ⟨⟨⟨a1, a2, a3, a4, a5, a6⟩, ⟨b1, b2, b3⟩, ⟨c1, c1'⟩, ⟨c2, c2'⟩, ⟨c3, c3'⟩, ⟨c4, c4'⟩, e1, e2, e3⟩, ⟨p1, p2, p3, p4, p5, p6, p7, p8⟩, hH⟩ := hI.raw ff (fun b hb => by
    rcases hb with rfl | rfl
    · exact Or.inr (Or.inl k5)
    · rcases q11.2 with z | z
      · exact Or.inl z
      · exact Or.inr (Or.inr z))
  have h10 : 0 < D 9 1 := by have := d2.2.2.2.1; omega
  have l4 : Lst G h1 (D 0 4) (D 0 10) (D 9 1) 12 (D 2) := d2.fr2 hE ff (fun z => by
    rcases z with z | z
    · exact e443 z
    · rw [z] at k4; omega) (fun _ z => by
    have y := q10.1 h10
    rcases z with z | z
    · rw [z] at y; omega
    · rcases Nat.eq_zero_or_pos (D 9 2) with v | v
      · have := (d3.2.2.2.2.1 v).2; rw [z] at y; omega
      · exact e453 v z.symm)
  have l2 : Lst G h1 (D 0 2) (D 0 9) (D 9 0) S.nb (D 1) := d1.fr2 hE ff (fun z => by
    rcases z with z | z
    · exact e442 z
    · rw [z] at k2; omega) (fun v z => by
    have y := q9.1 v
    rcases z with z | z
    · rw [z] at y; omega
    · rcases Nat.eq_zero_or_pos (D 9 2) with v' | v'
      · have := (d3.2.2.2.2.1 v').2; rw [z] at y; omega
      · exact e452 v v' z)
  obtain ⟨n0, n1, n2, n3, n4, n5, n6, n7, n8, n9, n10⟩ := hB
  have fa := ff a (by omega)
  have fa' := (fa.2 (fun z => by
    rcases z with z | z
    · rw [z] at n0; omega
    · rw [z] at n0; rcases q11.2 with v | v <;> omega)).1
  have z0 : ∀ i, i ≠ 11 → lD D S.nl a q cap 0 i = D 0 i := fun i hi => lD_0 hi
  have x0 := z0 0 (by omega)
  have x1 := z0 1 (by omega)
  have x2 := z0 2 (by omega)
  have x3 := z0 3 (by omega)
  have x4 := z0 4 (by omega)
  have x5 := z0 5 (by omega)
  have x6 := z0 6 (by omega)
  have x7 := z0 7 (by omega)
  have x8 := z0 8 (by omega)
  have x9 := z0 9 (by omega)
  have x10 := z0 10 (by omega)
  have y0 : lD D S.nl a q cap 9 0 = D 9 0 := lD_9 (by omega)
  have y1 : lD D S.nl a q cap 9 1 = D 9 1 := lD_9 (by omega)
  have eN : (S.aL (lS b t f l c p)).nb = S.nb := rfl
  have eL : (S.aL (lS b t f l c p)).nl = S.nl + 1 := rfl
  have ef : (S.aL (lS b t f l c p)).bf = S.bf := rfl
  refine ⟨⟨?_, ?_⟩, fun r hr => ?_⟩
  · simp only [CA, HA, x0, x1, x2, x3, x4, x5, x6, x7, x8, x9, lD_011, lD_92, x10, y0, y1, lD_3f, lD_1, lD_2, lD_4, lD_5, lD_6, lD_7, eN, eL]
    refine ⟨⟨a1, a2, a3, a4, a5, a6⟩, ⟨b1, b2, b3⟩, ⟨c1, c1'⟩, ⟨c2, c2'⟩, ⟨c3, c3'⟩, ⟨c4, c4'⟩, ⟨l2, l4, hL⟩, e1, e2, fun b hb => ?_, ?_⟩
    · unfold updL
      by_cases z : b = S.nl
      · rw [if_pos z]; exact fa.1.1.trans n0
      · rw [if_neg z]; exact e3 b (by omega)
    · refine ⟨e41, e42, fun b b' hb hb' => ?_, ?_, ?_, fun t i t' i' r1 r2 => ?_⟩
      · have hb2 : b < S.nl + 1 := hb
        have hb2' : b' < S.nl + 1 := hb'
        rw [lD_3f]
        unfold updL
        by_cases z : b = S.nl <;> by_cases z' : b' = S.nl
        · intro _; omega
        · rw [if_pos z, if_neg z']; exact fun v => absurd v.symm (hne b' (by omega))
        · rw [if_neg z, if_pos z']; exact fun v => absurd v (hne b (by omega))
        · rw [if_neg z, if_neg z']; exact e43 b b' (by omega) (by omega)
      · rw [x2, x4, x5]; exact ⟨e441, e442, e443⟩
      · rw [lD_92, lD_011, x9, x10, y0]
        rcases hq with ⟨rfl, v⟩ | v
        · exact ⟨e451, fun u _ => e452 u v, fun _ => e453 v⟩
        · refine ⟨e451, fun u _ z => ?_, fun _ z => ?_⟩
          · have := q9.1 u; rw [z] at this; omega
          · have := q10.1 h10; rw [← z] at this; omega
      · rw [lD_rk r1, lD_rk r2]; exact e46 t i t' i' r1 r2
  · refine ⟨?_, ?_, fun o' ho => ?_, fun t' ht => ?_, fun k hk => ?_, fun b hb => ?_, fun l hl => ?_, fun r hr => ?_⟩
    · rw [x0]; exact p1
    · rw [x0]; exact p2
    · rw [x6]; exact p3 o' ho
    · rw [x7]; exact p4 t' ht
    · rw [x3]; exact p5 k hk
    · rw [lD_1]
      exact p6 b hb
    · have hl' : l < S.nl + 1 := hl
      by_cases z : l = S.nl
      · subst z
        rw [lD_3n]
        simp only [LD, lf_aL, if_true, lS, fa']
        exact ⟨n1, n2, n3, n4, n5, n6, n7, n8, n9, n10⟩
      · rw [lD_3 z]
        simp only [LD, lf_aL, z, if_false]
        exact p7 l (by omega)
    · rw [lD_2]
      exact p8 r hr
  · rw [lD_2]
    obtain ⟨h1, -, h3, -⟩ := hH r hr
    exact ⟨h1, fun z => HM_cg (D := D) (h3 z) rfl rfl rfl⟩
theorem WO_lD {D : WD} {S : SS} {a q cap : Nat} {f : Nat → Int} {K : Nat → Prop} (ha : K a) (hq : q = D 0 11 ∨ K q) : ∀ b, WO (lD D S.nl a q cap) (S.aL f) b → WO D S b ∨ K b := fun b hb => by
  rcases hb with ⟨i, hi, e⟩ | ⟨l, hl, e⟩ | ⟨i, hi, e⟩ | ⟨t, r, ht, hr, e⟩
  · by_cases z : i = 11
    · subst z
      rw [lD_011] at e
      rcases hq with y | y
      · exact Or.inl (by rw [e, y]; exact WO.s hi)
      · exact Or.inr (by rw [e]; exact y)
    · rw [lD_0 z] at e
      exact Or.inl (by rw [e]; exact WO.s hi)
  · exact Or.inl (by rw [e]; exact WO.b hl)
  · have hi' : i < S.nl + 1 := hi
    by_cases z : i = S.nl
    · subst z
      rw [lD_3n] at e
      exact Or.inr (by rw [e]; exact ha)
    · rw [lD_3 z] at e
      exact Or.inl (by rw [e]; exact WO.l (by omega))
  · refine Or.inl ?_
    have : lD D S.nl a q cap t r = D t r := by
      unfold lD
      rw [if_neg (by omega), if_neg (by omega), if_neg (by omega)]
    rw [e, this]
    exact WO.h ht hr
theorem LN_new {h : Hp} {a n : Nat} {b t f l c p : Int} : LN (lNew (newO h a 3) a (i32 n) (i32 b) (i32 t) (i32 f) (i32 l) (i32 c) (i32 p)) a n b t f l c p := by
  unfold lNew
  refine ⟨?_, ?_, ?_, ?_, ?_, ?_, ?_, ?_, ?_, ?_, ?_⟩
  · simp only [kd_setI, kd_newO, if_true]
  all_goals simp [fi_setI, fi_newO, i32_1, i32_0]
theorem Fr_lNew {h : Hp} {a : Nat} {n b t f l c p : Int32} {W : Nat → Prop} (h0 : kd h a = 0) : Fr h (lNew (newO h a 3) a n b t f l c p) W := by
  refine (Fr.nO (c := 3) h0).nw (W2 := fun b => b = a) ?_ (fun b e => Or.inr (e ▸ h0))
  unfold lNew
  repeat (first | exact Fr.rf | refine Fr.tr ?_ (Fr.sI rfl))
def ct_X4_let_t (G : GT) (D : WD) (S : SS) : Ct := fun As h Q QX => sR As fun cc r => sI r fun b r => sI r fun t r => sI r fun f r => sI r fun l r => sI r fun c r => sI r fun p r => s0 r (CI G h D S ∧ cc = D 0 0 ∧ ((((0 ≤ b.toInt ∧ b.toInt < S.nb) ∧ S.bf (tn b) 6 = 1) ∧ vlC t.toInt f.toInt l.toInt c.toInt p.toInt) ∧ S.nl < 40 → nxc G h D S (S.aL (lS b.toInt t.toInt f.toInt l.toInt c.toInt p.toInt)) Q (.int (i32 S.nl))) ∧ (¬ ((0 ≤ b.toInt ∧ b.toInt < S.nb) ∧ S.bf (tn b) 6 = 1) → QX IOB h) ∧ (((0 ≤ b.toInt ∧ b.toInt < S.nb) ∧ S.bf (tn b) 6 = 1) ∧ ¬ vlC t.toInt f.toInt l.toInt c.toInt p.toInt → QX IAE h) ∧ ((((0 ≤ b.toInt ∧ b.toInt < S.nb) ∧ S.bf (tn b) 6 = 1) ∧ vlC t.toInt f.toInt l.toInt c.toInt p.toInt) ∧ ¬ S.nl < 40 → QX ISE h))
def ce_X4_let_t (G : GT) (D : WD) (S : SS) : CE := (0, yX4_let, MX4_let, 6, 10, 9, 112, ct_X4_let_t G D S)
set_option maxRecDepth 100000 in
set_option maxHeartbeats 4000000 in
theorem tl_X4_let96 (G : GT) {D : WD} {S : SS} (hW : WF S) {h : Hp} {c : Nat} {v : Int32} {o1 o2 o3 o4 o5 o6 : Option Value} {Q : Option Value → Hp → Prop} {QX : String → Hp → Prop} (hD : CD G h D S) (ec : c = D 0 0) (hq : ∀ h', FO h h' D → (∀ r, r < 12 → fi h' 2 4 (D 2 r) = fi h 2 4 (D 2 r) ∧ fi h' 2 11 (D 2 r) = i32 0) → Q (some (.int v)) h') :
    Wp G MX4_let false 10 Q QX 96 [some (.ref c), o1, o2, o3, o4, o5, o6, some (.int v)] [] h (0, 0) := by
  subst ec
  have hD0 := hD
  have hA0 := hD.1
  have hB0 := hD.2
  obtain ⟨⟨kC, rC0, rC1, rC2, rC3, rC4⟩, ⟨kQ, rQ0, rQ1⟩, ⟨kV, lV⟩, ⟨kG, lG⟩, ⟨kP, lP⟩, ⟨kT, lT⟩, ⟨⟨LB1, LB2, LB3, LB4, LB5, LB6, LB7⟩, ⟨LH1, LH2, LH3, LH4, LH5, LH6, LH7⟩, ⟨LL1, LL2, LL3, LL4, LL5, LL6, LL7⟩⟩, hKB, hHA, hKL, hCJ⟩ := hA0
  obtain ⟨dDy, dEv, dG, dP, dV, dB, dL, dH⟩ := hB0
  have hnb := hW.1
  have hnl := hW.2.1
  refine wpW (cs := [(76, ce_X4_standingBuilding_t G D S), (42, ce_X4_needArgument_t), (49, ce_Jx4a65c_size_8abf5), (169, ce_X2_init), (38, ce_Jx4a65c_add_9ea2d G), (170, ce_X4_forgetAllotments G D S)]) (stop := []) (n := 200) (env_cons (ceV (by decide +kernel) ⟨by decide, by decide, by decide +kernel⟩ (by decide) rfl (ok_X4_standingBuilding_t G G D S hW)) (env_cons (ceS (by decide +kernel) ⟨by decide, by decide, by decide +kernel⟩ (by decide) (ok_X4_needArgument_t G)) (env_cons (ceV (by decide +kernel) ⟨by decide, by decide, by decide +kernel⟩ (by decide) rfl (ok_Jx4a65c_size_8abf5 G)) (env_cons (ceI (by decide +kernel) ⟨by decide, by decide, by decide +kernel⟩ (by decide) rfl (ok_X2_init G)) (env_cons (ceV (by decide +kernel) ⟨by decide, by decide, by decide +kernel⟩ (by decide) rfl (ok_Jx4a65c_add_9ea2d G G)) (env_cons (ceV (by decide +kernel) ⟨by decide, by decide, by decide +kernel⟩ (by decide) rfl (ok_X4_forgetAllotments G G D S hW)) (env_nil0 (env_hh rfl)))))))) ?_
  simp only [↓wpN_S, ↓step_u, ↓stC_s, stC_s, ↓stF_u, stF_u, ↓stepI, lenI, ↓kN_u, isS, ↓gI_0, ↓gI_S, ↓gL_0, ↓gL_S, ↓gD_0, ↓gD_S, ↓gR_0, ↓gR_S, ↓sI_c, ↓sL_c, ↓sD_c, ↓sR_c, ↓s1_r, ↓s1_i, ↓vR_r, ↓vR_n, ↓s0_n, s0_n, ↓oR_u, ↓sP_u, ↓sPa_0, ↓sPa_S, ↓lkC_c, ↓callK_u, ↓cQ_s, ↓cQ_n, putL, putW, clr, kil, catS, catN, refF, booF, finF, nF, nmOf_0, nmOf_1, nmOf_2, nmOf_3, nmOf_4, nmOf_5, nmOf_6, nmOf_50, nmOf_51, nmOf_52, ↓reduceIte, reduceIte, Bool.false_eq_true, eq_self, true_or, or_true, true_and, and_true, false_or, or_false, Nat.reduceAdd, Nat.reduceSub, Nat.reduceEqDiff, Nat.reduceLT, Nat.reduceLeDiff, reduceCtorEq, true_implies, List.length_cons, List.length_nil, List.replicate, List.cons_append, List.nil_append, mrt_X4_let, mhh_X4_let, mow_X4_let, mnl_X4_let, DX4_let_0, DX4_let_1, DX4_let_2, DX4_let_5, DX4_let_6, DX4_let_7, DX4_let_8, DX4_let_10, DX4_let_13, DX4_let_15, DX4_let_16, DX4_let_18, DX4_let_21, DX4_let_22, DX4_let_23, DX4_let_25, DX4_let_28, DX4_let_30, DX4_let_31, DX4_let_33, DX4_let_36, DX4_let_38, DX4_let_39, DX4_let_41, DX4_let_44, DX4_let_45, DX4_let_48, DX4_let_51, DX4_let_53, DX4_let_55, DX4_let_57, DX4_let_60, DX4_let_63, DX4_let_64, DX4_let_66, DX4_let_69, DX4_let_70, DX4_let_71, DX4_let_74, DX4_let_77, DX4_let_78, DX4_let_80, DX4_let_81, DX4_let_82, DX4_let_83, DX4_let_85, DX4_let_87, DX4_let_89, DX4_let_92, DX4_let_95, DX4_let_96, DX4_let_97, DX4_let_100, DX4_let_102, ce_X4_standingBuilding_t, ↓ct_X4_standingBuilding_t, ycl_X4_standingBuilding, ce_X4_needArgument_t, ↓ct_X4_needArgument_t, ycl_X4_needArgument, ce_Jx4a65c_size_8abf5, ↓ct_Jx4a65c_size_8abf5, ycl_Jx4a65c_size_8abf5, ce_X2_init, ↓ct_X2_init, ycl_X2_init, ce_Jx4a65c_add_9ea2d, ↓ct_Jx4a65c_add_9ea2d, ycl_Jx4a65c_add_9ea2d, ce_X4_forgetAllotments, ↓ct_X4_forgetAllotments, ycl_X4_forgetAllotments, cX_nil mhh_X4_let]
  simp (disch := omega) only [i32_lit, i32_neg, i32_add, i32_mul, i32_sub, i32_nI, i32_lt, i32_le, i32_eq, inR_i, i32_clamp, i32_div, i32_max, i32_min, ite_max, ite_min, b2i_0, b2i_1, b2i_01, i32_toInt, tn_i, Int.toNat_natCast, em_t, true_and, and_true, Int.reduceToNat, Int.reduceLE, Int.reduceLT, Int.reduceAdd, Int.reduceMul, Int.reduceSub, Int.reduceNeg, Int.reduceEq, true_implies, not_true_eq_false, false_implies, not_false_eq_true, kC, rC0, rC1, rC2, rC3, rC4, kQ, rQ0, rQ1, kV, lV, kG, lG, kP, lP, kT, lT, LB1, LB2, LB3, LH1, LH2, LH3, LL1, LL2, LL3, dDy, dEv, true_and, and_true, Option.some.injEq, exists_eq_left', nmOf_0, nmOf_1, nmOf_2, nmOf_3, nmOf_4, nmOf_5, nmOf_6, Nat.add_sub_cancel, Nat.reduceSub, Nat.reduceLT, Nat.reduceEqDiff, ne_eq, not_false_eq_true, hD0]
  exact hq
set_option maxRecDepth 100000 in
set_option maxHeartbeats 4000000 in
theorem tl_X4_let92 (G : GT) {D : WD} {S : SS} (hW : WF S) {g : Hp} {a : Nat} {b t f l c p : Int} {o1 o2 o3 o4 o5 o6 : Option Value} {Q : Option Value → Hp → Prop} {QX : String → Hp → Prop} (hv : vlC t f l c p) (hb : 0 ≤ b ∧ b < S.nb) (hn : S.nl < 40) (hI : CI G g D S) (hne : ∀ b, b < S.nl → D 3 b ≠ a) (hB : LN g a S.nl b t f l c p)
    (hq : ∀ h' D', D' 0 0 = D 0 0 → Fr g h' (WO D S) → (∀ x, WO D' (S.aL (lS b t f l c p)) x → WO D S x ∨ (kd g x = 0 ∨ x = a)) → CI G h' D' (S.aL (lS b t f l c p)) → Q (some (.int (i32 S.nl))) h') :
    Wp G MX4_let false 10 Q QX 92 [some (.ref (D 0 0)), o1, o2, o3, o4, o5, o6, some (.int (i32 S.nl))] [.ref a, .ref (D 0 5)] g (1, 60) := by
  have hz : ∀ h' q' cap', Fr g h' (fun b => b = D 0 5 ∨ b = D 0 11) → (q' = D 0 11 ∧ 0 < D 9 2 ∨ kd g q' = 0) → Lst G h' (D 0 5) q' cap' (S.nl + 1) (updL (D 3) S.nl a) → 0 < cap' → ∀ b, Wp G MX4_let false 10 Q QX 96 [some (.ref (D 0 0)), o1, o2, o3, o4, o5, o6, some (.int (i32 S.nl))] [] h' b := fun h' q' cap' ff hqq hL hcap bb => by
    refine Wp.z (Wp.emp (fun hE => ?_))
    obtain ⟨hD2, hM2⟩ := CD_aL hI hE hne hB ff hqq hL hcap
    refine tl_X4_let96 (D := lD D S.nl a q' cap') (S := S.aL (lS b t f l c p)) G (WF_aL hW hb hv hn) hD2 (lD_0 (by omega)).symm (fun h'' g1 g2 => hq h'' _ (lD_0 (by omega)) ?_ ?_ (CI.fa hD2 hM2 g1 g2))
    · have g1' : FO h' h'' D := g1
      refine (ff.up (fun b hb => ?_)).tr g1'.fr
      rcases hb with rfl | rfl
      · exact WO.s (by omega)
      · exact WO.s (by omega)
    · exact WO_lD (K := fun x => kd g x = 0 ∨ x = a) (Or.inr rfl) (hqq.elim (fun z => Or.inl z.1) (fun z => Or.inr (Or.inl z)))
  have hD := hI.cd
  have hL := hI.1.2.2.2.2.2.2.1.2.2
  have ka := hB.1
  have hA0 := hD.1
  have hB0 := hD.2
  obtain ⟨⟨kC, rC0, rC1, rC2, rC3, rC4⟩, ⟨kQ, rQ0, rQ1⟩, ⟨kV, lV⟩, ⟨kG, lG⟩, ⟨kP, lP⟩, ⟨kT, lT⟩, ⟨⟨LB1, LB2, LB3, LB4, LB5, LB6, LB7⟩, ⟨LH1, LH2, LH3, LH4, LH5, LH6, LH7⟩, ⟨LL1, LL2, LL3, LL4, LL5, LL6, LL7⟩⟩, hKB, hHA, hKL, hCJ⟩ := hA0
  obtain ⟨dDy, dEv, dG, dP, dV, dB, dL, dH⟩ := hB0
  have hnb := hW.1
  have hnl := hW.2.1
  refine wpW (cs := [(76, ce_X4_standingBuilding_t G D S), (42, ce_X4_needArgument_t), (49, ce_Jx4a65c_size_8abf5), (169, ce_X2_init), (38, ce_Jx4a65c_add_9ea2d G), (170, ce_X4_forgetAllotments G D S)]) (stop := [96]) (n := 200) (env_cons (ceV (by decide +kernel) ⟨by decide, by decide, by decide +kernel⟩ (by decide) rfl (ok_X4_standingBuilding_t G G D S hW)) (env_cons (ceS (by decide +kernel) ⟨by decide, by decide, by decide +kernel⟩ (by decide) (ok_X4_needArgument_t G)) (env_cons (ceV (by decide +kernel) ⟨by decide, by decide, by decide +kernel⟩ (by decide) rfl (ok_Jx4a65c_size_8abf5 G)) (env_cons (ceI (by decide +kernel) ⟨by decide, by decide, by decide +kernel⟩ (by decide) rfl (ok_X2_init G)) (env_cons (ceV (by decide +kernel) ⟨by decide, by decide, by decide +kernel⟩ (by decide) rfl (ok_Jx4a65c_add_9ea2d G G)) (env_cons (ceV (by decide +kernel) ⟨by decide, by decide, by decide +kernel⟩ (by decide) rfl (ok_X4_forgetAllotments G G D S hW)) (env_nil0 (env_hh rfl)))))))) ?_
  simp only [↓wpN_S, ↓step_u, ↓stC_s, stC_s, ↓stF_u, stF_u, ↓stepI, lenI, ↓kN_u, isS, ↓gI_0, ↓gI_S, ↓gL_0, ↓gL_S, ↓gD_0, ↓gD_S, ↓gR_0, ↓gR_S, ↓sI_c, ↓sL_c, ↓sD_c, ↓sR_c, ↓s1_r, ↓s1_i, ↓vR_r, ↓vR_n, ↓s0_n, s0_n, ↓oR_u, ↓sP_u, ↓sPa_0, ↓sPa_S, ↓lkC_c, ↓callK_u, ↓cQ_s, ↓cQ_n, putL, putW, clr, kil, catS, catN, refF, booF, finF, nF, nmOf_0, nmOf_1, nmOf_2, nmOf_3, nmOf_4, nmOf_5, nmOf_6, nmOf_50, nmOf_51, nmOf_52, ↓reduceIte, reduceIte, Bool.false_eq_true, eq_self, true_or, or_true, true_and, and_true, false_or, or_false, Nat.reduceAdd, Nat.reduceSub, Nat.reduceEqDiff, Nat.reduceLT, Nat.reduceLeDiff, reduceCtorEq, true_implies, List.length_cons, List.length_nil, List.replicate, List.cons_append, List.nil_append, mrt_X4_let, mhh_X4_let, mow_X4_let, mnl_X4_let, DX4_let_0, DX4_let_1, DX4_let_2, DX4_let_5, DX4_let_6, DX4_let_7, DX4_let_8, DX4_let_10, DX4_let_13, DX4_let_15, DX4_let_16, DX4_let_18, DX4_let_21, DX4_let_22, DX4_let_23, DX4_let_25, DX4_let_28, DX4_let_30, DX4_let_31, DX4_let_33, DX4_let_36, DX4_let_38, DX4_let_39, DX4_let_41, DX4_let_44, DX4_let_45, DX4_let_48, DX4_let_51, DX4_let_53, DX4_let_55, DX4_let_57, DX4_let_60, DX4_let_63, DX4_let_64, DX4_let_66, DX4_let_69, DX4_let_70, DX4_let_71, DX4_let_74, DX4_let_77, DX4_let_78, DX4_let_80, DX4_let_81, DX4_let_82, DX4_let_83, DX4_let_85, DX4_let_87, DX4_let_89, DX4_let_92, DX4_let_95, DX4_let_96, DX4_let_97, DX4_let_100, DX4_let_102, ce_X4_standingBuilding_t, ↓ct_X4_standingBuilding_t, ycl_X4_standingBuilding, ce_X4_needArgument_t, ↓ct_X4_needArgument_t, ycl_X4_needArgument, ce_Jx4a65c_size_8abf5, ↓ct_Jx4a65c_size_8abf5, ycl_Jx4a65c_size_8abf5, ce_X2_init, ↓ct_X2_init, ycl_X2_init, ce_Jx4a65c_add_9ea2d, ↓ct_Jx4a65c_add_9ea2d, ycl_Jx4a65c_add_9ea2d, ce_X4_forgetAllotments, ↓ct_X4_forgetAllotments, ycl_X4_forgetAllotments, cX_nil mhh_X4_let]
  simp (disch := omega) only [i32_lit, i32_neg, i32_add, i32_mul, i32_sub, i32_nI, i32_lt, i32_le, i32_eq, inR_i, i32_clamp, i32_div, i32_max, i32_min, ite_max, ite_min, b2i_0, b2i_1, b2i_01, i32_toInt, tn_i, Int.toNat_natCast, em_t, true_and, and_true, Int.reduceToNat, Int.reduceLE, Int.reduceLT, Int.reduceAdd, Int.reduceMul, Int.reduceSub, Int.reduceNeg, Int.reduceEq, true_implies, not_true_eq_false, false_implies, not_false_eq_true, kC, rC0, rC1, rC2, rC3, rC4, kQ, rQ0, rQ1, kV, lV, kG, lG, kP, lP, kT, lT, LB1, LB2, LB3, LH1, LH2, LH3, LL1, LL2, LL3, dDy, dEv, true_and, and_true, Option.some.injEq, exists_eq_left', nmOf_0, nmOf_1, nmOf_2, nmOf_3, nmOf_4, nmOf_5, nmOf_6, Nat.add_sub_cancel, Nat.reduceSub, Nat.reduceLT, Nat.reduceEqDiff, ne_eq, not_false_eq_true, ka]
  exact ⟨D 0 11, D 9 2, S.nl, D 3, 4, hL, ⟨Or.inr (Or.inr rfl), hKL⟩, rfl, by omega, fun h' q' cap' f hqq hL hcap => hz h' q' cap' f hqq hL hcap _⟩
set_option maxRecDepth 100000 in
set_option maxHeartbeats 4000000 in
theorem ok_X4_let_t (G : GT) (G : GT) (D : WD) (S : SS) (hW : WF S) : OKm G yX4_let MX4_let 10 9 112 (ct_X4_let_t G D S) := by
  refine mkOK (ini := false) (by decide) rfl (by first | exact fun _ => rfl | (intro hh; cases hh)) (fun As h Q QX hc => ?_)
  replace hc := sR_e hc; obtain ⟨cc, r, rfl, hc⟩ := hc
  replace hc := sI_e hc; obtain ⟨b, r, rfl, hc⟩ := hc
  replace hc := sI_e hc; obtain ⟨t, r, rfl, hc⟩ := hc
  replace hc := sI_e hc; obtain ⟨f, r, rfl, hc⟩ := hc
  replace hc := sI_e hc; obtain ⟨l, r, rfl, hc⟩ := hc
  replace hc := sI_e hc; obtain ⟨c, r, rfl, hc⟩ := hc
  replace hc := sI_e hc; obtain ⟨p, r, rfl, hc⟩ := hc
  replace hc := s0_e hc; obtain ⟨rfl, hc⟩ := hc
  obtain ⟨hI, rfl, hq, hx1, hx2, hx3⟩ := hc
  obtain ⟨bV, hbV, rfl⟩ := i32_all b
  obtain ⟨tV, htV, rfl⟩ := i32_all t
  obtain ⟨fV, hfV, rfl⟩ := i32_all f
  obtain ⟨eV, heV, rfl⟩ := i32_all l
  obtain ⟨cV, hcV, rfl⟩ := i32_all c
  obtain ⟨pV, hpV, rfl⟩ := i32_all p
  simp only [i32_toInt hbV, tn_i hbV, i32_toInt htV, i32_toInt hfV, i32_toInt heV, i32_toInt hcV, i32_toInt hpV] at hq hx1 hx2 hx3
  have hD := hI.cd
  have hD0 := hD
  refine ⟨Nat.le_of_ble_eq_true rfl, ?_⟩
  simp only [ent, entL, catN, List.length_cons, List.length_nil, List.replicate, List.cons_append, List.nil_append, reduceIte, Nat.reduceEqDiff,  Nat.reduceAdd, Nat.reduceSub, mnl_X4_let]
  refine Wp.emp (fun hE => ?_)
  have hz : (((0 ≤ bV ∧ bV < S.nb) ∧ S.bf bV.toNat 6 = 1) ∧ vlC tV fV eV cV pV) ∧ S.nl < 40 → ∀ a, kd h a = 0 → a ≠ G.2.2.1.2.1 → ∀ b, b = (1, 60) → Wp G MX4_let false 10 Q QX 92 [some (.ref (D 0 0)), some (.int (i32 bV)), some (.int (i32 tV)), some (.int (i32 fV)), some (.int (i32 eV)), some (.int (i32 cV)), some (.int (i32 pV)), some (.int (i32 S.nl))] [.ref a, .ref (D 0 5)] (lNew (newO h a 3) a (i32 S.nl) (i32 bV) (i32 tV) (i32 fV) (i32 eV) (i32 cV) (i32 pV)) b := fun hv a h0 he b eb => by
    subst eb
    have fr0 : Fr h (lNew (newO h a 3) a (i32 S.nl) (i32 bV) (i32 tV) (i32 fV) (i32 eV) (i32 cV) (i32 pV)) (fun _ => False) := Fr_lNew h0
    have hI2 := hI.frm (h' := lNew (newO h a 3) a (i32 S.nl) (i32 bV) (i32 tV) (i32 fV) (i32 eV) (i32 cV) (i32 pV)) (by
      unfold lNew
      simp only [kd_setI, kd_newO]
      rw [if_neg he.symm]
      exact hE) fr0 (fun _ z => z.elim)
    refine tl_X4_let92 G hW hv.1.2 hv.1.1.1 hv.2 hI2 (fun b hb e => ?_) LN_new (fun h' D' e' f' hw hI' => hq hv h' D' e' ((fr0.up (fun _ z => z.elim)).tr f') (fun b hb => ?_) hI')
    · have := hI.1.2.2.2.2.2.2.2.2.2.1 b hb
      rw [e, h0] at this
      cases this
    · rcases hw b hb with z | z | z
      · exact Or.inl z
      · exact Or.inr (fr0.kz z)
      · exact Or.inr (by rw [z]; exact h0)
  have hA0 := hD.1
  have hB0 := hD.2
  obtain ⟨⟨kC, rC0, rC1, rC2, rC3, rC4⟩, ⟨kQ, rQ0, rQ1⟩, ⟨kV, lV⟩, ⟨kG, lG⟩, ⟨kP, lP⟩, ⟨kT, lT⟩, ⟨⟨LB1, LB2, LB3, LB4, LB5, LB6, LB7⟩, ⟨LH1, LH2, LH3, LH4, LH5, LH6, LH7⟩, ⟨LL1, LL2, LL3, LL4, LL5, LL6, LL7⟩⟩, hKB, hHA, hKL, hCJ⟩ := hA0
  obtain ⟨dDy, dEv, dG, dP, dV, dB, dL, dH⟩ := hB0
  have hnb := hW.1
  have hnl := hW.2.1
  refine wpW (cs := [(76, ce_X4_standingBuilding_t G D S), (42, ce_X4_needArgument_t), (49, ce_Jx4a65c_size_8abf5), (169, ce_X2_init), (38, ce_Jx4a65c_add_9ea2d G), (170, ce_X4_forgetAllotments G D S)]) (stop := [92]) (n := 200) (env_cons (ceV (by decide +kernel) ⟨by decide, by decide, by decide +kernel⟩ (by decide) rfl (ok_X4_standingBuilding_t G G D S hW)) (env_cons (ceS (by decide +kernel) ⟨by decide, by decide, by decide +kernel⟩ (by decide) (ok_X4_needArgument_t G)) (env_cons (ceV (by decide +kernel) ⟨by decide, by decide, by decide +kernel⟩ (by decide) rfl (ok_Jx4a65c_size_8abf5 G)) (env_cons (ceI (by decide +kernel) ⟨by decide, by decide, by decide +kernel⟩ (by decide) rfl (ok_X2_init G)) (env_cons (ceV (by decide +kernel) ⟨by decide, by decide, by decide +kernel⟩ (by decide) rfl (ok_Jx4a65c_add_9ea2d G G)) (env_cons (ceV (by decide +kernel) ⟨by decide, by decide, by decide +kernel⟩ (by decide) rfl (ok_X4_forgetAllotments G G D S hW)) (env_nil0 (env_hh rfl)))))))) ?_
  simp only [↓wpN_S, ↓step_u, ↓stC_s, stC_s, ↓stF_u, stF_u, ↓stepI, lenI, ↓kN_u, isS, ↓gI_0, ↓gI_S, ↓gL_0, ↓gL_S, ↓gD_0, ↓gD_S, ↓gR_0, ↓gR_S, ↓sI_c, ↓sL_c, ↓sD_c, ↓sR_c, ↓s1_r, ↓s1_i, ↓vR_r, ↓vR_n, ↓s0_n, s0_n, ↓oR_u, ↓sP_u, ↓sPa_0, ↓sPa_S, ↓lkC_c, ↓callK_u, ↓cQ_s, ↓cQ_n, putL, putW, clr, kil, catS, catN, refF, booF, finF, nF, nmOf_0, nmOf_1, nmOf_2, nmOf_3, nmOf_4, nmOf_5, nmOf_6, nmOf_50, nmOf_51, nmOf_52, ↓reduceIte, reduceIte, Bool.false_eq_true, eq_self, true_or, or_true, true_and, and_true, false_or, or_false, Nat.reduceAdd, Nat.reduceSub, Nat.reduceEqDiff, Nat.reduceLT, Nat.reduceLeDiff, reduceCtorEq, true_implies, List.length_cons, List.length_nil, List.replicate, List.cons_append, List.nil_append, mrt_X4_let, mhh_X4_let, mow_X4_let, mnl_X4_let, DX4_let_0, DX4_let_1, DX4_let_2, DX4_let_5, DX4_let_6, DX4_let_7, DX4_let_8, DX4_let_10, DX4_let_13, DX4_let_15, DX4_let_16, DX4_let_18, DX4_let_21, DX4_let_22, DX4_let_23, DX4_let_25, DX4_let_28, DX4_let_30, DX4_let_31, DX4_let_33, DX4_let_36, DX4_let_38, DX4_let_39, DX4_let_41, DX4_let_44, DX4_let_45, DX4_let_48, DX4_let_51, DX4_let_53, DX4_let_55, DX4_let_57, DX4_let_60, DX4_let_63, DX4_let_64, DX4_let_66, DX4_let_69, DX4_let_70, DX4_let_71, DX4_let_74, DX4_let_77, DX4_let_78, DX4_let_80, DX4_let_81, DX4_let_82, DX4_let_83, DX4_let_85, DX4_let_87, DX4_let_89, DX4_let_92, DX4_let_95, DX4_let_96, DX4_let_97, DX4_let_100, DX4_let_102, ce_X4_standingBuilding_t, ↓ct_X4_standingBuilding_t, ycl_X4_standingBuilding, ce_X4_needArgument_t, ↓ct_X4_needArgument_t, ycl_X4_needArgument, ce_Jx4a65c_size_8abf5, ↓ct_Jx4a65c_size_8abf5, ycl_Jx4a65c_size_8abf5, ce_X2_init, ↓ct_X2_init, ycl_X2_init, ce_Jx4a65c_add_9ea2d, ↓ct_Jx4a65c_add_9ea2d, ycl_Jx4a65c_add_9ea2d, ce_X4_forgetAllotments, ↓ct_X4_forgetAllotments, ycl_X4_forgetAllotments, cX_nil mhh_X4_let]
  simp (disch := omega) only [i32_lit, i32_neg, i32_add, i32_mul, i32_sub, i32_nI, i32_lt, i32_le, i32_eq, inR_i, i32_clamp, i32_div, i32_max, i32_min, ite_max, ite_min, b2i_0, b2i_1, b2i_01, i32_toInt, tn_i, Int.toNat_natCast, em_t, true_and, and_true, Int.reduceToNat, Int.reduceLE, Int.reduceLT, Int.reduceAdd, Int.reduceMul, Int.reduceSub, Int.reduceNeg, Int.reduceEq, true_implies, not_true_eq_false, false_implies, not_false_eq_true, kC, rC0, rC1, rC2, rC3, rC4, kQ, rQ0, rQ1, kV, lV, kG, lG, kP, lP, kT, lT, LB1, LB2, LB3, LH1, LH2, LH3, LL1, LL2, LL3, dDy, dEv, true_and, and_true, Option.some.injEq, exists_eq_left', nmOf_0, nmOf_1, nmOf_2, nmOf_3, nmOf_4, nmOf_5, nmOf_6, Nat.add_sub_cancel, Nat.reduceSub, Nat.reduceLT, Nat.reduceEqDiff, ne_eq, not_false_eq_true, kd_setI, fi_setI, fr_setI, ln_setI, ia_setI, ja_setI, ra_setI, kd_setR, fi_setR, fr_setR, ln_setR, ia_setR, ja_setR, ra_setR, kd_setIA, fi_setIA, fr_setIA, ln_setIA, ia_setIA, ja_setIA, ra_setIA, kd_setLA, fi_setLA, fr_setLA, ln_setLA, ia_setLA, ja_setLA, ra_setLA, kd_setRA, fi_setRA, fr_setRA, ln_setRA, ia_setRA, ja_setRA, ra_setRA, kd_cpRA, fi_cpRA, fr_cpRA, ln_cpRA, ia_cpRA, ja_cpRA, ra_cpRA, kd_cpIA, fi_cpIA, fr_cpIA, ln_cpIA, ia_cpIA, ja_cpIA, ra_cpIA, kd_newO, fi_newO, fr_newO, ln_newO, ia_newO, ja_newO, ra_newO, kd_newA, fi_newA, fr_newA, ln_newA, ia_newA, ja_newA, ra_newA, hD0, if_true, Nat.reduceAdd]
  refine ⟨fun h1 => ⟨fun v1 => ⟨fun v2 => ⟨fun v3 => ⟨fun v4 => ⟨fun v5 => ?_, fun z => hx2 ⟨h1, fun y => z y.2.2.2.2.2⟩⟩, fun z => hx2 ⟨h1, fun y => z y.2.2.2.2.1⟩⟩, fun z => hx2 ⟨h1, fun y => z (by obtain ⟨-, y2, -, y4, -⟩ := y; omega)⟩⟩, fun z => hx2 ⟨h1, fun y => z y.2.2.1⟩⟩, fun z => hx2 ⟨h1, fun y => z y.1⟩⟩, fun z => hx1 z⟩
  have hvl : vlC tV fV eV cV pV := ⟨v1, by omega, v2, by omega, v4, v5⟩
  exact ⟨fun h8 a h0 he => hz ⟨⟨h1, hvl⟩, by omega⟩ a h0 he _ rfl, fun h8 => ⟨thr_X4_let, hx3 ⟨⟨h1, hvl⟩, by omega⟩⟩⟩

