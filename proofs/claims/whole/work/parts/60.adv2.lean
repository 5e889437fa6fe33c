/-! ===== the class: advise ===== -/
theorem sumN_upd {f g : Nat → Int} {q : Nat} : ∀ n, q < n → (∀ i, i < n → i ≠ q → f i = g i) → sumN f n = sumN g n + (f q - g q)
  | 0, h, _ => by omega
  | n + 1, h, he => by
    simp only [sumN]
    by_cases e : q = n
    · subst e
      rw [sumN_congr q (fun i hi => he i (by omega) (by omega))]
      omega
    · rw [sumN_upd n (by omega) (fun i hi => he i (by omega)), he n (by omega) (fun z => e z.symm)]
      omega
theorem ite_cg {c c' : Prop} [Decidable c] [Decidable c'] {x y : Int} (h : c ↔ c') : (if c then x else y) = if c' then x else y := by
  by_cases q : c
  · rw [if_pos q, if_pos (h.mp q)]
  · rw [if_neg q, if_neg (fun z => q (h.mpr z))]
/-- ahead of a price and a number -/
abbrev aC (S : SS) (b : Int) (r : Nat) (p q : Int) (l : Nat) : Prop := S.lf l 0 = b ∧ hasH S l r = true ∧ (S.lf l 5 > p ∨ S.lf l 5 = p ∧ (l : Int) < q)
def sC (S : SS) (b : Int) (r : Nat) (p q : Int) (x : Nat → Int) : Int := sumN (fun l => if aC S b r p q l then x l else 0) S.nl
theorem sC_s {S : SS} {b : Int} {r q : Nat} {p : Int} {x : Nat → Int} (hq : q < S.nl) (c1 : S.lf q 0 = b) (c2 : hasH S q r = true) (c3 : S.lf q 5 = p) : sC S b r p ((q + 1 : Nat) : Int) x = sC S b r p q x + x q := by
  have h := sumN_upd (f := fun l => if aC S b r p ((q + 1 : Nat) : Int) l then x l else 0) (g := fun l => if aC S b r p q l then x l else 0) (q := q) S.nl hq (fun i _ hi => ite_cg ⟨fun z => ⟨z.1, z.2.1, by have := z.2.2; omega⟩, fun z => ⟨z.1, z.2.1, by have := z.2.2; omega⟩⟩)
  have e1 : (if aC S b r p ((q + 1 : Nat) : Int) q then x q else 0) = x q := if_pos ⟨c1, c2, Or.inr ⟨c3, by omega⟩⟩
  have e2 : (if aC S b r p q q then x q else 0) = 0 := if_neg (fun z => by have := z.2.2; omega)
  have h' : sC S b r p ((q + 1 : Nat) : Int) x = sC S b r p q x + ((if aC S b r p ((q + 1 : Nat) : Int) q then x q else 0) - (if aC S b r p q q then x q else 0)) := h
  rw [e1, e2] at h'
  omega
theorem sC_k {S : SS} {b : Int} {r q : Nat} {p : Int} {x : Nat → Int} (hc : ¬ (S.lf q 0 = b ∧ hasH S q r = true ∧ S.lf q 5 = p)) : sC S b r p ((q + 1 : Nat) : Int) x = sC S b r p q x :=
  sumN_congr _ (fun i _ => ite_cg (by
    by_cases z : i = q
    · subst z
      exact ⟨fun a => ⟨a.1, a.2.1, by rcases a.2.2 with y | y; exact Or.inl y; exact absurd ⟨a.1, a.2.1, y.1⟩ hc⟩, fun a => ⟨a.1, a.2.1, by have := a.2.2; omega⟩⟩
    · exact ⟨fun a => ⟨a.1, a.2.1, by have := a.2.2; omega⟩, fun a => ⟨a.1, a.2.1, by have := a.2.2; omega⟩⟩))
/-- what is given ahead of a price and a number -/
def gsm (S : SS) (b : Int) (r : Nat) (p q : Int) : Int := sC S b r p q (fun l => gts S l r)
theorem wnt_sC {S : SS} {b : Int} {r : Nat} {p q : Int} : wnt S b r p q = sC S b r p q (fun l => S.lf l 4) := rfl
theorem gsm_q {S : SS} {b : Int} {r : Nat} {p : Int} (hW : WF S) (h0 : gsm S b r p 0 = min (area S b r) (wnt S b r p 0)) : ∀ q : Nat, q ≤ S.nl → gsm S b r p q = min (area S b r) (wnt S b r p q)
  | 0, _ => h0
  | q + 1, hq => by
    have ih := gsm_q hW h0 q (by omega)
    have hL := hW.2.2.2.1 q (by omega)
    by_cases hc : S.lf q 0 = b ∧ hasH S q r = true ∧ S.lf q 5 = p
    · obtain ⟨c1, c2, c3⟩ := hc
      have e1 : gsm S b r p ((q + 1 : Nat) : Int) = gsm S b r p q + gts S q r := sC_s (by omega) c1 c2 c3
      have e2 : wnt S b r p ((q + 1 : Nat) : Int) = wnt S b r p q + S.lf q 4 := sC_s (by omega) c1 c2 c3
      have hg := gts_c (r := r) (show 1 ≤ S.lf q 4 by omega) c2
      rw [c1, c3] at hg
      rw [e1, e2, ih, hg]
      omega
    · have e1 : gsm S b r p ((q + 1 : Nat) : Int) = gsm S b r p q := sC_k hc
      have e2 : wnt S b r p ((q + 1 : Nat) : Int) = wnt S b r p q := sC_k hc
      rw [e1, e2]
      exact ih
theorem gsm_p {S : SS} {b : Int} {r : Nat} (hW : WF S) : ∀ k : Nat, gsm S b r (100 - k) 0 = min (area S b r) (wnt S b r (100 - k) 0)
  | 0 => by
    have ha := area_b S b r
    have e0 : ∀ x : Nat → Int, sC S b r (100 - ((0 : Nat) : Int)) 0 x = 0 := fun x => sumN_0 _ (fun i hi => by
      have hL := hW.2.2.2.1 i hi
      exact if_neg (fun z => by have := z.2.2; omega))
    have e1 : gsm S b r (100 - ((0 : Nat) : Int)) 0 = 0 := e0 _
    have e2 : wnt S b r (100 - ((0 : Nat) : Int)) 0 = 0 := e0 _
    rw [e1, e2]
    omega
  | k + 1 => by
    have ih := gsm_q hW (gsm_p (b := b) (r := r) hW k) S.nl (Nat.le_refl _)
    have e0 : ∀ x : Nat → Int, sC S b r (100 - ((k + 1 : Nat) : Int)) 0 x = sC S b r (100 - (k : Int)) S.nl x := fun x => sumN_congr _ (fun i hi => ite_cg ⟨fun z => ⟨z.1, z.2.1, by have := z.2.2; omega⟩, fun z => ⟨z.1, z.2.1, by have := z.2.2; omega⟩⟩)
    have e1 : gsm S b r (100 - ((k + 1 : Nat) : Int)) 0 = gsm S b r (100 - (k : Int)) S.nl := e0 _
    have e2 : wnt S b r (100 - ((k + 1 : Nat) : Int)) 0 = wnt S b r (100 - (k : Int)) S.nl := e0 _
    rw [e1, e2]
    exact ih
/-- what is left: the area without what is given for a price or more -/
theorem fre_eq {S : SS} {b : Int} {r : Nat} {p : Int} (hW : WF S) (hp : 1 ≤ p ∧ p ≤ 99) : area S b r - sumN (fun l => if S.lf l 0 = b ∧ p ≤ S.lf l 5 then gts S l r else 0) S.nl = free S b r p S.nl := by
  obtain ⟨k, hk⟩ := Int.eq_ofNat_of_zero_le (show 0 ≤ 100 - p by omega)
  have h1 := gsm_q hW (gsm_p (b := b) (r := r) hW k) S.nl (Nat.le_refl _)
  rw [show (100 : Int) - k = p by omega] at h1
  have e : sumN (fun l => if S.lf l 0 = b ∧ p ≤ S.lf l 5 then gts S l r else 0) S.nl = gsm S b r p S.nl := sumN_congr _ (fun i hi => by
    by_cases z : hasH S i r = true
    · exact ite_cg ⟨fun y => ⟨y.1, z, by omega⟩, fun y => ⟨y.1, by have := y.2.2; omega⟩⟩
    · have e0 : gts S i r = 0 := by unfold gts; rw [if_neg z]
      have e1 : (if aC S b r p S.nl i then gts S i r else 0) = 0 := if_neg (fun x => z x.2.1)
      show _ = if aC S b r p S.nl i then gts S i r else 0
      rw [e1, e0]
      split <;> rfl)
  rw [e, h1]
  unfold free
  omega
def ct_X4_freeIn (G : GT) (D : WD) (S : SS) : Ct := fun As h Q _ => sR As fun c r => sR r fun a r => sI r fun b r => sI r fun p r => s0 r (CD G h D S ∧ c = D 0 0 ∧ (0 ≤ b.toInt ∧ b.toInt < S.nb) ∧ (1 ≤ p.toInt ∧ p.toInt ≤ 99) ∧ ∃ r, r < 12 ∧ a = D 2 r ∧ HM h D S r ∧ HL h D S r ∧ Q (some (.int (i32 (free S b.toInt r p.toInt S.nl)))) h)
def ce_X4_freeIn (G : GT) (D : WD) (S : SS) : CE := (0, yX4_freeIn, MX4_freeIn, 3, 3, 0, 0, ct_X4_freeIn G D S)
set_option maxRecDepth 100000 in
set_option maxHeartbeats 4000000 in
theorem lp_X4_freeIn (G : GT) {D : WD} {S : SS} (hW : WF S) {h : Hp} {r b : Nat} {p : Int} {Q : Option Value → Hp → Prop} {QX : String → Hp → Prop} (hb : b < S.nb) (hp : 1 ≤ p ∧ p ≤ 99) (hr : r < 12) (hD : CD G h D S) (hL : HL h D S r) (hq : Q (some (.int (i32 (free S b r p S.nl)))) h) :
    ∀ k n : Nat, n + k = S.nl → ∀ o6, Wp G MX4_freeIn false 3 Q QX 10 [some (.ref (D 0 0)), some (.ref (D 2 r)), some (.int (i32 b)), some (.int (i32 p)), some (.int (i32 (area S b r - sumN (fun l => if S.lf l 0 = b ∧ p ≤ S.lf l 5 then gts S l r else 0) n))), some (.int (i32 n)), o6] [] h (0, 0) := by
  rw [← fre_eq hW hp] at hq
  have hD0 := hD
  intro k
  induction k with
  | zero =>
    intro n hn o6
    have e : n = S.nl := by omega
    subst e
    have hA0 := hD.1
    have hB0 := hD.2
    obtain ⟨⟨kC, rC0, rC1, rC2, rC3, rC4⟩, ⟨kQ, rQ0, rQ1⟩, ⟨kV, lV⟩, ⟨kG, lG⟩, ⟨kP, lP⟩, ⟨kT, lT⟩, ⟨⟨LB1, LB2, LB3, LB4, LB5, LB6, LB7⟩, ⟨LH1, LH2, LH3, LH4, LH5, LH6, LH7⟩, ⟨LL1, LL2, LL3, LL4, LL5, LL6, LL7⟩⟩, hKB, hHA, hKL, hCJ⟩ := hA0
    obtain ⟨dDy, dEv, dG, dP, dV, dB, dL, dH⟩ := hB0
    have hnb := hW.1
    have hnl := hW.2.1
    refine wpW (cs := [(158, ce_X1_areaOf G D S), (49, ce_Jx4a65c_size_8abf5), (84, ce_Jx4a65c_get_915e3), (205, ce_X1_givenTo G D S)]) (stop := [10]) (n := 200) (env_cons (ceV (by decide +kernel) ⟨by decide, by decide, by decide +kernel⟩ (by decide) rfl (ok_X1_areaOf G G D S hW)) (env_cons (ceV (by decide +kernel) ⟨by decide, by decide, by decide +kernel⟩ (by decide) rfl (ok_Jx4a65c_size_8abf5 G)) (env_cons (ceV (by decide +kernel) ⟨by decide, by decide, by decide +kernel⟩ (by decide) rfl (ok_Jx4a65c_get_915e3 G)) (env_cons (ceV (by decide +kernel) ⟨by decide, by decide, by decide +kernel⟩ (by decide) rfl (ok_X1_givenTo G G D S hW)) (env_nil0 (env_hh rfl)))))) ?_
    simp only [↓wpN_S, ↓step_u, ↓stC_s, stC_s, ↓stF_u, stF_u, ↓stepI, lenI, ↓kN_u, isS, ↓gI_0, ↓gI_S, ↓gL_0, ↓gL_S, ↓gD_0, ↓gD_S, ↓gR_0, ↓gR_S, ↓sI_c, ↓sL_c, ↓sD_c, ↓sR_c, ↓s1_r, ↓s1_i, ↓vR_r, ↓vR_n, ↓s0_n, s0_n, ↓oR_u, ↓sP_u, ↓sPa_0, ↓sPa_S, ↓lkC_c, ↓callK_u, ↓cQ_s, ↓cQ_n, putL, putW, clr, kil, catS, catN, refF, booF, finF, nF, nmOf_0, nmOf_1, nmOf_2, nmOf_3, nmOf_4, nmOf_5, nmOf_6, nmOf_50, nmOf_51, nmOf_52, ↓reduceIte, reduceIte, Bool.false_eq_true, eq_self, true_or, or_true, true_and, and_true, false_or, or_false, Nat.reduceAdd, Nat.reduceSub, Nat.reduceEqDiff, Nat.reduceLT, Nat.reduceLeDiff, reduceCtorEq, true_implies, List.length_cons, List.length_nil, List.replicate, List.cons_append, List.nil_append, mrt_X4_freeIn, mhh_X4_freeIn, mow_X4_freeIn, mnl_X4_freeIn, DX4_freeIn_0, DX4_freeIn_1, DX4_freeIn_2, DX4_freeIn_5, DX4_freeIn_7, DX4_freeIn_8, DX4_freeIn_10, DX4_freeIn_12, DX4_freeIn_13, DX4_freeIn_16, DX4_freeIn_19, DX4_freeIn_22, DX4_freeIn_23, DX4_freeIn_26, DX4_freeIn_28, DX4_freeIn_31, DX4_freeIn_34, DX4_freeIn_36, DX4_freeIn_38, DX4_freeIn_41, DX4_freeIn_42, DX4_freeIn_45, DX4_freeIn_47, DX4_freeIn_50, DX4_freeIn_51, DX4_freeIn_54, DX4_freeIn_56, DX4_freeIn_57, DX4_freeIn_59, DX4_freeIn_62, DX4_freeIn_63, DX4_freeIn_65, DX4_freeIn_68, DX4_freeIn_71, DX4_freeIn_73, ce_X1_areaOf, ↓ct_X1_areaOf, ycl_X1_areaOf, ce_Jx4a65c_size_8abf5, ↓ct_Jx4a65c_size_8abf5, ycl_Jx4a65c_size_8abf5, ce_Jx4a65c_get_915e3, ↓ct_Jx4a65c_get_915e3, ycl_Jx4a65c_get_915e3, ce_X1_givenTo, ↓ct_X1_givenTo, ycl_X1_givenTo, cX_nil mhh_X4_freeIn]
    simp (disch := omega) only [i32_lit, i32_neg, i32_add, i32_mul, i32_sub, i32_nI, i32_lt, i32_le, i32_eq, inR_i, i32_clamp, i32_div, i32_max, i32_min, ite_max, ite_min, b2i_0, b2i_1, b2i_01, i32_toInt, tn_i, Int.toNat_natCast, em_t, true_and, and_true, Int.reduceToNat, Int.reduceLE, Int.reduceLT, Int.reduceAdd, Int.reduceMul, Int.reduceSub, Int.reduceNeg, Int.reduceEq, true_implies, not_true_eq_false, false_implies, not_false_eq_true, kC, rC0, rC1, rC2, rC3, rC4, kQ, rQ0, rQ1, kV, lV, kG, lG, kP, lP, kT, lT, LB1, LB2, LB3, LH1, LH2, LH3, LL1, LL2, LL3, dDy, dEv, true_and, and_true, Option.some.injEq, exists_eq_left', nmOf_0, nmOf_1, nmOf_2, nmOf_3, nmOf_4, nmOf_5, nmOf_6, Nat.add_sub_cancel, Nat.reduceSub, Nat.reduceLT, Nat.reduceEqDiff, ne_eq, not_false_eq_true]
    exact ⟨fun _ => hq, fun z => by omega⟩
  | succ k ih =>
    intro n hn o6
    have hs := ih (n + 1) (by omega)
    simp only [sumN] at hs
    have hn' : n < S.nl := by omega
    have hA0 := hD.1
    have hB0 := hD.2
    obtain ⟨⟨kC, rC0, rC1, rC2, rC3, rC4⟩, ⟨kQ, rQ0, rQ1⟩, ⟨kV, lV⟩, ⟨kG, lG⟩, ⟨kP, lP⟩, ⟨kT, lT⟩, ⟨⟨LB1, LB2, LB3, LB4, LB5, LB6, LB7⟩, ⟨LH1, LH2, LH3, LH4, LH5, LH6, LH7⟩, ⟨LL1, LL2, LL3, LL4, LL5, LL6, LL7⟩⟩, hKB, hHA, hKL, hCJ⟩ := hA0
    obtain ⟨dDy, dEv, dG, dP, dV, dB, dL, dH⟩ := hB0
    have hnb := hW.1
    have hnl := hW.2.1
    obtain ⟨kH, ⟨rH5, rH6, rH7, rH8, rH12⟩, ⟨kH4, lH4⟩, ⟨kH5, lH5⟩, ⟨kH6, lH6⟩, ⟨kH7, lH7⟩⟩ := hHA r hr
    obtain ⟨eH0, eH1, eH2, eH3⟩ := dH r hr
    have qH := LH7 r hr
    obtain ⟨kqH, lqH⟩ := LH6 (by omega)
    obtain ⟨vH0, vH0', vH1, vH1', -, vH2, vH2'⟩ := hW.2.2.2.2.1 r hr
    have kL := hKL n hn'
    obtain ⟨eL0, eL1, eL2, eL3, eL4, eL5, eL6, eL7, eL8, eL9⟩ := dL n hn'
    have qL := LL7 n hn'
    obtain ⟨kqL, lqL⟩ := LL6 (by omega)
    obtain ⟨vL0, vL0', vL1, vL1', vL2, vL2', vL3, vL4, vL4', vL5, vL5', vL6, vL7, vL7'⟩ := hW.2.2.2.1 n hn'
    refine wpW (cs := [(158, ce_X1_areaOf G D S), (49, ce_Jx4a65c_size_8abf5), (84, ce_Jx4a65c_get_915e3), (205, ce_X1_givenTo G D S)]) (stop := [10]) (n := 200) (env_cons (ceV (by decide +kernel) ⟨by decide, by decide, by decide +kernel⟩ (by decide) rfl (ok_X1_areaOf G G D S hW)) (env_cons (ceV (by decide +kernel) ⟨by decide, by decide, by decide +kernel⟩ (by decide) rfl (ok_Jx4a65c_size_8abf5 G)) (env_cons (ceV (by decide +kernel) ⟨by decide, by decide, by decide +kernel⟩ (by decide) rfl (ok_Jx4a65c_get_915e3 G)) (env_cons (ceV (by decide +kernel) ⟨by decide, by decide, by decide +kernel⟩ (by decide) rfl (ok_X1_givenTo G G D S hW)) (env_nil0 (env_hh rfl)))))) ?_
    simp only [↓wpN_S, ↓step_u, ↓stC_s, stC_s, ↓stF_u, stF_u, ↓stepI, lenI, ↓kN_u, isS, ↓gI_0, ↓gI_S, ↓gL_0, ↓gL_S, ↓gD_0, ↓gD_S, ↓gR_0, ↓gR_S, ↓sI_c, ↓sL_c, ↓sD_c, ↓sR_c, ↓s1_r, ↓s1_i, ↓vR_r, ↓vR_n, ↓s0_n, s0_n, ↓oR_u, ↓sP_u, ↓sPa_0, ↓sPa_S, ↓lkC_c, ↓callK_u, ↓cQ_s, ↓cQ_n, putL, putW, clr, kil, catS, catN, refF, booF, finF, nF, nmOf_0, nmOf_1, nmOf_2, nmOf_3, nmOf_4, nmOf_5, nmOf_6, nmOf_50, nmOf_51, nmOf_52, ↓reduceIte, reduceIte, Bool.false_eq_true, eq_self, true_or, or_true, true_and, and_true, false_or, or_false, Nat.reduceAdd, Nat.reduceSub, Nat.reduceEqDiff, Nat.reduceLT, Nat.reduceLeDiff, reduceCtorEq, true_implies, List.length_cons, List.length_nil, List.replicate, List.cons_append, List.nil_append, mrt_X4_freeIn, mhh_X4_freeIn, mow_X4_freeIn, mnl_X4_freeIn, DX4_freeIn_0, DX4_freeIn_1, DX4_freeIn_2, DX4_freeIn_5, DX4_freeIn_7, DX4_freeIn_8, DX4_freeIn_10, DX4_freeIn_12, DX4_freeIn_13, DX4_freeIn_16, DX4_freeIn_19, DX4_freeIn_22, DX4_freeIn_23, DX4_freeIn_26, DX4_freeIn_28, DX4_freeIn_31, DX4_freeIn_34, DX4_freeIn_36, DX4_freeIn_38, DX4_freeIn_41, DX4_freeIn_42, DX4_freeIn_45, DX4_freeIn_47, DX4_freeIn_50, DX4_freeIn_51, DX4_freeIn_54, DX4_freeIn_56, DX4_freeIn_57, DX4_freeIn_59, DX4_freeIn_62, DX4_freeIn_63, DX4_freeIn_65, DX4_freeIn_68, DX4_freeIn_71, DX4_freeIn_73, ce_X1_areaOf, ↓ct_X1_areaOf, ycl_X1_areaOf, ce_Jx4a65c_size_8abf5, ↓ct_Jx4a65c_size_8abf5, ycl_Jx4a65c_size_8abf5, ce_Jx4a65c_get_915e3, ↓ct_Jx4a65c_get_915e3, ycl_Jx4a65c_get_915e3, ce_X1_givenTo, ↓ct_X1_givenTo, ycl_X1_givenTo, cX_nil mhh_X4_freeIn]
    simp (disch := omega) only [i32_lit, i32_neg, i32_add, i32_mul, i32_sub, i32_nI, i32_lt, i32_le, i32_eq, inR_i, i32_clamp, i32_div, i32_max, i32_min, ite_max, ite_min, b2i_0, b2i_1, b2i_01, i32_toInt, tn_i, Int.toNat_natCast, em_t, true_and, and_true, Int.reduceToNat, Int.reduceLE, Int.reduceLT, Int.reduceAdd, Int.reduceMul, Int.reduceSub, Int.reduceNeg, Int.reduceEq, true_implies, not_true_eq_false, false_implies, not_false_eq_true, kC, rC0, rC1, rC2, rC3, rC4, kQ, rQ0, rQ1, kV, lV, kG, lG, kP, lP, kT, lT, LB1, LB2, LB3, LH1, LH2, LH3, LL1, LL2, LL3, dDy, dEv, true_and, and_true, Option.some.injEq, exists_eq_left', nmOf_0, nmOf_1, nmOf_2, nmOf_3, nmOf_4, nmOf_5, nmOf_6, Nat.add_sub_cancel, Nat.reduceSub, Nat.reduceLT, Nat.reduceEqDiff, ne_eq, not_false_eq_true, kH, rH5, rH6, rH7, rH8, rH12, kH4, lH4, kH5, lH5, kH6, lH6, kH7, lH7, eH0, eH1, eH2, eH3, qH, kqH, lqH, kL, eL0, eL1, eL2, eL3, eL4, eL5, eL6, eL7, eL8, eL9, qL, kqL, lqL, hD0]
    rw [show (n : Int) + 1 = ((n + 1 : Nat) : Int) by omega]
    refine ⟨fun z => by omega, fun _ => ⟨by omega, by omega, by omega, fun z => ?_, fun z => ⟨fun y => ?_, fun y => ⟨by omega, r, hr, rfl, hL, ?_⟩⟩⟩⟩
    · rw [if_neg (fun x => z x.1), Int.add_zero] at hs
      exact hs _
    · rw [if_neg (by omega), Int.add_zero] at hs
      exact hs _
    · rw [if_pos ⟨z, by omega⟩, ← Int.sub_sub] at hs
      exact hs _
set_option maxRecDepth 100000 in
set_option maxHeartbeats 4000000 in
theorem ok_X4_freeIn (G : GT) (G : GT) (D : WD) (S : SS) (hW : WF S) : OKm G yX4_freeIn MX4_freeIn 3 0 0 (ct_X4_freeIn G D S) := by
  refine mkOK (ini := false) (by decide) rfl (by first | exact fun _ => rfl | (intro hh; cases hh)) (fun As h Q QX hc => ?_)
  replace hc := sR_e hc; obtain ⟨c, r, rfl, hc⟩ := hc
  replace hc := sR_e hc; obtain ⟨a, r, rfl, hc⟩ := hc
  replace hc := sI_e hc; obtain ⟨b, r, rfl, hc⟩ := hc
  replace hc := sI_e hc; obtain ⟨p, r, rfl, hc⟩ := hc
  replace hc := s0_e hc; obtain ⟨rfl, hc⟩ := hc
  obtain ⟨hD, rfl, hb, hp, r, hr, rfl, hM, hL, hq⟩ := hc
  obtain ⟨bV, hbV, rfl⟩ := i32_all b
  obtain ⟨pV, hpV, rfl⟩ := i32_all p
  rw [i32_toInt hbV] at hb hq
  rw [i32_toInt hpV] at hp hq
  have hnb0 := hW.1
  have hb2 := hb.2
  obtain ⟨b, rfl⟩ := Int.eq_ofNat_of_zero_le hb.1
  have hz := lp_X4_freeIn (Q := Q) (QX := QX) G hW (show b < S.nb by omega) hp hr hD hL hq S.nl 0 (Nat.zero_add _) none
  rw [show sumN (fun l => if S.lf l 0 = (b : Int) ∧ pV ≤ S.lf l 5 then gts S l r else 0) 0 = 0 from rfl, Int.sub_zero] at hz
  have hD0 := hD
  have hA0 := hD.1
  have hB0 := hD.2
  obtain ⟨⟨kC, rC0, rC1, rC2, rC3, rC4⟩, ⟨kQ, rQ0, rQ1⟩, ⟨kV, lV⟩, ⟨kG, lG⟩, ⟨kP, lP⟩, ⟨kT, lT⟩, ⟨⟨LB1, LB2, LB3, LB4, LB5, LB6, LB7⟩, ⟨LH1, LH2, LH3, LH4, LH5, LH6, LH7⟩, ⟨LL1, LL2, LL3, LL4, LL5, LL6, LL7⟩⟩, hKB, hHA, hKL, hCJ⟩ := hA0
  obtain ⟨dDy, dEv, dG, dP, dV, dB, dL, dH⟩ := hB0
  have hnb := hW.1
  have hnl := hW.2.1
  obtain ⟨kH, ⟨rH5, rH6, rH7, rH8, rH12⟩, ⟨kH4, lH4⟩, ⟨kH5, lH5⟩, ⟨kH6, lH6⟩, ⟨kH7, lH7⟩⟩ := hHA r hr
  obtain ⟨eH0, eH1, eH2, eH3⟩ := dH r hr
  have qH := LH7 r hr
  obtain ⟨kqH, lqH⟩ := LH6 (by omega)
  obtain ⟨vH0, vH0', vH1, vH1', -, vH2, vH2'⟩ := hW.2.2.2.2.1 r hr
  refine ⟨Nat.le_of_ble_eq_true rfl, ?_⟩
  simp only [ent, entL, catN, List.length_cons, List.length_nil, List.replicate, List.cons_append, List.nil_append, reduceIte, Nat.reduceEqDiff,  Nat.reduceAdd, Nat.reduceSub, mnl_X4_freeIn]
  refine wpW (cs := [(158, ce_X1_areaOf G D S), (49, ce_Jx4a65c_size_8abf5), (84, ce_Jx4a65c_get_915e3), (205, ce_X1_givenTo G D S)]) (stop := [10]) (n := 200) (env_cons (ceV (by decide +kernel) ⟨by decide, by decide, by decide +kernel⟩ (by decide) rfl (ok_X1_areaOf G G D S hW)) (env_cons (ceV (by decide +kernel) ⟨by decide, by decide, by decide +kernel⟩ (by decide) rfl (ok_Jx4a65c_size_8abf5 G)) (env_cons (ceV (by decide +kernel) ⟨by decide, by decide, by decide +kernel⟩ (by decide) rfl (ok_Jx4a65c_get_915e3 G)) (env_cons (ceV (by decide +kernel) ⟨by decide, by decide, by decide +kernel⟩ (by decide) rfl (ok_X1_givenTo G G D S hW)) (env_nil0 (env_hh rfl)))))) ?_
  simp only [↓wpN_S, ↓step_u, ↓stC_s, stC_s, ↓stF_u, stF_u, ↓stepI, lenI, ↓kN_u, isS, ↓gI_0, ↓gI_S, ↓gL_0, ↓gL_S, ↓gD_0, ↓gD_S, ↓gR_0, ↓gR_S, ↓sI_c, ↓sL_c, ↓sD_c, ↓sR_c, ↓s1_r, ↓s1_i, ↓vR_r, ↓vR_n, ↓s0_n, s0_n, ↓oR_u, ↓sP_u, ↓sPa_0, ↓sPa_S, ↓lkC_c, ↓callK_u, ↓cQ_s, ↓cQ_n, putL, putW, clr, kil, catS, catN, refF, booF, finF, nF, nmOf_0, nmOf_1, nmOf_2, nmOf_3, nmOf_4, nmOf_5, nmOf_6, nmOf_50, nmOf_51, nmOf_52, ↓reduceIte, reduceIte, Bool.false_eq_true, eq_self, true_or, or_true, true_and, and_true, false_or, or_false, Nat.reduceAdd, Nat.reduceSub, Nat.reduceEqDiff, Nat.reduceLT, Nat.reduceLeDiff, reduceCtorEq, true_implies, List.length_cons, List.length_nil, List.replicate, List.cons_append, List.nil_append, mrt_X4_freeIn, mhh_X4_freeIn, mow_X4_freeIn, mnl_X4_freeIn, DX4_freeIn_0, DX4_freeIn_1, DX4_freeIn_2, DX4_freeIn_5, DX4_freeIn_7, DX4_freeIn_8, DX4_freeIn_10, DX4_freeIn_12, DX4_freeIn_13, DX4_freeIn_16, DX4_freeIn_19, DX4_freeIn_22, DX4_freeIn_23, DX4_freeIn_26, DX4_freeIn_28, DX4_freeIn_31, DX4_freeIn_34, DX4_freeIn_36, DX4_freeIn_38, DX4_freeIn_41, DX4_freeIn_42, DX4_freeIn_45, DX4_freeIn_47, DX4_freeIn_50, DX4_freeIn_51, DX4_freeIn_54, DX4_freeIn_56, DX4_freeIn_57, DX4_freeIn_59, DX4_freeIn_62, DX4_freeIn_63, DX4_freeIn_65, DX4_freeIn_68, DX4_freeIn_71, DX4_freeIn_73, ce_X1_areaOf, ↓ct_X1_areaOf, ycl_X1_areaOf, ce_Jx4a65c_size_8abf5, ↓ct_Jx4a65c_size_8abf5, ycl_Jx4a65c_size_8abf5, ce_Jx4a65c_get_915e3, ↓ct_Jx4a65c_get_915e3, ycl_Jx4a65c_get_915e3, ce_X1_givenTo, ↓ct_X1_givenTo, ycl_X1_givenTo, cX_nil mhh_X4_freeIn]
  simp (disch := omega) only [i32_lit, i32_neg, i32_add, i32_mul, i32_sub, i32_nI, i32_lt, i32_le, i32_eq, inR_i, i32_clamp, i32_div, i32_max, i32_min, ite_max, ite_min, b2i_0, b2i_1, b2i_01, i32_toInt, tn_i, Int.toNat_natCast, em_t, true_and, and_true, Int.reduceToNat, Int.reduceLE, Int.reduceLT, Int.reduceAdd, Int.reduceMul, Int.reduceSub, Int.reduceNeg, Int.reduceEq, true_implies, not_true_eq_false, false_implies, not_false_eq_true, kC, rC0, rC1, rC2, rC3, rC4, kQ, rQ0, rQ1, kV, lV, kG, lG, kP, lP, kT, lT, LB1, LB2, LB3, LH1, LH2, LH3, LL1, LL2, LL3, dDy, dEv, true_and, and_true, Option.some.injEq, exists_eq_left', nmOf_0, nmOf_1, nmOf_2, nmOf_3, nmOf_4, nmOf_5, nmOf_6, Nat.add_sub_cancel, Nat.reduceSub, Nat.reduceLT, Nat.reduceEqDiff, ne_eq, not_false_eq_true, kH, rH5, rH6, rH7, rH8, rH12, kH4, lH4, kH5, lH5, kH6, lH6, kH7, lH7, eH0, eH1, eH2, eH3, qH, kqH, lqH, hD0]
  exact ⟨by omega, r, hr, rfl, hM, hz⟩
