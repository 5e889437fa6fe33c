/-! ===== ArrayList: its constructor, add; Arrays.fill ===== -/
theorem hl_no {G : GT} {y : MethodName} {M : MI} {d mc ms : Nat} : OKm G y M d mc ms (fun _ _ _ _ => False) := fun _ _ _ _ _ _ h => h.elim
def ct_J8_hugeLength_7cf53 : Ct := fun _ _ _ _ => False
def ce_J8_hugeLength_7cf53 : CE := (1, yJ8_hugeLength_7cf53, MJ8_hugeLength_7cf53, 2, 0, 0, 0, ct_J8_hugeLength_7cf53)
theorem ok_J8_hugeLength_7cf53 (G : GT) : OKm G yJ8_hugeLength_7cf53 MJ8_hugeLength_7cf53 0 0 0 ct_J8_hugeLength_7cf53 := hl_no
def ct_J8_newLength_cabcc : Ct := fun As h Q _ => sI As fun o r => sI r fun m r => sI r fun p r => s0 r ((0 ≤ o.toInt ∧ o.toInt ≤ 1000) ∧ (1 ≤ m.toInt ∧ m.toInt ≤ 1000) ∧ (0 ≤ p.toInt ∧ p.toInt ≤ 1000) ∧ Q (some (.int (i32 (o.toInt + max m.toInt p.toInt)))) h)
def ce_J8_newLength_cabcc : CE := (1, yJ8_newLength_cabcc, MJ8_newLength_cabcc, 3, 2, 0, 0, ct_J8_newLength_cabcc)
set_option maxRecDepth 100000 in
set_option maxHeartbeats 4000000 in
theorem ok_J8_newLength_cabcc (G : GT) : OKm G yJ8_newLength_cabcc MJ8_newLength_cabcc 2 0 0 ct_J8_newLength_cabcc := by
  refine mkOK (ini := false) (by decide) rfl (by first | exact fun _ => rfl | (intro hh; cases hh)) (fun As h Q QX hc => ?_)
  replace hc := sI_e hc; obtain ⟨o, r, rfl, hc⟩ := hc
  replace hc := sI_e hc; obtain ⟨m, r, rfl, hc⟩ := hc
  replace hc := sI_e hc; obtain ⟨p, r, rfl, hc⟩ := hc
  replace hc := s0_e hc; obtain ⟨rfl, hc⟩ := hc
  obtain ⟨oV, hoV, rfl⟩ := i32_all o
  obtain ⟨mV, hmV, rfl⟩ := i32_all m
  obtain ⟨pV, hpV, rfl⟩ := i32_all p
  simp only [i32_toInt hoV, i32_toInt hmV, i32_toInt hpV] at hc
  obtain ⟨h1, h2, h3, hq⟩ := hc
  refine ⟨Nat.le_of_ble_eq_true rfl, ?_⟩
  simp only [ent, entL, catN, List.length_cons, List.length_nil, List.replicate, List.cons_append, List.nil_append, reduceIte, Nat.reduceEqDiff,  Nat.reduceAdd, Nat.reduceSub, mnl_J8_newLength_cabcc]
  refine wpW (cs := [(194, ce_max), (201, ce_J8_hugeLength_7cf53)]) (stop := []) (n := 200) (env_cons (ce_maxOK (by decide +kernel)) (env_cons (ceS (by decide +kernel) ⟨by decide, by decide, by decide +kernel⟩ (by decide) (ok_J8_hugeLength_7cf53 G)) (env_nil0 (env_hh rfl)))) ?_
  simp only [↓wpN_S, ↓step_u, ↓stC_s, stC_s, ↓stF_u, stF_u, ↓stepI, lenI, ↓kN_u, isS, ↓gI_0, ↓gI_S, ↓gL_0, ↓gL_S, ↓gD_0, ↓gD_S, ↓gR_0, ↓gR_S, ↓sI_c, ↓sL_c, ↓sD_c, ↓sR_c, ↓s1_r, ↓s1_i, ↓vR_r, ↓vR_n, ↓s0_n, s0_n, ↓oR_u, ↓sP_u, ↓sPa_0, ↓sPa_S, ↓lkC_c, ↓callK_u, ↓cQ_s, ↓cQ_n, putL, putW, clr, kil, catS, catN, refF, booF, finF, nF, nmOf_0, nmOf_1, nmOf_2, nmOf_3, nmOf_4, nmOf_5, nmOf_6, nmOf_50, nmOf_51, nmOf_52, ↓reduceIte, reduceIte, Bool.false_eq_true, eq_self, true_or, or_true, true_and, and_true, false_or, or_false, Nat.reduceAdd, Nat.reduceSub, Nat.reduceEqDiff, Nat.reduceLT, Nat.reduceLeDiff, reduceCtorEq, true_implies, List.length_cons, List.length_nil, List.replicate, List.cons_append, List.nil_append, mrt_J8_newLength_cabcc, mhh_J8_newLength_cabcc, mow_J8_newLength_cabcc, mnl_J8_newLength_cabcc, DJ8_newLength_cabcc_0, DJ8_newLength_cabcc_1, DJ8_newLength_cabcc_2, DJ8_newLength_cabcc_3, DJ8_newLength_cabcc_6, DJ8_newLength_cabcc_7, DJ8_newLength_cabcc_8, DJ8_newLength_cabcc_9, DJ8_newLength_cabcc_10, DJ8_newLength_cabcc_13, DJ8_newLength_cabcc_14, DJ8_newLength_cabcc_16, DJ8_newLength_cabcc_19, DJ8_newLength_cabcc_20, DJ8_newLength_cabcc_21, DJ8_newLength_cabcc_22, DJ8_newLength_cabcc_23, DJ8_newLength_cabcc_26, ce_max, ce_J8_hugeLength_7cf53, ↓ct_J8_hugeLength_7cf53, ycl_J8_hugeLength_7cf53, cX_nil mhh_J8_newLength_cabcc]
  simp (disch := omega) only [i32_lit, i32_neg, i32_add, i32_mul, i32_sub, i32_nI, i32_lt, i32_le, i32_eq, inR_i, i32_clamp, i32_div, i32_max, i32_min, ite_max, ite_min, b2i_0, b2i_1, b2i_01, i32_toInt, tn_i, Int.toNat_natCast, em_t, true_and, and_true, Int.reduceToNat, Int.reduceLE, Int.reduceLT, Int.reduceAdd, Int.reduceMul, Int.reduceSub, Int.reduceNeg, Int.reduceEq, true_implies, not_true_eq_false, false_implies, not_false_eq_true]
  exact ⟨fun h1 => by omega, fun _ => ⟨fun h1 => by omega, fun _ => hq⟩⟩
theorem i32_shr {n : Nat} (h : n < 2147483648) : i32 n >>> (i32 1 &&& i32 31) = i32 ((n / 2 : Nat) : Int) := by
  have k := pk_shrN (n := n) (by omega) (i32 1 &&& i32 31) 1 (by decide)
  rw [Nat.pow_one, i32_nI, i32_nI] at k
  exact k
def ct_J7_copyOf_6403c (G : GT) : Ct := fun As h Q _ => sR As fun a r => sI r fun n r => sR r fun c r => s0 r (c = G.2.2.1.2.2 ∧ kd h a = 24 ∧ (1 ≤ n.toInt ∧ n.toInt ≤ 60) ∧ ln h a ≤ tn n ∧ (∃ k, (k = 2 ∨ k = 3 ∨ k = 4) ∧ ∀ i w, i < ln h a → ra h a i = some w → kd h w = k) ∧ ∀ q, kd h q = 0 → q ≠ G.2.2.1.2.1 → Q (some (.ref q)) (cpRA (newA h q 24 (tn n)) a q 0 0 (ln h a)))
def ce_J7_copyOf_6403c (G : GT) : CE := (1, yJ7_copyOf_6403c, MJ7_copyOf_6403c, 3, 2, 1, 60, ct_J7_copyOf_6403c G)
set_option maxRecDepth 100000 in
set_option maxHeartbeats 4000000 in
theorem ok_J7_copyOf_6403c (G : GT) (G : GT) : OKm G yJ7_copyOf_6403c MJ7_copyOf_6403c 2 1 60 (ct_J7_copyOf_6403c G) := by
  refine mkOK (ini := false) (by decide) rfl (by first | exact fun _ => rfl | (intro hh; cases hh)) (fun As h Q QX hc => ?_)
  replace hc := sR_e hc; obtain ⟨a, r, rfl, hc⟩ := hc
  replace hc := sI_e hc; obtain ⟨n, r, rfl, hc⟩ := hc
  replace hc := sR_e hc; obtain ⟨c, r, rfl, hc⟩ := hc
  replace hc := s0_e hc; obtain ⟨rfl, hc⟩ := hc
  obtain ⟨nV, hnV, rfl⟩ := i32_all n
  simp only [i32_toInt hnV, tn_i hnV] at hc
  obtain ⟨rfl, hk, hn, hl, hE, hq⟩ := hc
  refine ⟨Nat.le_of_ble_eq_true rfl, ?_⟩
  simp only [ent, entL, catN, List.length_cons, List.length_nil, List.replicate, List.cons_append, List.nil_append, reduceIte, Nat.reduceEqDiff,  Nat.reduceAdd, Nat.reduceSub, mnl_J7_copyOf_6403c]
  refine wpW (cs := [(304, ce_min), (150, ce_cp)]) (stop := [10]) (n := 200) (env_cons (ce_minOK (by decide +kernel)) (env_cons (ce_cpOK (by decide +kernel)) (env_nil0 (env_hh rfl)))) ?_
  simp only [↓wpN_S, ↓step_u, ↓stC_s, stC_s, ↓stF_u, stF_u, ↓stepI, lenI, ↓kN_u, isS, ↓gI_0, ↓gI_S, ↓gL_0, ↓gL_S, ↓gD_0, ↓gD_S, ↓gR_0, ↓gR_S, ↓sI_c, ↓sL_c, ↓sD_c, ↓sR_c, ↓s1_r, ↓s1_i, ↓vR_r, ↓vR_n, ↓s0_n, s0_n, ↓oR_u, ↓sP_u, ↓sPa_0, ↓sPa_S, ↓lkC_c, ↓callK_u, ↓cQ_s, ↓cQ_n, putL, putW, clr, kil, catS, catN, refF, booF, finF, nF, nmOf_0, nmOf_1, nmOf_2, nmOf_3, nmOf_4, nmOf_5, nmOf_6, nmOf_50, nmOf_51, nmOf_52, ↓reduceIte, reduceIte, Bool.false_eq_true, eq_self, true_or, or_true, true_and, and_true, false_or, or_false, Nat.reduceAdd, Nat.reduceSub, Nat.reduceEqDiff, Nat.reduceLT, Nat.reduceLeDiff, reduceCtorEq, true_implies, List.length_cons, List.length_nil, List.replicate, List.cons_append, List.nil_append, mrt_J7_copyOf_6403c, mhh_J7_copyOf_6403c, mow_J7_copyOf_6403c, mnl_J7_copyOf_6403c, DJ7_copyOf_6403c_0, DJ7_copyOf_6403c_1, DJ7_copyOf_6403c_3, DJ7_copyOf_6403c_6, DJ7_copyOf_6403c_7, DJ7_copyOf_6403c_10, DJ7_copyOf_6403c_13, DJ7_copyOf_6403c_14, DJ7_copyOf_6403c_17, DJ7_copyOf_6403c_18, DJ7_copyOf_6403c_21, DJ7_copyOf_6403c_24, DJ7_copyOf_6403c_25, DJ7_copyOf_6403c_26, DJ7_copyOf_6403c_27, DJ7_copyOf_6403c_28, DJ7_copyOf_6403c_29, DJ7_copyOf_6403c_30, DJ7_copyOf_6403c_31, DJ7_copyOf_6403c_32, DJ7_copyOf_6403c_35, DJ7_copyOf_6403c_38, DJ7_copyOf_6403c_39, ce_min, ce_cp, cX_nil mhh_J7_copyOf_6403c]
  trace_state
  sorry
def ct_J7_copyOf_1904c (G : GT) : Ct := fun As h Q _ => sR As fun a r => sI r fun n r => s0 r (kd h a = 24 ∧ (1 ≤ n.toInt ∧ n.toInt ≤ 60) ∧ ln h a ≤ tn n ∧ (∃ k, (k = 2 ∨ k = 3 ∨ k = 4) ∧ ∀ i w, i < ln h a → ra h a i = some w → kd h w = k) ∧ ∀ q, kd h q = 0 → q ≠ G.2.2.1.2.1 → Q (some (.ref q)) (cpRA (newA h q 24 (tn n)) a q 0 0 (ln h a)))
def ce_J7_copyOf_1904c (G : GT) : CE := (1, yJ7_copyOf_1904c, MJ7_copyOf_1904c, 2, 3, 1, 60, ct_J7_copyOf_1904c G)
set_option maxRecDepth 100000 in
set_option maxHeartbeats 4000000 in
theorem ok_J7_copyOf_1904c (G : GT) (G : GT) : OKm G yJ7_copyOf_1904c MJ7_copyOf_1904c 3 1 60 (ct_J7_copyOf_1904c G) := by
  refine mkOK (ini := false) (by decide) rfl (by first | exact fun _ => rfl | (intro hh; cases hh)) (fun As h Q QX hc => ?_)
  replace hc := sR_e hc; obtain ⟨a, r, rfl, hc⟩ := hc
  replace hc := sI_e hc; obtain ⟨n, r, rfl, hc⟩ := hc
  replace hc := s0_e hc; obtain ⟨rfl, hc⟩ := hc
  obtain ⟨hk, hn, hl, hE, hq⟩ := hc
  refine ⟨Nat.le_of_ble_eq_true rfl, ?_⟩
  simp only [ent, entL, catN, List.length_cons, List.length_nil, List.replicate, List.cons_append, List.nil_append, reduceIte, Nat.reduceEqDiff,  Nat.reduceAdd, Nat.reduceSub, mnl_J7_copyOf_1904c]
  refine wpW (cs := [(86, ce_gc), (300, ce_J7_copyOf_6403c G)]) (stop := []) (n := 200) (env_cons (ce_gcOK (by decide +kernel)) (env_cons (ceS (by decide +kernel) ⟨by decide, by decide, by decide +kernel⟩ (by decide) (ok_J7_copyOf_6403c G G)) (env_nil0 (env_hh rfl)))) ?_
  simp only [↓wpN_S, ↓step_u, ↓stC_s, stC_s, ↓stF_u, stF_u, ↓stepI, lenI, ↓kN_u, isS, ↓gI_0, ↓gI_S, ↓gL_0, ↓gL_S, ↓gD_0, ↓gD_S, ↓gR_0, ↓gR_S, ↓sI_c, ↓sL_c, ↓sD_c, ↓sR_c, ↓s1_r, ↓s1_i, ↓vR_r, ↓vR_n, ↓s0_n, s0_n, ↓oR_u, ↓sP_u, ↓sPa_0, ↓sPa_S, ↓lkC_c, ↓callK_u, ↓cQ_s, ↓cQ_n, putL, putW, clr, kil, catS, catN, refF, booF, finF, nF, nmOf_0, nmOf_1, nmOf_2, nmOf_3, nmOf_4, nmOf_5, nmOf_6, nmOf_50, nmOf_51, nmOf_52, ↓reduceIte, reduceIte, Bool.false_eq_true, eq_self, true_or, or_true, true_and, and_true, false_or, or_false, Nat.reduceAdd, Nat.reduceSub, Nat.reduceEqDiff, Nat.reduceLT, Nat.reduceLeDiff, reduceCtorEq, true_implies, List.length_cons, List.length_nil, List.replicate, List.cons_append, List.nil_append, mrt_J7_copyOf_1904c, mhh_J7_copyOf_1904c, mow_J7_copyOf_1904c, mnl_J7_copyOf_1904c, DJ7_copyOf_1904c_0, DJ7_copyOf_1904c_1, DJ7_copyOf_1904c_2, DJ7_copyOf_1904c_3, DJ7_copyOf_1904c_6, DJ7_copyOf_1904c_9, ce_gc, ce_J7_copyOf_6403c, ↓ct_J7_copyOf_6403c, ycl_J7_copyOf_6403c, cX_nil mhh_J7_copyOf_1904c]
  simp only [hk, true_and, ne_eq, not_false_eq_true]
  exact ⟨hn, hl, hE, hq⟩
def Lst (G : GT) (h : Hp) (a q cap n : Nat) (f : Nat → Nat) : Prop := kd h a = 1 ∧ fi h 0 2 a = i32 n ∧ fr h 0 1 a = some q ∧ n ≤ cap ∧ (cap = 0 → q = G.2.2.1.2.1 ∧ kd h q = 0) ∧ (0 < cap → kd h q = 24 ∧ ln h q = cap) ∧ ∀ i, i < n → ra h q i = some (f i)
def El (h : Hp) (f : Nat → Nat) (n k : Nat) : Prop := (k = 2 ∨ k = 3 ∨ k = 4) ∧ ∀ i, i < n → kd h (f i) = k
def ct_Jx4a65c_grow_92f84 (G : GT) : Ct := fun As h Q _ => sR As fun a r => sI r fun m r => s0 r (∃ q n f k, Lst G h a q n n f ∧ El h f n k ∧ n ≤ 40 ∧ m = i32 (n + 1) ∧ ∀ h' q' cap', Fr h h' (fun b => b = a) → kd h q' = 0 → Lst G h' a q' cap' n f → n < cap' → Q (some (.ref q')) h')
def ce_Jx4a65c_grow_92f84 (G : GT) : CE := (0, yJx4a65c_grow_92f84, MJx4a65c_grow_92f84, 1, 4, 1, 60, ct_Jx4a65c_grow_92f84 G)
set_option maxRecDepth 100000 in
set_option maxHeartbeats 4000000 in
theorem ok_Jx4a65c_grow_92f84 (G : GT) (G : GT) : OKm G yJx4a65c_grow_92f84 MJx4a65c_grow_92f84 4 1 60 (ct_Jx4a65c_grow_92f84 G) := by
  refine mkOK (ini := false) (by decide) rfl (by first | exact fun _ => rfl | (intro hh; cases hh)) (fun As h Q QX hc => ?_)
  replace hc := sR_e hc; obtain ⟨a, r, rfl, hc⟩ := hc
  replace hc := sI_e hc; obtain ⟨m, r, rfl, hc⟩ := hc
  replace hc := s0_e hc; obtain ⟨rfl, hc⟩ := hc
  obtain ⟨q, n, f, k, ⟨l1, l2, l3, l4, l5, l6, l7⟩, hE, hn, rfl, hq⟩ := hc
  rcases Nat.eq_zero_or_pos n with e | e
  · subst e
    obtain ⟨e1, e2⟩ := l5 rfl
    refine ⟨Nat.le_of_ble_eq_true rfl, ?_⟩
    simp only [ent, entL, catN, List.length_cons, List.length_nil, List.replicate, List.cons_append, List.nil_append, reduceIte, Nat.reduceEqDiff,  Nat.reduceAdd, Nat.reduceSub, mnl_Jx4a65c_grow_92f84]
    refine wpW (cs := [(73, ce_J8_newLength_cabcc), (66, ce_J7_copyOf_1904c G), (79, ce_max)]) (stop := []) (n := 200) (env_cons (ceS (by decide +kernel) ⟨by decide, by decide, by decide +kernel⟩ (by decide) (ok_J8_newLength_cabcc G)) (env_cons (ceS (by decide +kernel) ⟨by decide, by decide, by decide +kernel⟩ (by decide) (ok_J7_copyOf_1904c G G)) (env_cons (ce_maxOK (by decide +kernel)) (env_nil0 (env_hh rfl))))) ?_
    simp only [↓wpN_S, ↓step_u, ↓stC_s, stC_s, ↓stF_u, stF_u, ↓stepI, lenI, ↓kN_u, isS, ↓gI_0, ↓gI_S, ↓gL_0, ↓gL_S, ↓gD_0, ↓gD_S, ↓gR_0, ↓gR_S, ↓sI_c, ↓sL_c, ↓sD_c, ↓sR_c, ↓s1_r, ↓s1_i, ↓vR_r, ↓vR_n, ↓s0_n, s0_n, ↓oR_u, ↓sP_u, ↓sPa_0, ↓sPa_S, ↓lkC_c, ↓callK_u, ↓cQ_s, ↓cQ_n, putL, putW, clr, kil, catS, catN, refF, booF, finF, nF, nmOf_0, nmOf_1, nmOf_2, nmOf_3, nmOf_4, nmOf_5, nmOf_6, nmOf_50, nmOf_51, nmOf_52, ↓reduceIte, reduceIte, Bool.false_eq_true, eq_self, true_or, or_true, true_and, and_true, false_or, or_false, Nat.reduceAdd, Nat.reduceSub, Nat.reduceEqDiff, Nat.reduceLT, Nat.reduceLeDiff, reduceCtorEq, true_implies, List.length_cons, List.length_nil, List.replicate, List.cons_append, List.nil_append, mrt_Jx4a65c_grow_92f84, mhh_Jx4a65c_grow_92f84, mow_Jx4a65c_grow_92f84, mnl_Jx4a65c_grow_92f84, DJx4a65c_grow_92f84_0, DJx4a65c_grow_92f84_1, DJx4a65c_grow_92f84_4, DJx4a65c_grow_92f84_5, DJx4a65c_grow_92f84_6, DJx4a65c_grow_92f84_7, DJx4a65c_grow_92f84_10, DJx4a65c_grow_92f84_11, DJx4a65c_grow_92f84_14, DJx4a65c_grow_92f84_17, DJx4a65c_grow_92f84_20, DJx4a65c_grow_92f84_21, DJx4a65c_grow_92f84_22, DJx4a65c_grow_92f84_23, DJx4a65c_grow_92f84_24, DJx4a65c_grow_92f84_25, DJx4a65c_grow_92f84_26, DJx4a65c_grow_92f84_27, DJx4a65c_grow_92f84_30, DJx4a65c_grow_92f84_31, DJx4a65c_grow_92f84_32, DJx4a65c_grow_92f84_33, DJx4a65c_grow_92f84_36, DJx4a65c_grow_92f84_37, DJx4a65c_grow_92f84_40, DJx4a65c_grow_92f84_41, DJx4a65c_grow_92f84_44, DJx4a65c_grow_92f84_45, DJx4a65c_grow_92f84_46, DJx4a65c_grow_92f84_48, DJx4a65c_grow_92f84_49, DJx4a65c_grow_92f84_52, DJx4a65c_grow_92f84_55, DJx4a65c_grow_92f84_56, DJx4a65c_grow_92f84_59, ce_J8_newLength_cabcc, ↓ct_J8_newLength_cabcc, ycl_J8_newLength_cabcc, ce_J7_copyOf_1904c, ↓ct_J7_copyOf_1904c, ycl_J7_copyOf_1904c, ce_max, cX_nil mhh_Jx4a65c_grow_92f84]
    rw [e1] at e2 l3
    simp (disch := omega) only [i32_lit, i32_neg, i32_add, i32_mul, i32_sub, i32_nI, i32_lt, i32_le, i32_eq, inR_i, i32_clamp, i32_div, i32_max, i32_min, ite_max, ite_min, b2i_0, b2i_1, b2i_01, i32_toInt, tn_i, Int.toNat_natCast, em_t, true_and, and_true, Int.reduceToNat, Int.reduceLE, Int.reduceLT, Int.reduceAdd, Int.reduceMul, Int.reduceSub, Int.reduceNeg, Int.reduceEq, true_implies, not_true_eq_false, false_implies, not_false_eq_true, l1, l2, l3, e2, kd_setI, fi_setI, fr_setI, ln_setI, ia_setI, ja_setI, ra_setI, kd_setR, fi_setR, fr_setR, ln_setR, ia_setR, ja_setR, ra_setR, kd_setIA, fi_setIA, fr_setIA, ln_setIA, ia_setIA, ja_setIA, ra_setIA, kd_setLA, fi_setLA, fr_setLA, ln_setLA, ia_setLA, ja_setLA, ra_setLA, kd_setRA, fi_setRA, fr_setRA, ln_setRA, ia_setRA, ja_setRA, ra_setRA, kd_cpRA, fi_cpRA, fr_cpRA, ln_cpRA, ia_cpRA, ja_cpRA, ra_cpRA, kd_cpIA, fi_cpIA, fr_cpIA, ln_cpIA, ia_cpIA, ja_cpIA, ra_cpIA, kd_newO, fi_newO, fr_newO, ln_newO, ia_newO, ja_newO, ra_newO, kd_newA, fi_newA, fr_newA, ln_newA, ia_newA, ja_newA, ra_newA, Option.some.injEq, exists_eq_left']
    trace_state
    sorry
  · obtain ⟨e1, e2⟩ := l6 e
    have e3 := i32_shr (n := n) (by omega)
    refine ⟨Nat.le_of_ble_eq_true rfl, ?_⟩
    simp only [ent, entL, catN, List.length_cons, List.length_nil, List.replicate, List.cons_append, List.nil_append, reduceIte, Nat.reduceEqDiff,  Nat.reduceAdd, Nat.reduceSub, mnl_Jx4a65c_grow_92f84]
    refine wpW (cs := [(73, ce_J8_newLength_cabcc), (66, ce_J7_copyOf_1904c G), (79, ce_max)]) (stop := []) (n := 200) (env_cons (ceS (by decide +kernel) ⟨by decide, by decide, by decide +kernel⟩ (by decide) (ok_J8_newLength_cabcc G)) (env_cons (ceS (by decide +kernel) ⟨by decide, by decide, by decide +kernel⟩ (by decide) (ok_J7_copyOf_1904c G G)) (env_cons (ce_maxOK (by decide +kernel)) (env_nil0 (env_hh rfl))))) ?_
    simp only [↓wpN_S, ↓step_u, ↓stC_s, stC_s, ↓stF_u, stF_u, ↓stepI, lenI, ↓kN_u, isS, ↓gI_0, ↓gI_S, ↓gL_0, ↓gL_S, ↓gD_0, ↓gD_S, ↓gR_0, ↓gR_S, ↓sI_c, ↓sL_c, ↓sD_c, ↓sR_c, ↓s1_r, ↓s1_i, ↓vR_r, ↓vR_n, ↓s0_n, s0_n, ↓oR_u, ↓sP_u, ↓sPa_0, ↓sPa_S, ↓lkC_c, ↓callK_u, ↓cQ_s, ↓cQ_n, putL, putW, clr, kil, catS, catN, refF, booF, finF, nF, nmOf_0, nmOf_1, nmOf_2, nmOf_3, nmOf_4, nmOf_5, nmOf_6, nmOf_50, nmOf_51, nmOf_52, ↓reduceIte, reduceIte, Bool.false_eq_true, eq_self, true_or, or_true, true_and, and_true, false_or, or_false, Nat.reduceAdd, Nat.reduceSub, Nat.reduceEqDiff, Nat.reduceLT, Nat.reduceLeDiff, reduceCtorEq, true_implies, List.length_cons, List.length_nil, List.replicate, List.cons_append, List.nil_append, mrt_Jx4a65c_grow_92f84, mhh_Jx4a65c_grow_92f84, mow_Jx4a65c_grow_92f84, mnl_Jx4a65c_grow_92f84, DJx4a65c_grow_92f84_0, DJx4a65c_grow_92f84_1, DJx4a65c_grow_92f84_4, DJx4a65c_grow_92f84_5, DJx4a65c_grow_92f84_6, DJx4a65c_grow_92f84_7, DJx4a65c_grow_92f84_10, DJx4a65c_grow_92f84_11, DJx4a65c_grow_92f84_14, DJx4a65c_grow_92f84_17, DJx4a65c_grow_92f84_20, DJx4a65c_grow_92f84_21, DJx4a65c_grow_92f84_22, DJx4a65c_grow_92f84_23, DJx4a65c_grow_92f84_24, DJx4a65c_grow_92f84_25, DJx4a65c_grow_92f84_26, DJx4a65c_grow_92f84_27, DJx4a65c_grow_92f84_30, DJx4a65c_grow_92f84_31, DJx4a65c_grow_92f84_32, DJx4a65c_grow_92f84_33, DJx4a65c_grow_92f84_36, DJx4a65c_grow_92f84_37, DJx4a65c_grow_92f84_40, DJx4a65c_grow_92f84_41, DJx4a65c_grow_92f84_44, DJx4a65c_grow_92f84_45, DJx4a65c_grow_92f84_46, DJx4a65c_grow_92f84_48, DJx4a65c_grow_92f84_49, DJx4a65c_grow_92f84_52, DJx4a65c_grow_92f84_55, DJx4a65c_grow_92f84_56, DJx4a65c_grow_92f84_59, ce_J8_newLength_cabcc, ↓ct_J8_newLength_cabcc, ycl_J8_newLength_cabcc, ce_J7_copyOf_1904c, ↓ct_J7_copyOf_1904c, ycl_J7_copyOf_1904c, ce_max, cX_nil mhh_Jx4a65c_grow_92f84]
    simp (disch := omega) only [i32_lit, i32_neg, i32_add, i32_mul, i32_sub, i32_nI, i32_lt, i32_le, i32_eq, inR_i, i32_clamp, i32_div, i32_max, i32_min, ite_max, ite_min, b2i_0, b2i_1, b2i_01, i32_toInt, tn_i, Int.toNat_natCast, em_t, true_and, and_true, Int.reduceToNat, Int.reduceLE, Int.reduceLT, Int.reduceAdd, Int.reduceMul, Int.reduceSub, Int.reduceNeg, Int.reduceEq, true_implies, not_true_eq_false, false_implies, not_false_eq_true, l1, l2, l3, e1, e2, e3, kd_setI, fi_setI, fr_setI, ln_setI, ia_setI, ja_setI, ra_setI, kd_setR, fi_setR, fr_setR, ln_setR, ia_setR, ja_setR, ra_setR, kd_setIA, fi_setIA, fr_setIA, ln_setIA, ia_setIA, ja_setIA, ra_setIA, kd_setLA, fi_setLA, fr_setLA, ln_setLA, ia_setLA, ja_setLA, ra_setLA, kd_setRA, fi_setRA, fr_setRA, ln_setRA, ia_setRA, ja_setRA, ra_setRA, kd_cpRA, fi_cpRA, fr_cpRA, ln_cpRA, ia_cpRA, ja_cpRA, ra_cpRA, kd_cpIA, fi_cpIA, fr_cpIA, ln_cpIA, ia_cpIA, ja_cpIA, ra_cpIA, kd_newO, fi_newO, fr_newO, ln_newO, ia_newO, ja_newO, ra_newO, kd_newA, fi_newA, fr_newA, ln_newA, ia_newA, ja_newA, ra_newA, Option.some.injEq, exists_eq_left']
    trace_state
    sorry
def ct_Jx4a65c_grow_d5877 (G : GT) : Ct := fun As h Q _ => sR As fun a r => s0 r (∃ q n f k, Lst G h a q n n f ∧ El h f n k ∧ n ≤ 40 ∧ ∀ h' q' cap', Fr h h' (fun b => b = a) → kd h q' = 0 → Lst G h' a q' cap' n f → n < cap' → Q (some (.ref q')) h')
def ce_Jx4a65c_grow_d5877 (G : GT) : CE := (0, yJx4a65c_grow_d5877, MJx4a65c_grow_d5877, 0, 5, 1, 60, ct_Jx4a65c_grow_d5877 G)
set_option maxRecDepth 100000 in
set_option maxHeartbeats 4000000 in
theorem ok_Jx4a65c_grow_d5877 (G : GT) (G : GT) : OKm G yJx4a65c_grow_d5877 MJx4a65c_grow_d5877 5 1 60 (ct_Jx4a65c_grow_d5877 G) := by
  refine mkOK (ini := false) (by decide) rfl (by first | exact fun _ => rfl | (intro hh; cases hh)) (fun As h Q QX hc => ?_)
  replace hc := sR_e hc; obtain ⟨a, r, rfl, hc⟩ := hc
  replace hc := s0_e hc; obtain ⟨rfl, hc⟩ := hc
  obtain ⟨q, n, f, k, hL, hE, hn, hq⟩ := hc
  refine ⟨Nat.le_of_ble_eq_true rfl, ?_⟩
  simp only [ent, entL, catN, List.length_cons, List.length_nil, List.replicate, List.cons_append, List.nil_append, reduceIte, Nat.reduceEqDiff,  Nat.reduceAdd, Nat.reduceSub, mnl_Jx4a65c_grow_d5877]
  refine wpW (cs := [(69, ce_Jx4a65c_grow_92f84 G)]) (stop := []) (n := 200) (env_cons (ceV (by decide +kernel) ⟨by decide, by decide, by decide +kernel⟩ (by decide) rfl (ok_Jx4a65c_grow_92f84 G G)) (env_nil0 (env_hh rfl))) ?_
  simp only [↓wpN_S, ↓step_u, ↓stC_s, stC_s, ↓stF_u, stF_u, ↓stepI, lenI, ↓kN_u, isS, ↓gI_0, ↓gI_S, ↓gL_0, ↓gL_S, ↓gD_0, ↓gD_S, ↓gR_0, ↓gR_S, ↓sI_c, ↓sL_c, ↓sD_c, ↓sR_c, ↓s1_r, ↓s1_i, ↓vR_r, ↓vR_n, ↓s0_n, s0_n, ↓oR_u, ↓sP_u, ↓sPa_0, ↓sPa_S, ↓lkC_c, ↓callK_u, ↓cQ_s, ↓cQ_n, putL, putW, clr, kil, catS, catN, refF, booF, finF, nF, nmOf_0, nmOf_1, nmOf_2, nmOf_3, nmOf_4, nmOf_5, nmOf_6, nmOf_50, nmOf_51, nmOf_52, ↓reduceIte, reduceIte, Bool.false_eq_true, eq_self, true_or, or_true, true_and, and_true, false_or, or_false, Nat.reduceAdd, Nat.reduceSub, Nat.reduceEqDiff, Nat.reduceLT, Nat.reduceLeDiff, reduceCtorEq, true_implies, List.length_cons, List.length_nil, List.replicate, List.cons_append, List.nil_append, mrt_Jx4a65c_grow_d5877, mhh_Jx4a65c_grow_d5877, mow_Jx4a65c_grow_d5877, mnl_Jx4a65c_grow_d5877, DJx4a65c_grow_d5877_0, DJx4a65c_grow_d5877_1, DJx4a65c_grow_d5877_2, DJx4a65c_grow_d5877_5, DJx4a65c_grow_d5877_6, DJx4a65c_grow_d5877_7, DJx4a65c_grow_d5877_10, ce_Jx4a65c_grow_92f84, ↓ct_Jx4a65c_grow_92f84, ycl_Jx4a65c_grow_92f84, cX_nil mhh_Jx4a65c_grow_d5877]
  have hk := hL.1
  have hs := hL.2.1
  simp (disch := omega) only [i32_lit, i32_neg, i32_add, i32_mul, i32_sub, i32_nI, i32_lt, i32_le, i32_eq, inR_i, i32_clamp, i32_div, i32_max, i32_min, ite_max, ite_min, b2i_0, b2i_1, b2i_01, i32_toInt, tn_i, Int.toNat_natCast, em_t, true_and, and_true, Int.reduceToNat, Int.reduceLE, Int.reduceLT, Int.reduceAdd, Int.reduceMul, Int.reduceSub, Int.reduceNeg, Int.reduceEq, true_implies, not_true_eq_false, false_implies, not_false_eq_true, hk, hs]
  exact ⟨by omega, by omega, rfl, q, n, f, k, hL, hE, hn, rfl, hq⟩
