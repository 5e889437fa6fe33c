/-! ===== ArrayList: its constructor, add; Arrays.fill ===== -/
theorem hl_no {G : GT} {y : MethodName} {M : MI} {d mc ms : Nat} : OKm G y M d mc ms (fun _ _ _ _ => False) := fun _ _ _ _ _ _ h => h.elim
def ct_J8_hugeLength_7cf53 : Ct := fun _ _ _ _ => False
def ce_J8_hugeLength_7cf53 : CE := (1, yJ8_hugeLength_7cf53, MJ8_hugeLength_7cf53, 2, 0, 0, 0, ct_J8_hugeLength_7cf53)
theorem ok_J8_hugeLength_7cf53 (G : GT) : OKm G yJ8_hugeLength_7cf53 MJ8_hugeLength_7cf53 0 0 0 ct_J8_hugeLength_7cf53 := hl_no
def ct_J8_newLength_cabcc : Ct := fun As h Q _ => sI As fun o r => sI r fun m r => sI r fun p r => s0 r ((0 ≤ o.toInt ∧ o.toInt ≤ 1000) ∧ (1 ≤ m.toInt ∧ m.toInt ≤ 1000) ∧ (0 ≤ p.toInt ∧ p.toInt ≤ 1000) ∧ Q (some (.int (i32 (o.toInt + max m.toInt p.toInt)))) h)
def ce_J8_newLength_cabcc : CE := (1, yJ8_newLength_cabcc, MJ8_newLength_cabcc, 3, 2, 0, 0, ct_J8_newLength_cabcc)
set_option maxRecDepth 100000 in
set_option maxHeartbeats 4000000 in
theorem ok_J8_newLength_cabcc (G : GT) : OKm G yJ8_newLength_cabcc MJ8_newLength_cabcc 2 0 0 ct_J8_newLength_cabcc := by
  refine mkOK (ini := false) (by decide) rfl (by first | exact fun _ => rfl | (intro hh; cases hh)) (fun As h Q QX hc => ?_)
  replace hc := sI_e hc; obtain ⟨o, r, rfl, hc⟩ := hc
  replace hc := sI_e hc; obtain ⟨m, r, rfl, hc⟩ := hc
  replace hc := sI_e hc; obtain ⟨p, r, rfl, hc⟩ := hc
  replace hc := s0_e hc; obtain ⟨rfl, hc⟩ := hc
  obtain ⟨oV, hoV, rfl⟩ := i32_all o
  obtain ⟨mV, hmV, rfl⟩ := i32_all m
  obtain ⟨pV, hpV, rfl⟩ := i32_all p
  simp only [i32_toInt hoV, i32_toInt hmV, i32_toInt hpV] at hc
  obtain ⟨h1, h2, h3, hq⟩ := hc
  refine ⟨Nat.le_of_ble_eq_true rfl, ?_⟩
  simp only [ent, entL, catN, List.length_cons, List.length_nil, List.replicate, List.cons_append, List.nil_append, reduceIte, Nat.reduceEqDiff,  Nat.reduceAdd, Nat.reduceSub, mnl_J8_newLength_cabcc]
  refine wpW (cs := [(194, ce_max), (201, ce_J8_hugeLength_7cf53)]) (stop := []) (n := 200) (env_cons (ce_maxOK (by decide +kernel)) (env_cons (ceS (by decide +kernel) ⟨by decide, by decide, by decide +kernel⟩ (by decide) (ok_J8_hugeLength_7cf53 G)) (env_nil0 (env_hh rfl)))) ?_
  simp only [↓wpN_S, ↓step_u, ↓stC_s, stC_s, ↓stF_u, stF_u, ↓stepI, lenI, ↓kN_u, isS, ↓gI_0, ↓gI_S, ↓gL_0, ↓gL_S, ↓gD_0, ↓gD_S, ↓gR_0, ↓gR_S, ↓sI_c, ↓sL_c, ↓sD_c, ↓sR_c, ↓s1_r, ↓s1_i, ↓vR_r, ↓vR_n, ↓s0_n, s0_n, ↓oR_u, ↓sP_u, ↓sPa_0, ↓sPa_S, ↓lkC_c, ↓callK_u, ↓cQ_s, ↓cQ_n, putL, putW, clr, kil, catS, catN, refF, booF, finF, nF, nmOf_0, nmOf_1, nmOf_2, nmOf_3, nmOf_4, nmOf_5, nmOf_6, nmOf_50, nmOf_51, nmOf_52, ↓reduceIte, reduceIte, Bool.false_eq_true, eq_self, true_or, or_true, true_and, and_true, false_or, or_false, Nat.reduceAdd, Nat.reduceSub, Nat.reduceEqDiff, Nat.reduceLT, Nat.reduceLeDiff, reduceCtorEq, true_implies, List.length_cons, List.length_nil, List.replicate, List.cons_append, List.nil_append, mrt_J8_newLength_cabcc, mhh_J8_newLength_cabcc, mow_J8_newLength_cabcc, mnl_J8_newLength_cabcc, DJ8_newLength_cabcc_0, DJ8_newLength_cabcc_1, DJ8_newLength_cabcc_2, DJ8_newLength_cabcc_3, DJ8_newLength_cabcc_6, DJ8_newLength_cabcc_7, DJ8_newLength_cabcc_8, DJ8_newLength_cabcc_9, DJ8_newLength_cabcc_10, DJ8_newLength_cabcc_13, DJ8_newLength_cabcc_14, DJ8_newLength_cabcc_16, DJ8_newLength_cabcc_19, DJ8_newLength_cabcc_20, DJ8_newLength_cabcc_21, DJ8_newLength_cabcc_22, DJ8_newLength_cabcc_23, DJ8_newLength_cabcc_26, ce_max, ce_J8_hugeLength_7cf53, ↓ct_J8_hugeLength_7cf53, ycl_J8_hugeLength_7cf53, cX_nil mhh_J8_newLength_cabcc]
  simp (disch := omega) only [i32_lit, i32_neg, i32_add, i32_mul, i32_sub, i32_nI, i32_lt, i32_le, i32_eq, inR_i, i32_clamp, i32_div, i32_max, i32_min, ite_max, ite_min, b2i_0, b2i_1, b2i_01, i32_toInt, tn_i, Int.toNat_natCast, em_t, true_and, and_true, Int.reduceToNat, Int.reduceLE, Int.reduceLT, Int.reduceAdd, Int.reduceMul, Int.reduceSub, Int.reduceNeg, Int.reduceEq, true_implies, not_true_eq_false, false_implies, not_false_eq_true]
  exact ⟨fun h1 => by omega, fun _ => ⟨fun h1 => by omega, fun _ => hq⟩⟩
theorem i32_shr {n : Nat} (h : n < 2147483648) : i32 n >>> (i32 1 &&& i32 31) = i32 ((n / 2 : Nat) : Int) := by
  have k := pk_shrN (n := n) (by omega) (i32 1 &&& i32 31) 1 (by decide)
  rw [Nat.pow_one, i32_nI, i32_nI] at k
  exact k
def ct_J7_copyOf_6403c (G : GT) : Ct := fun As h Q _ => sR As fun a r => sI r fun n r => sR r fun c r => s0 r (c = G.2.2.1.2.2 ∧ kd h a = 24 ∧ (1 ≤ n.toInt ∧ n.toInt ≤ 60) ∧ ln h a ≤ tn n ∧ (∃ k, (k = 2 ∨ k = 3 ∨ k = 4) ∧ ∀ i w, i < ln h a → ra h a i = some w → kd h w = k) ∧ ∀ q, kd h q = 0 → q ≠ G.2.2.1.2.1 → Q (some (.ref q)) (cpRA (newA h q 24 (tn n)) a q 0 0 (ln h a)))
def ce_J7_copyOf_6403c (G : GT) : CE := (1, yJ7_copyOf_6403c, MJ7_copyOf_6403c, 3, 2, 1, 60, ct_J7_copyOf_6403c G)
set_option maxRecDepth 100000 in
set_option maxHeartbeats 4000000 in
theorem ok_J7_copyOf_6403c (G : GT) (G : GT) : OKm G yJ7_copyOf_6403c MJ7_copyOf_6403c 2 1 60 (ct_J7_copyOf_6403c G) := by
  refine mkOK (ini := false) (by decide) rfl (by first | exact fun _ => rfl | (intro hh; cases hh)) (fun As h Q QX hc => ?_)
  replace hc := sR_e hc; obtain ⟨a, r, rfl, hc⟩ := hc
  replace hc := sI_e hc; obtain ⟨n, r, rfl, hc⟩ := hc
  replace hc := sR_e hc; obtain ⟨c, r, rfl, hc⟩ := hc
  replace hc := s0_e hc; obtain ⟨rfl, hc⟩ := hc
  obtain ⟨nV, hnV, rfl⟩ := i32_all n
  simp only [i32_toInt hnV, tn_i hnV] at hc
  obtain ⟨rfl, hk, hn, hl, hE, hq⟩ := hc
  refine ⟨Nat.le_of_ble_eq_true rfl, ?_⟩
  simp only [ent, entL, catN, List.length_cons, List.length_nil, List.replicate, List.cons_append, List.nil_append, reduceIte, Nat.reduceEqDiff,  Nat.reduceAdd, Nat.reduceSub, mnl_J7_copyOf_6403c]
  refine wpW (cs := [(304, ce_min), (150, ce_cp)]) (stop := [10]) (n := 200) (env_cons (ce_minOK (by decide +kernel)) (env_cons (ce_cpOK (by decide +kernel)) (env_nil0 (env_hh rfl)))) ?_
  simp only [↓wpN_S, ↓step_u, ↓stC_s, stC_s, ↓stF_u, stF_u, ↓stepI, lenI, ↓kN_u, isS, ↓gI_0, ↓gI_S, ↓gL_0, ↓gL_S, ↓gD_0, ↓gD_S, ↓gR_0, ↓gR_S, ↓sI_c, ↓sL_c, ↓sD_c, ↓sR_c, ↓s1_r, ↓s1_i, ↓vR_r, ↓vR_n, ↓s0_n, s0_n, ↓oR_u, ↓sP_u, ↓sPa_0, ↓sPa_S, ↓lkC_c, ↓callK_u, ↓cQ_s, ↓cQ_n, putL, putW, clr, kil, catS, catN, refF, booF, finF, nF, nmOf_0, nmOf_1, nmOf_2, nmOf_3, nmOf_4, nmOf_5, nmOf_6, nmOf_50, nmOf_51, nmOf_52, ↓reduceIte, reduceIte, Bool.false_eq_true, eq_self, true_or, or_true, true_and, and_true, false_or, or_false, Nat.reduceAdd, Nat.reduceSub, Nat.reduceEqDiff, Nat.reduceLT, Nat.reduceLeDiff, reduceCtorEq, true_implies, List.length_cons, List.length_nil, List.replicate, List.cons_append, List.nil_append, mrt_J7_copyOf_6403c, mhh_J7_copyOf_6403c, mow_J7_copyOf_6403c, mnl_J7_copyOf_6403c, DJ7_copyOf_6403c_0, DJ7_copyOf_6403c_1, DJ7_copyOf_6403c_3, DJ7_copyOf_6403c_6, DJ7_copyOf_6403c_7, DJ7_copyOf_6403c_10, DJ7_copyOf_6403c_13, DJ7_copyOf_6403c_14, DJ7_copyOf_6403c_17, DJ7_copyOf_6403c_18, DJ7_copyOf_6403c_21, DJ7_copyOf_6403c_24, DJ7_copyOf_6403c_25, DJ7_copyOf_6403c_26, DJ7_copyOf_6403c_27, DJ7_copyOf_6403c_28, DJ7_copyOf_6403c_29, DJ7_copyOf_6403c_30, DJ7_copyOf_6403c_31, DJ7_copyOf_6403c_32, DJ7_copyOf_6403c_35, DJ7_copyOf_6403c_38, DJ7_copyOf_6403c_39, ce_min, ce_cp, cX_nil mhh_J7_copyOf_6403c]
  simp only [not_true_eq_false, false_implies, true_and, true_implies]
  simp (disch := omega) only [i32_lit, i32_neg, i32_add, i32_mul, i32_sub, i32_nI, i32_lt, i32_le, i32_eq, inR_i, i32_clamp, i32_div, i32_max, i32_min, ite_max, ite_min, b2i_0, b2i_1, b2i_01, i32_toInt, tn_i, Int.toNat_natCast, em_t, true_and, and_true, Int.reduceToNat, Int.reduceLE, Int.reduceLT, Int.reduceAdd, Int.reduceMul, Int.reduceSub, Int.reduceNeg, Int.reduceEq, true_implies, not_true_eq_false, false_implies, not_false_eq_true]
  refine ⟨by omega, by omega, by omega, fun q h0 hne => Wp.z ?_⟩
  have ne : a ≠ q := fun z => by rw [z, h0] at hk; cases hk
  have ne2 : ¬ q = a := fun z => ne z.symm
  replace hq := hq q h0 hne
  obtain ⟨k, hk1, hk2⟩ := hE
  refine wpW (cs := [(304, ce_min), (150, ce_cp)]) (stop := [100]) (n := 200) (env_cons (ce_minOK (by decide +kernel)) (env_cons (ce_cpOK (by decide +kernel)) (env_nil0 (env_hh rfl)))) ?_
  simp only [↓wpN_S, ↓step_u, ↓stC_s, stC_s, ↓stF_u, stF_u, ↓stepI, lenI, ↓kN_u, isS, ↓gI_0, ↓gI_S, ↓gL_0, ↓gL_S, ↓gD_0, ↓gD_S, ↓gR_0, ↓gR_S, ↓sI_c, ↓sL_c, ↓sD_c, ↓sR_c, ↓s1_r, ↓s1_i, ↓vR_r, ↓vR_n, ↓s0_n, s0_n, ↓oR_u, ↓sP_u, ↓sPa_0, ↓sPa_S, ↓lkC_c, ↓callK_u, ↓cQ_s, ↓cQ_n, putL, putW, clr, kil, catS, catN, refF, booF, finF, nF, nmOf_0, nmOf_1, nmOf_2, nmOf_3, nmOf_4, nmOf_5, nmOf_6, nmOf_50, nmOf_51, nmOf_52, ↓reduceIte, reduceIte, Bool.false_eq_true, eq_self, true_or, or_true, true_and, and_true, false_or, or_false, Nat.reduceAdd, Nat.reduceSub, Nat.reduceEqDiff, Nat.reduceLT, Nat.reduceLeDiff, reduceCtorEq, true_implies, List.length_cons, List.length_nil, List.replicate, List.cons_append, List.nil_append, mrt_J7_copyOf_6403c, mhh_J7_copyOf_6403c, mow_J7_copyOf_6403c, mnl_J7_copyOf_6403c, DJ7_copyOf_6403c_0, DJ7_copyOf_6403c_1, DJ7_copyOf_6403c_3, DJ7_copyOf_6403c_6, DJ7_copyOf_6403c_7, DJ7_copyOf_6403c_10, DJ7_copyOf_6403c_13, DJ7_copyOf_6403c_14, DJ7_copyOf_6403c_17, DJ7_copyOf_6403c_18, DJ7_copyOf_6403c_21, DJ7_copyOf_6403c_24, DJ7_copyOf_6403c_25, DJ7_copyOf_6403c_26, DJ7_copyOf_6403c_27, DJ7_copyOf_6403c_28, DJ7_copyOf_6403c_29, DJ7_copyOf_6403c_30, DJ7_copyOf_6403c_31, DJ7_copyOf_6403c_32, DJ7_copyOf_6403c_35, DJ7_copyOf_6403c_38, DJ7_copyOf_6403c_39, ce_min, ce_cp, cX_nil mhh_J7_copyOf_6403c]
  simp (disch := omega) only [i32_lit, i32_neg, i32_add, i32_mul, i32_sub, i32_nI, i32_lt, i32_le, i32_eq, inR_i, i32_clamp, i32_div, i32_max, i32_min, ite_max, ite_min, b2i_0, b2i_1, b2i_01, i32_toInt, tn_i, Int.toNat_natCast, em_t, true_and, and_true, Int.reduceToNat, Int.reduceLE, Int.reduceLT, Int.reduceAdd, Int.reduceMul, Int.reduceSub, Int.reduceNeg, Int.reduceEq, true_implies, not_true_eq_false, false_implies, not_false_eq_true, kd_setI, fi_setI, fr_setI, ln_setI, ia_setI, ja_setI, ra_setI, kd_setR, fi_setR, fr_setR, ln_setR, ia_setR, ja_setR, ra_setR, kd_setIA, fi_setIA, fr_setIA, ln_setIA, ia_setIA, ja_setIA, ra_setIA, kd_setLA, fi_setLA, fr_setLA, ln_setLA, ia_setLA, ja_setLA, ra_setLA, kd_setRA, fi_setRA, fr_setRA, ln_setRA, ia_setRA, ja_setRA, ra_setRA, kd_cpRA, fi_cpRA, fr_cpRA, ln_cpRA, ia_cpRA, ja_cpRA, ra_cpRA, kd_cpIA, fi_cpIA, fr_cpIA, ln_cpIA, ia_cpIA, ja_cpIA, ra_cpIA, kd_newO, fi_newO, fr_newO, ln_newO, ia_newO, ja_newO, ra_newO, kd_newA, fi_newA, fr_newA, ln_newA, ia_newA, ja_newA, ra_newA, ne, ne2, hk, false_and, if_false, and_self, if_true]
  refine ⟨fun z => absurd z (by decide), fun _ => ⟨by omega, by omega, ?_⟩⟩
  rw [show (min (ln h a : Int) nV).toNat = ln h a by omega]
  refine ⟨by omega, by omega, by omega, ⟨k, hk1, fun i w hi hw => ?_⟩, hq⟩
  rw [Nat.zero_add] at hw
  have e := hk2 i w hi hw
  rw [if_neg (fun z => by rw [z, h0] at e; omega)]
  exact e
def ct_J7_copyOf_1904c (G : GT) : Ct := fun As h Q _ => sR As fun a r => sI r fun n r => s0 r (kd h a = 24 ∧ (1 ≤ n.toInt ∧ n.toInt ≤ 60) ∧ ln h a ≤ tn n ∧ (∃ k, (k = 2 ∨ k = 3 ∨ k = 4) ∧ ∀ i w, i < ln h a → ra h a i = some w → kd h w = k) ∧ ∀ q, kd h q = 0 → q ≠ G.2.2.1.2.1 → Q (some (.ref q)) (cpRA (newA h q 24 (tn n)) a q 0 0 (ln h a)))
def ce_J7_copyOf_1904c (G : GT) : CE := (1, yJ7_copyOf_1904c, MJ7_copyOf_1904c, 2, 3, 1, 60, ct_J7_copyOf_1904c G)
set_option maxRecDepth 100000 in
set_option maxHeartbeats 4000000 in
theorem ok_J7_copyOf_1904c (G : GT) (G : GT) : OKm G yJ7_copyOf_1904c MJ7_copyOf_1904c 3 1 60 (ct_J7_copyOf_1904c G) := by
  refine mkOK (ini := false) (by decide) rfl (by first | exact fun _ => rfl | (intro hh; cases hh)) (fun As h Q QX hc => ?_)
  replace hc := sR_e hc; obtain ⟨a, r, rfl, hc⟩ := hc
  replace hc := sI_e hc; obtain ⟨n, r, rfl, hc⟩ := hc
  replace hc := s0_e hc; obtain ⟨rfl, hc⟩ := hc
  obtain ⟨hk, hn, hl, hE, hq⟩ := hc
  refine ⟨Nat.le_of_ble_eq_true rfl, ?_⟩
  simp only [ent, entL, catN, List.length_cons, List.length_nil, List.replicate, List.cons_append, List.nil_append, reduceIte, Nat.reduceEqDiff,  Nat.reduceAdd, Nat.reduceSub, mnl_J7_copyOf_1904c]
  refine wpW (cs := [(86, ce_gc), (300, ce_J7_copyOf_6403c G)]) (stop := []) (n := 200) (env_cons (ce_gcOK (by decide +kernel)) (env_cons (ceS (by decide +kernel) ⟨by decide, by decide, by decide +kernel⟩ (by decide) (ok_J7_copyOf_6403c G G)) (env_nil0 (env_hh rfl)))) ?_
  simp only [↓wpN_S, ↓step_u, ↓stC_s, stC_s, ↓stF_u, stF_u, ↓stepI, lenI, ↓kN_u, isS, ↓gI_0, ↓gI_S, ↓gL_0, ↓gL_S, ↓gD_0, ↓gD_S, ↓gR_0, ↓gR_S, ↓sI_c, ↓sL_c, ↓sD_c, ↓sR_c, ↓s1_r, ↓s1_i, ↓vR_r, ↓vR_n, ↓s0_n, s0_n, ↓oR_u, ↓sP_u, ↓sPa_0, ↓sPa_S, ↓lkC_c, ↓callK_u, ↓cQ_s, ↓cQ_n, putL, putW, clr, kil, catS, catN, refF, booF, finF, nF, nmOf_0, nmOf_1, nmOf_2, nmOf_3, nmOf_4, nmOf_5, nmOf_6, nmOf_50, nmOf_51, nmOf_52, ↓reduceIte, reduceIte, Bool.false_eq_true, eq_self, true_or, or_true, true_and, and_true, false_or, or_false, Nat.reduceAdd, Nat.reduceSub, Nat.reduceEqDiff, Nat.reduceLT, Nat.reduceLeDiff, reduceCtorEq, true_implies, List.length_cons, List.length_nil, List.replicate, List.cons_append, List.nil_append, mrt_J7_copyOf_1904c, mhh_J7_copyOf_1904c, mow_J7_copyOf_1904c, mnl_J7_copyOf_1904c, DJ7_copyOf_1904c_0, DJ7_copyOf_1904c_1, DJ7_copyOf_1904c_2, DJ7_copyOf_1904c_3, DJ7_copyOf_1904c_6, DJ7_copyOf_1904c_9, ce_gc, ce_J7_copyOf_6403c, ↓ct_J7_copyOf_6403c, ycl_J7_copyOf_6403c, cX_nil mhh_J7_copyOf_1904c]
  simp only [hk, true_and, ne_eq, not_false_eq_true]
  exact ⟨hn, hl, hE, hq⟩
def Lst (G : GT) (h : Hp) (a q cap n : Nat) (f : Nat → Nat) : Prop := kd h a = 1 ∧ fi h 0 2 a = i32 n ∧ fr h 0 1 a = some q ∧ (n ≤ cap ∧ cap ≤ 100) ∧ (cap = 0 → q = G.2.2.1.2.1 ∧ kd h q = 0) ∧ (0 < cap → kd h q = 24 ∧ ln h q = cap) ∧ ∀ i, i < n → ra h q i = some (f i)
theorem Lst.eq {G : GT} {h h' : Hp} {a q cap n : Nat} {f : Nat → Nat} (hL : Lst G h a q cap n f) (h1 : kd h' a = kd h a) (h2 : fi h' 0 2 a = fi h 0 2 a) (h3 : fr h' 0 1 a = fr h 0 1 a) (h4 : kd h' q = kd h q) (h5 : ln h' q = ln h q) (h6 : ∀ i, ra h' q i = ra h q i) : Lst G h' a q cap n f := by
  obtain ⟨l1, l2, l3, l4, l5, l6, l7⟩ := hL
  exact ⟨h1.trans l1, h2.trans l2, h3.trans l3, l4, fun z => ⟨(l5 z).1, h4.trans (l5 z).2⟩, fun z => ⟨h4.trans (l6 z).1, h5.trans (l6 z).2⟩, fun i hi => (h6 i).trans (l7 i hi)⟩
def El (h : Hp) (f : Nat → Nat) (n k : Nat) : Prop := (k = 2 ∨ k = 3 ∨ k = 4) ∧ ∀ i, i < n → kd h (f i) = k
def ct_Jx4a65c_grow_92f84 (G : GT) : Ct := fun As h Q _ => sR As fun a r => sI r fun m r => s0 r (∃ q n f k, Lst G h a q n n f ∧ El h f n k ∧ n ≤ 40 ∧ m = i32 (n + 1) ∧ ∀ h' q' cap', Fr h h' (fun b => b = a) → kd h q' = 0 → Lst G h' a q' cap' n f → n < cap' → Q (some (.ref q')) h')
def ce_Jx4a65c_grow_92f84 (G : GT) : CE := (0, yJx4a65c_grow_92f84, MJx4a65c_grow_92f84, 1, 4, 1, 60, ct_Jx4a65c_grow_92f84 G)
set_option maxRecDepth 100000 in
set_option maxHeartbeats 4000000 in
theorem ok_Jx4a65c_grow_92f84 (G : GT) (G : GT) : OKm G yJx4a65c_grow_92f84 MJx4a65c_grow_92f84 4 1 60 (ct_Jx4a65c_grow_92f84 G) := by
  refine mkOK (ini := false) (by decide) rfl (by first | exact fun _ => rfl | (intro hh; cases hh)) (fun As h Q QX hc => ?_)
  replace hc := sR_e hc; obtain ⟨a, r, rfl, hc⟩ := hc
  replace hc := sI_e hc; obtain ⟨m, r, rfl, hc⟩ := hc
  replace hc := s0_e hc; obtain ⟨rfl, hc⟩ := hc
  obtain ⟨q, n, f, k, ⟨l1, l2, l3, l4, l5, l6, l7⟩, hE, hn, rfl, hq⟩ := hc
  rcases Nat.eq_zero_or_pos n with e | e
  · subst e
    obtain ⟨e1, e2⟩ := l5 rfl
    refine ⟨Nat.le_of_ble_eq_true rfl, ?_⟩
    simp only [ent, entL, catN, List.length_cons, List.length_nil, List.replicate, List.cons_append, List.nil_append, reduceIte, Nat.reduceEqDiff,  Nat.reduceAdd, Nat.reduceSub, mnl_Jx4a65c_grow_92f84]
    refine wpW (cs := [(73, ce_J8_newLength_cabcc), (66, ce_J7_copyOf_1904c G), (79, ce_max)]) (stop := []) (n := 200) (env_cons (ceS (by decide +kernel) ⟨by decide, by decide, by decide +kernel⟩ (by decide) (ok_J8_newLength_cabcc G)) (env_cons (ceS (by decide +kernel) ⟨by decide, by decide, by decide +kernel⟩ (by decide) (ok_J7_copyOf_1904c G G)) (env_cons (ce_maxOK (by decide +kernel)) (env_nil0 (env_hh rfl))))) ?_
    simp only [↓wpN_S, ↓step_u, ↓stC_s, stC_s, ↓stF_u, stF_u, ↓stepI, lenI, ↓kN_u, isS, ↓gI_0, ↓gI_S, ↓gL_0, ↓gL_S, ↓gD_0, ↓gD_S, ↓gR_0, ↓gR_S, ↓sI_c, ↓sL_c, ↓sD_c, ↓sR_c, ↓s1_r, ↓s1_i, ↓vR_r, ↓vR_n, ↓s0_n, s0_n, ↓oR_u, ↓sP_u, ↓sPa_0, ↓sPa_S, ↓lkC_c, ↓callK_u, ↓cQ_s, ↓cQ_n, putL, putW, clr, kil, catS, catN, refF, booF, finF, nF, nmOf_0, nmOf_1, nmOf_2, nmOf_3, nmOf_4, nmOf_5, nmOf_6, nmOf_50, nmOf_51, nmOf_52, ↓reduceIte, reduceIte, Bool.false_eq_true, eq_self, true_or, or_true, true_and, and_true, false_or, or_false, Nat.reduceAdd, Nat.reduceSub, Nat.reduceEqDiff, Nat.reduceLT, Nat.reduceLeDiff, reduceCtorEq, true_implies, List.length_cons, List.length_nil, List.replicate, List.cons_append, List.nil_append, mrt_Jx4a65c_grow_92f84, mhh_Jx4a65c_grow_92f84, mow_Jx4a65c_grow_92f84, mnl_Jx4a65c_grow_92f84, DJx4a65c_grow_92f84_0, DJx4a65c_grow_92f84_1, DJx4a65c_grow_92f84_4, DJx4a65c_grow_92f84_5, DJx4a65c_grow_92f84_6, DJx4a65c_grow_92f84_7, DJx4a65c_grow_92f84_10, DJx4a65c_grow_92f84_11, DJx4a65c_grow_92f84_14, DJx4a65c_grow_92f84_17, DJx4a65c_grow_92f84_20, DJx4a65c_grow_92f84_21, DJx4a65c_grow_92f84_22, DJx4a65c_grow_92f84_23, DJx4a65c_grow_92f84_24, DJx4a65c_grow_92f84_25, DJx4a65c_grow_92f84_26, DJx4a65c_grow_92f84_27, DJx4a65c_grow_92f84_30, DJx4a65c_grow_92f84_31, DJx4a65c_grow_92f84_32, DJx4a65c_grow_92f84_33, DJx4a65c_grow_92f84_36, DJx4a65c_grow_92f84_37, DJx4a65c_grow_92f84_40, DJx4a65c_grow_92f84_41, DJx4a65c_grow_92f84_44, DJx4a65c_grow_92f84_45, DJx4a65c_grow_92f84_46, DJx4a65c_grow_92f84_48, DJx4a65c_grow_92f84_49, DJx4a65c_grow_92f84_52, DJx4a65c_grow_92f84_55, DJx4a65c_grow_92f84_56, DJx4a65c_grow_92f84_59, ce_J8_newLength_cabcc, ↓ct_J8_newLength_cabcc, ycl_J8_newLength_cabcc, ce_J7_copyOf_1904c, ↓ct_J7_copyOf_1904c, ycl_J7_copyOf_1904c, ce_max, cX_nil mhh_Jx4a65c_grow_92f84]
    rw [e1] at e2 l3
    simp (disch := omega) only [i32_lit, i32_neg, i32_add, i32_mul, i32_sub, i32_nI, i32_lt, i32_le, i32_eq, inR_i, i32_clamp, i32_div, i32_max, i32_min, ite_max, ite_min, b2i_0, b2i_1, b2i_01, i32_toInt, tn_i, Int.toNat_natCast, em_t, true_and, and_true, Int.reduceToNat, Int.reduceLE, Int.reduceLT, Int.reduceAdd, Int.reduceMul, Int.reduceSub, Int.reduceNeg, Int.reduceEq, true_implies, not_true_eq_false, false_implies, not_false_eq_true, l1, l2, l3, e2, kd_setI, fi_setI, fr_setI, ln_setI, ia_setI, ja_setI, ra_setI, kd_setR, fi_setR, fr_setR, ln_setR, ia_setR, ja_setR, ra_setR, kd_setIA, fi_setIA, fr_setIA, ln_setIA, ia_setIA, ja_setIA, ra_setIA, kd_setLA, fi_setLA, fr_setLA, ln_setLA, ia_setLA, ja_setLA, ra_setLA, kd_setRA, fi_setRA, fr_setRA, ln_setRA, ia_setRA, ja_setRA, ra_setRA, kd_cpRA, fi_cpRA, fr_cpRA, ln_cpRA, ia_cpRA, ja_cpRA, ra_cpRA, kd_cpIA, fi_cpIA, fr_cpIA, ln_cpIA, ia_cpIA, ja_cpIA, ra_cpIA, kd_newO, fi_newO, fr_newO, ln_newO, ia_newO, ja_newO, ra_newO, kd_newA, fi_newA, fr_newA, ln_newA, ia_newA, ja_newA, ra_newA, Option.some.injEq, exists_eq_left']
    refine ⟨by omega, by omega, by omega, fun b hb hne => ?_⟩
    have nab : a ≠ b := fun z => by rw [z, hb] at l1; cases l1
    rw [if_neg nab, show (max 10 (((0 : Nat) : Int) + 1)).toNat = 10 by omega]
    refine ⟨rfl, hq _ b 10 ((Fr.nA hb).tr (Fr.sR rfl)) hb ⟨by rw [kd_setR, kd_newA, if_neg nab]; exact l1, l2, by rw [fr_setR, if_pos ⟨rfl, rfl, rfl⟩], by omega, fun z => by omega, fun _ => ⟨by rw [kd_setR, kd_newA, if_pos rfl], by rw [ln_setR, ln_newA, if_pos rfl]⟩, fun i hi => by omega⟩ (by omega)⟩
  · obtain ⟨e1, e2⟩ := l6 e
    have e3 := i32_shr (n := n) (by omega)
    refine ⟨Nat.le_of_ble_eq_true rfl, ?_⟩
    simp only [ent, entL, catN, List.length_cons, List.length_nil, List.replicate, List.cons_append, List.nil_append, reduceIte, Nat.reduceEqDiff,  Nat.reduceAdd, Nat.reduceSub, mnl_Jx4a65c_grow_92f84]
    refine wpW (cs := [(73, ce_J8_newLength_cabcc), (66, ce_J7_copyOf_1904c G), (79, ce_max)]) (stop := []) (n := 200) (env_cons (ceS (by decide +kernel) ⟨by decide, by decide, by decide +kernel⟩ (by decide) (ok_J8_newLength_cabcc G)) (env_cons (ceS (by decide +kernel) ⟨by decide, by decide, by decide +kernel⟩ (by decide) (ok_J7_copyOf_1904c G G)) (env_cons (ce_maxOK (by decide +kernel)) (env_nil0 (env_hh rfl))))) ?_
    simp only [↓wpN_S, ↓step_u, ↓stC_s, stC_s, ↓stF_u, stF_u, ↓stepI, lenI, ↓kN_u, isS, ↓gI_0, ↓gI_S, ↓gL_0, ↓gL_S, ↓gD_0, ↓gD_S, ↓gR_0, ↓gR_S, ↓sI_c, ↓sL_c, ↓sD_c, ↓sR_c, ↓s1_r, ↓s1_i, ↓vR_r, ↓vR_n, ↓s0_n, s0_n, ↓oR_u, ↓sP_u, ↓sPa_0, ↓sPa_S, ↓lkC_c, ↓callK_u, ↓cQ_s, ↓cQ_n, putL, putW, clr, kil, catS, catN, refF, booF, finF, nF, nmOf_0, nmOf_1, nmOf_2, nmOf_3, nmOf_4, nmOf_5, nmOf_6, nmOf_50, nmOf_51, nmOf_52, ↓reduceIte, reduceIte, Bool.false_eq_true, eq_self, true_or, or_true, true_and, and_true, false_or, or_false, Nat.reduceAdd, Nat.reduceSub, Nat.reduceEqDiff, Nat.reduceLT, Nat.reduceLeDiff, reduceCtorEq, true_implies, List.length_cons, List.length_nil, List.replicate, List.cons_append, List.nil_append, mrt_Jx4a65c_grow_92f84, mhh_Jx4a65c_grow_92f84, mow_Jx4a65c_grow_92f84, mnl_Jx4a65c_grow_92f84, DJx4a65c_grow_92f84_0, DJx4a65c_grow_92f84_1, DJx4a65c_grow_92f84_4, DJx4a65c_grow_92f84_5, DJx4a65c_grow_92f84_6, DJx4a65c_grow_92f84_7, DJx4a65c_grow_92f84_10, DJx4a65c_grow_92f84_11, DJx4a65c_grow_92f84_14, DJx4a65c_grow_92f84_17, DJx4a65c_grow_92f84_20, DJx4a65c_grow_92f84_21, DJx4a65c_grow_92f84_22, DJx4a65c_grow_92f84_23, DJx4a65c_grow_92f84_24, DJx4a65c_grow_92f84_25, DJx4a65c_grow_92f84_26, DJx4a65c_grow_92f84_27, DJx4a65c_grow_92f84_30, DJx4a65c_grow_92f84_31, DJx4a65c_grow_92f84_32, DJx4a65c_grow_92f84_33, DJx4a65c_grow_92f84_36, DJx4a65c_grow_92f84_37, DJx4a65c_grow_92f84_40, DJx4a65c_grow_92f84_41, DJx4a65c_grow_92f84_44, DJx4a65c_grow_92f84_45, DJx4a65c_grow_92f84_46, DJx4a65c_grow_92f84_48, DJx4a65c_grow_92f84_49, DJx4a65c_grow_92f84_52, DJx4a65c_grow_92f84_55, DJx4a65c_grow_92f84_56, DJx4a65c_grow_92f84_59, ce_J8_newLength_cabcc, ↓ct_J8_newLength_cabcc, ycl_J8_newLength_cabcc, ce_J7_copyOf_1904c, ↓ct_J7_copyOf_1904c, ycl_J7_copyOf_1904c, ce_max, cX_nil mhh_Jx4a65c_grow_92f84]
    simp (disch := omega) only [i32_lit, i32_neg, i32_add, i32_mul, i32_sub, i32_nI, i32_lt, i32_le, i32_eq, inR_i, i32_clamp, i32_div, i32_max, i32_min, ite_max, ite_min, b2i_0, b2i_1, b2i_01, i32_toInt, tn_i, Int.toNat_natCast, em_t, true_and, and_true, Int.reduceToNat, Int.reduceLE, Int.reduceLT, Int.reduceAdd, Int.reduceMul, Int.reduceSub, Int.reduceNeg, Int.reduceEq, true_implies, not_true_eq_false, false_implies, not_false_eq_true, l1, l2, l3, e1, e2, e3, kd_setI, fi_setI, fr_setI, ln_setI, ia_setI, ja_setI, ra_setI, kd_setR, fi_setR, fr_setR, ln_setR, ia_setR, ja_setR, ra_setR, kd_setIA, fi_setIA, fr_setIA, ln_setIA, ia_setIA, ja_setIA, ra_setIA, kd_setLA, fi_setLA, fr_setLA, ln_setLA, ia_setLA, ja_setLA, ra_setLA, kd_setRA, fi_setRA, fr_setRA, ln_setRA, ia_setRA, ja_setRA, ra_setRA, kd_cpRA, fi_cpRA, fr_cpRA, ln_cpRA, ia_cpRA, ja_cpRA, ra_cpRA, kd_cpIA, fi_cpIA, fr_cpIA, ln_cpIA, ia_cpIA, ja_cpIA, ra_cpIA, kd_newO, fi_newO, fr_newO, ln_newO, ia_newO, ja_newO, ra_newO, kd_newA, fi_newA, fr_newA, ln_newA, ia_newA, ja_newA, ra_newA, Option.some.injEq, exists_eq_left']
    refine ⟨fun z => absurd z (by decide), fun _ => ⟨by omega, by omega, fun _ => ?_, fun z => by omega⟩⟩
    refine ⟨by omega, by omega, by omega, by omega, by omega, ⟨k, hE.1, fun i w hi hw => ?_⟩, fun b hb hne => ?_⟩
    · rw [l7 i hi] at hw
      cases hw
      exact hE.2 i hi
    · have nab : a ≠ b := fun z => by rw [z, hb] at l1; cases l1
      have nqb : q ≠ b := fun z => by rw [z, hb] at e1; cases e1
      rw [if_neg nab]
      generalize hcp : ((n : Int) + max ((n : Int) + 1 - n) ((n / 2 : Nat) : Int)).toNat = cp
      refine ⟨rfl, hq _ b cp (((Fr.nA hb).nw (W2 := fun z => z = b) (Fr.cR rfl) (fun z e => Or.inr (e ▸ hb))).tr (Fr.sR rfl)) hb ⟨by rw [kd_setR, kd_cpRA, kd_newA, if_neg nab]; exact l1, l2, by rw [fr_setR, if_pos ⟨rfl, rfl, rfl⟩], by omega, fun z => by omega, fun _ => ⟨by rw [kd_setR, kd_cpRA, kd_newA, if_pos rfl], by rw [ln_setR, ln_cpRA, ln_newA, if_pos rfl]⟩, fun i hi => ?_⟩ (by omega)⟩
      rw [ra_setR, ra_cpRA, if_pos ⟨rfl, by omega, by omega⟩, ra_newA, if_neg nqb, show 0 + (i - 0) = i by omega]
      exact l7 i hi
def ct_Jx4a65c_grow_d5877 (G : GT) : Ct := fun As h Q _ => sR As fun a r => s0 r (∃ q n f k, Lst G h a q n n f ∧ El h f n k ∧ n ≤ 40 ∧ ∀ h' q' cap', Fr h h' (fun b => b = a) → kd h q' = 0 → Lst G h' a q' cap' n f → n < cap' → Q (some (.ref q')) h')
def ce_Jx4a65c_grow_d5877 (G : GT) : CE := (0, yJx4a65c_grow_d5877, MJx4a65c_grow_d5877, 0, 5, 1, 60, ct_Jx4a65c_grow_d5877 G)
set_option maxRecDepth 100000 in
set_option maxHeartbeats 4000000 in
theorem ok_Jx4a65c_grow_d5877 (G : GT) (G : GT) : OKm G yJx4a65c_grow_d5877 MJx4a65c_grow_d5877 5 1 60 (ct_Jx4a65c_grow_d5877 G) := by
  refine mkOK (ini := false) (by decide) rfl (by first | exact fun _ => rfl | (intro hh; cases hh)) (fun As h Q QX hc => ?_)
  replace hc := sR_e hc; obtain ⟨a, r, rfl, hc⟩ := hc
  replace hc := s0_e hc; obtain ⟨rfl, hc⟩ := hc
  obtain ⟨q, n, f, k, hL, hE, hn, hq⟩ := hc
  refine ⟨Nat.le_of_ble_eq_true rfl, ?_⟩
  simp only [ent, entL, catN, List.length_cons, List.length_nil, List.replicate, List.cons_append, List.nil_append, reduceIte, Nat.reduceEqDiff,  Nat.reduceAdd, Nat.reduceSub, mnl_Jx4a65c_grow_d5877]
  refine wpW (cs := [(69, ce_Jx4a65c_grow_92f84 G)]) (stop := []) (n := 200) (env_cons (ceV (by decide +kernel) ⟨by decide, by decide, by decide +kernel⟩ (by decide) rfl (ok_Jx4a65c_grow_92f84 G G)) (env_nil0 (env_hh rfl))) ?_
  simp only [↓wpN_S, ↓step_u, ↓stC_s, stC_s, ↓stF_u, stF_u, ↓stepI, lenI, ↓kN_u, isS, ↓gI_0, ↓gI_S, ↓gL_0, ↓gL_S, ↓gD_0, ↓gD_S, ↓gR_0, ↓gR_S, ↓sI_c, ↓sL_c, ↓sD_c, ↓sR_c, ↓s1_r, ↓s1_i, ↓vR_r, ↓vR_n, ↓s0_n, s0_n, ↓oR_u, ↓sP_u, ↓sPa_0, ↓sPa_S, ↓lkC_c, ↓callK_u, ↓cQ_s, ↓cQ_n, putL, putW, clr, kil, catS, catN, refF, booF, finF, nF, nmOf_0, nmOf_1, nmOf_2, nmOf_3, nmOf_4, nmOf_5, nmOf_6, nmOf_50, nmOf_51, nmOf_52, ↓reduceIte, reduceIte, Bool.false_eq_true, eq_self, true_or, or_true, true_and, and_true, false_or, or_false, Nat.reduceAdd, Nat.reduceSub, Nat.reduceEqDiff, Nat.reduceLT, Nat.reduceLeDiff, reduceCtorEq, true_implies, List.length_cons, List.length_nil, List.replicate, List.cons_append, List.nil_append, mrt_Jx4a65c_grow_d5877, mhh_Jx4a65c_grow_d5877, mow_Jx4a65c_grow_d5877, mnl_Jx4a65c_grow_d5877, DJx4a65c_grow_d5877_0, DJx4a65c_grow_d5877_1, DJx4a65c_grow_d5877_2, DJx4a65c_grow_d5877_5, DJx4a65c_grow_d5877_6, DJx4a65c_grow_d5877_7, DJx4a65c_grow_d5877_10, ce_Jx4a65c_grow_92f84, ↓ct_Jx4a65c_grow_92f84, ycl_Jx4a65c_grow_92f84, cX_nil mhh_Jx4a65c_grow_d5877]
  have hk := hL.1
  have hs := hL.2.1
  simp (disch := omega) only [i32_lit, i32_neg, i32_add, i32_mul, i32_sub, i32_nI, i32_lt, i32_le, i32_eq, inR_i, i32_clamp, i32_div, i32_max, i32_min, ite_max, ite_min, b2i_0, b2i_1, b2i_01, i32_toInt, tn_i, Int.toNat_natCast, em_t, true_and, and_true, Int.reduceToNat, Int.reduceLE, Int.reduceLT, Int.reduceAdd, Int.reduceMul, Int.reduceSub, Int.reduceNeg, Int.reduceEq, true_implies, not_true_eq_false, false_implies, not_false_eq_true, hk, hs]
  exact ⟨by omega, by omega, rfl, q, n, f, k, hL, hE, hn, rfl, hq⟩
/-- one more element -/
def updL (f : Nat → Nat) (n w : Nat) : Nat → Nat := fun i => if i = n then w else f i
def ct_Jx4a65c_add_72be8 (G : GT) : Ct := fun As h Q _ => sR As fun a r => sR r fun w r => sR r fun q r => sI r fun s r => s0 r (∃ cap n f k, Lst G h a q cap n f ∧ El h f n k ∧ kd h w = k ∧ n ≤ 40 ∧ s = i32 n ∧ ∀ h' q' cap', Fr h h' (fun b => b = a ∨ b = q) → (q' = q ∧ 0 < cap ∨ kd h q' = 0) → Lst G h' a q' cap' (n + 1) (updL f n w) → 0 < cap' → Q none h')
def ce_Jx4a65c_add_72be8 (G : GT) : CE := (0, yJx4a65c_add_72be8, MJx4a65c_add_72be8, 3, 6, 1, 60, ct_Jx4a65c_add_72be8 G)
set_option maxRecDepth 100000 in
set_option maxHeartbeats 4000000 in
theorem tl_add (G : GT) {h : Hp} {a w q cap n k : Nat} {f : Nat → Nat} {v3 : Int32} {Q : Option Value → Hp → Prop} {QX : String → Hp → Prop} {bb : Nat × Nat} (hL : Lst G h a q cap n f) (hc : n < cap) (hk : kd h w = k) (hkk : k = 2 ∨ k = 3 ∨ k = 4) (hn : n ≤ 40) (hq : Lst G (setI (setRA h q n (some w)) 0 2 a (i32 (n + 1))) a q cap (n + 1) (updL f n w) → Q none (setI (setRA h q n (some w)) 0 2 a (i32 (n + 1)))) :
    Wp G MJx4a65c_add_72be8 false 6 Q QX 11 [some (.ref a), some (.ref w), some (.ref q), some (.int (i32 n))] [] h (0, 0) := by
  obtain ⟨l1, l2, l3, l4, l5, l6, l7⟩ := hL
  obtain ⟨e1, e2⟩ := l6 (by omega)
  have hz := hq ⟨l1, by rw [fi_setI, if_pos ⟨rfl, rfl, rfl⟩]; rfl, l3, by omega, fun z => by omega, fun _ => ⟨e1, e2⟩, fun i hi => by
    rw [ra_setI, ra_setRA]
    unfold updL
    by_cases z : i = n
    · rw [if_pos ⟨rfl, z⟩, if_pos z]
    · rw [if_neg (fun y => z y.2), if_neg z]; exact l7 i (by omega)⟩
  refine wpW (cs := [(129, ce_Jx4a65c_grow_d5877 G)]) (stop := [100]) (n := 200) (env_cons (ceV (by decide +kernel) ⟨by decide, by decide, by decide +kernel⟩ (by decide) rfl (ok_Jx4a65c_grow_d5877 G G)) (env_nil0 (env_hh rfl))) ?_
  simp only [↓wpN_S, ↓step_u, ↓stC_s, stC_s, ↓stF_u, stF_u, ↓stepI, lenI, ↓kN_u, isS, ↓gI_0, ↓gI_S, ↓gL_0, ↓gL_S, ↓gD_0, ↓gD_S, ↓gR_0, ↓gR_S, ↓sI_c, ↓sL_c, ↓sD_c, ↓sR_c, ↓s1_r, ↓s1_i, ↓vR_r, ↓vR_n, ↓s0_n, s0_n, ↓oR_u, ↓sP_u, ↓sPa_0, ↓sPa_S, ↓lkC_c, ↓callK_u, ↓cQ_s, ↓cQ_n, putL, putW, clr, kil, catS, catN, refF, booF, finF, nF, nmOf_0, nmOf_1, nmOf_2, nmOf_3, nmOf_4, nmOf_5, nmOf_6, nmOf_50, nmOf_51, nmOf_52, ↓reduceIte, reduceIte, Bool.false_eq_true, eq_self, true_or, or_true, true_and, and_true, false_or, or_false, Nat.reduceAdd, Nat.reduceSub, Nat.reduceEqDiff, Nat.reduceLT, Nat.reduceLeDiff, reduceCtorEq, true_implies, List.length_cons, List.length_nil, List.replicate, List.cons_append, List.nil_append, mrt_Jx4a65c_add_72be8, mhh_Jx4a65c_add_72be8, mow_Jx4a65c_add_72be8, mnl_Jx4a65c_add_72be8, DJx4a65c_add_72be8_0, DJx4a65c_add_72be8_1, DJx4a65c_add_72be8_2, DJx4a65c_add_72be8_3, DJx4a65c_add_72be8_6, DJx4a65c_add_72be8_7, DJx4a65c_add_72be8_10, DJx4a65c_add_72be8_11, DJx4a65c_add_72be8_12, DJx4a65c_add_72be8_13, DJx4a65c_add_72be8_14, DJx4a65c_add_72be8_15, DJx4a65c_add_72be8_16, DJx4a65c_add_72be8_17, DJx4a65c_add_72be8_18, DJx4a65c_add_72be8_19, DJx4a65c_add_72be8_22, ce_Jx4a65c_grow_d5877, ↓ct_Jx4a65c_grow_d5877, ycl_Jx4a65c_grow_d5877, cX_nil mhh_Jx4a65c_add_72be8]
  simp (disch := omega) only [i32_lit, i32_neg, i32_add, i32_mul, i32_sub, i32_nI, i32_lt, i32_le, i32_eq, inR_i, i32_clamp, i32_div, i32_max, i32_min, ite_max, ite_min, b2i_0, b2i_1, b2i_01, i32_toInt, tn_i, Int.toNat_natCast, em_t, true_and, and_true, Int.reduceToNat, Int.reduceLE, Int.reduceLT, Int.reduceAdd, Int.reduceMul, Int.reduceSub, Int.reduceNeg, Int.reduceEq, true_implies, not_true_eq_false, false_implies, not_false_eq_true, l1, e1, e2, hk]
  exact ⟨by omega, hkk, l1, hz⟩
set_option maxRecDepth 100000 in
set_option maxHeartbeats 4000000 in
theorem ok_Jx4a65c_add_72be8 (G : GT) (G : GT) : OKm G yJx4a65c_add_72be8 MJx4a65c_add_72be8 6 1 60 (ct_Jx4a65c_add_72be8 G) := by
  refine mkOK (ini := false) (by decide) rfl (by first | exact fun _ => rfl | (intro hh; cases hh)) (fun As h Q QX hc => ?_)
  replace hc := sR_e hc; obtain ⟨a, r, rfl, hc⟩ := hc
  replace hc := sR_e hc; obtain ⟨w, r, rfl, hc⟩ := hc
  replace hc := sR_e hc; obtain ⟨q, r, rfl, hc⟩ := hc
  replace hc := sI_e hc; obtain ⟨s, r, rfl, hc⟩ := hc
  replace hc := s0_e hc; obtain ⟨rfl, hc⟩ := hc
  obtain ⟨cap, n, f, k, hL, hE, hkw, hn, rfl, hq⟩ := hc
  have hL0 := hL
  obtain ⟨l1, l2, l3, l4, l5, l6, l7⟩ := hL0
  rcases Nat.lt_or_ge n cap with c | c
  · obtain ⟨e1, e2⟩ := l6 (by omega)
    have hr := tl_add (Q := Q) (QX := QX) (v3 := 0) (bb := (0, 0)) G hL c hkw hE.1 hn (fun hz => hq _ q cap ((Fr.sRA (Or.inr rfl)).tr (Fr.sI (Or.inl rfl))) (Or.inl ⟨rfl, by omega⟩) hz (by omega))
    refine ⟨Nat.le_of_ble_eq_true rfl, ?_⟩
    simp only [ent, entL, catN, List.length_cons, List.length_nil, List.replicate, List.cons_append, List.nil_append, reduceIte, Nat.reduceEqDiff,  Nat.reduceAdd, Nat.reduceSub, mnl_Jx4a65c_add_72be8]
    refine wpW (cs := [(129, ce_Jx4a65c_grow_d5877 G)]) (stop := [11]) (n := 200) (env_cons (ceV (by decide +kernel) ⟨by decide, by decide, by decide +kernel⟩ (by decide) rfl (ok_Jx4a65c_grow_d5877 G G)) (env_nil0 (env_hh rfl))) ?_
    simp only [↓wpN_S, ↓step_u, ↓stC_s, stC_s, ↓stF_u, stF_u, ↓stepI, lenI, ↓kN_u, isS, ↓gI_0, ↓gI_S, ↓gL_0, ↓gL_S, ↓gD_0, ↓gD_S, ↓gR_0, ↓gR_S, ↓sI_c, ↓sL_c, ↓sD_c, ↓sR_c, ↓s1_r, ↓s1_i, ↓vR_r, ↓vR_n, ↓s0_n, s0_n, ↓oR_u, ↓sP_u, ↓sPa_0, ↓sPa_S, ↓lkC_c, ↓callK_u, ↓cQ_s, ↓cQ_n, putL, putW, clr, kil, catS, catN, refF, booF, finF, nF, nmOf_0, nmOf_1, nmOf_2, nmOf_3, nmOf_4, nmOf_5, nmOf_6, nmOf_50, nmOf_51, nmOf_52, ↓reduceIte, reduceIte, Bool.false_eq_true, eq_self, true_or, or_true, true_and, and_true, false_or, or_false, Nat.reduceAdd, Nat.reduceSub, Nat.reduceEqDiff, Nat.reduceLT, Nat.reduceLeDiff, reduceCtorEq, true_implies, List.length_cons, List.length_nil, List.replicate, List.cons_append, List.nil_append, mrt_Jx4a65c_add_72be8, mhh_Jx4a65c_add_72be8, mow_Jx4a65c_add_72be8, mnl_Jx4a65c_add_72be8, DJx4a65c_add_72be8_0, DJx4a65c_add_72be8_1, DJx4a65c_add_72be8_2, DJx4a65c_add_72be8_3, DJx4a65c_add_72be8_6, DJx4a65c_add_72be8_7, DJx4a65c_add_72be8_10, DJx4a65c_add_72be8_11, DJx4a65c_add_72be8_12, DJx4a65c_add_72be8_13, DJx4a65c_add_72be8_14, DJx4a65c_add_72be8_15, DJx4a65c_add_72be8_16, DJx4a65c_add_72be8_17, DJx4a65c_add_72be8_18, DJx4a65c_add_72be8_19, DJx4a65c_add_72be8_22, ce_Jx4a65c_grow_d5877, ↓ct_Jx4a65c_grow_d5877, ycl_Jx4a65c_grow_d5877, cX_nil mhh_Jx4a65c_add_72be8]
    simp (disch := omega) only [i32_lit, i32_neg, i32_add, i32_mul, i32_sub, i32_nI, i32_lt, i32_le, i32_eq, inR_i, i32_clamp, i32_div, i32_max, i32_min, ite_max, ite_min, b2i_0, b2i_1, b2i_01, i32_toInt, tn_i, Int.toNat_natCast, em_t, true_and, and_true, Int.reduceToNat, Int.reduceLE, Int.reduceLT, Int.reduceAdd, Int.reduceMul, Int.reduceSub, Int.reduceNeg, Int.reduceEq, true_implies, not_true_eq_false, false_implies, not_false_eq_true, l1, e1, e2]
    exact ⟨fun z => absurd z (by decide), fun _ => ⟨by omega, by omega, fun _ => Wp.z hr, fun z => by omega⟩⟩
  · have e : cap = n := by omega
    subst e
    have hg : ∀ h' q' cap', Fr h h' (fun b => b = a) → kd h q' = 0 → Lst G h' a q' cap' cap f → cap < cap' → Wp G MJx4a65c_add_72be8 false 6 Q QX 11 [some (.ref a), some (.ref w), some (.ref q'), some (.int (i32 cap))] [] h' (0, 0) := fun h' q' cap' g1 g2 g3 g4 => by
      have hw : kd h w ≠ 0 := by rw [hkw]; rcases hE.1 with z | z | z <;> omega
      refine tl_add (Q := Q) (QX := QX) (v3 := 0) (bb := (0, 0)) G g3 g4 ((g1 w hw).1.1.trans hkw) hE.1 hn (fun hz => hq _ q' cap' (((g1.up (fun z e => Or.inl e)).nw (W2 := fun z => z = q' ∨ z = a) ((Fr.sRA (Or.inl rfl)).tr (Fr.sI (Or.inr rfl))) (fun z e => e.elim (fun e => Or.inr (e ▸ g2)) (fun e => Or.inl (Or.inl e))))) (Or.inr g2) hz (by omega))
    rcases Nat.eq_zero_or_pos cap with z | z
    · subst z
      obtain ⟨e1, e2⟩ := l5 rfl
      refine ⟨Nat.le_of_ble_eq_true rfl, ?_⟩
      simp only [ent, entL, catN, List.length_cons, List.length_nil, List.replicate, List.cons_append, List.nil_append, reduceIte, Nat.reduceEqDiff,  Nat.reduceAdd, Nat.reduceSub, mnl_Jx4a65c_add_72be8]
      refine wpW (cs := [(129, ce_Jx4a65c_grow_d5877 G)]) (stop := [11]) (n := 200) (env_cons (ceV (by decide +kernel) ⟨by decide, by decide, by decide +kernel⟩ (by decide) rfl (ok_Jx4a65c_grow_d5877 G G)) (env_nil0 (env_hh rfl))) ?_
      simp only [↓wpN_S, ↓step_u, ↓stC_s, stC_s, ↓stF_u, stF_u, ↓stepI, lenI, ↓kN_u, isS, ↓gI_0, ↓gI_S, ↓gL_0, ↓gL_S, ↓gD_0, ↓gD_S, ↓gR_0, ↓gR_S, ↓sI_c, ↓sL_c, ↓sD_c, ↓sR_c, ↓s1_r, ↓s1_i, ↓vR_r, ↓vR_n, ↓s0_n, s0_n, ↓oR_u, ↓sP_u, ↓sPa_0, ↓sPa_S, ↓lkC_c, ↓callK_u, ↓cQ_s, ↓cQ_n, putL, putW, clr, kil, catS, catN, refF, booF, finF, nF, nmOf_0, nmOf_1, nmOf_2, nmOf_3, nmOf_4, nmOf_5, nmOf_6, nmOf_50, nmOf_51, nmOf_52, ↓reduceIte, reduceIte, Bool.false_eq_true, eq_self, true_or, or_true, true_and, and_true, false_or, or_false, Nat.reduceAdd, Nat.reduceSub, Nat.reduceEqDiff, Nat.reduceLT, Nat.reduceLeDiff, reduceCtorEq, true_implies, List.length_cons, List.length_nil, List.replicate, List.cons_append, List.nil_append, mrt_Jx4a65c_add_72be8, mhh_Jx4a65c_add_72be8, mow_Jx4a65c_add_72be8, mnl_Jx4a65c_add_72be8, DJx4a65c_add_72be8_0, DJx4a65c_add_72be8_1, DJx4a65c_add_72be8_2, DJx4a65c_add_72be8_3, DJx4a65c_add_72be8_6, DJx4a65c_add_72be8_7, DJx4a65c_add_72be8_10, DJx4a65c_add_72be8_11, DJx4a65c_add_72be8_12, DJx4a65c_add_72be8_13, DJx4a65c_add_72be8_14, DJx4a65c_add_72be8_15, DJx4a65c_add_72be8_16, DJx4a65c_add_72be8_17, DJx4a65c_add_72be8_18, DJx4a65c_add_72be8_19, DJx4a65c_add_72be8_22, ce_Jx4a65c_grow_d5877, ↓ct_Jx4a65c_grow_d5877, ycl_Jx4a65c_grow_d5877, cX_nil mhh_Jx4a65c_add_72be8]
      simp (disch := omega) only [i32_lit, i32_neg, i32_add, i32_mul, i32_sub, i32_nI, i32_lt, i32_le, i32_eq, inR_i, i32_clamp, i32_div, i32_max, i32_min, ite_max, ite_min, b2i_0, b2i_1, b2i_01, i32_toInt, tn_i, Int.toNat_natCast, em_t, true_and, and_true, Int.reduceToNat, Int.reduceLE, Int.reduceLT, Int.reduceAdd, Int.reduceMul, Int.reduceSub, Int.reduceNeg, Int.reduceEq, true_implies, not_true_eq_false, false_implies, not_false_eq_true, l1, e2]
      exact ⟨e1, fun z => absurd rfl z, fun _ => ⟨by decide, by decide, rfl, q, 0, f, k, hL, hE, by omega, hg⟩⟩
    · obtain ⟨e1, e2⟩ := l6 z
      refine ⟨Nat.le_of_ble_eq_true rfl, ?_⟩
      simp only [ent, entL, catN, List.length_cons, List.length_nil, List.replicate, List.cons_append, List.nil_append, reduceIte, Nat.reduceEqDiff,  Nat.reduceAdd, Nat.reduceSub, mnl_Jx4a65c_add_72be8]
      refine wpW (cs := [(129, ce_Jx4a65c_grow_d5877 G)]) (stop := [11]) (n := 200) (env_cons (ceV (by decide +kernel) ⟨by decide, by decide, by decide +kernel⟩ (by decide) rfl (ok_Jx4a65c_grow_d5877 G G)) (env_nil0 (env_hh rfl))) ?_
      simp only [↓wpN_S, ↓step_u, ↓stC_s, stC_s, ↓stF_u, stF_u, ↓stepI, lenI, ↓kN_u, isS, ↓gI_0, ↓gI_S, ↓gL_0, ↓gL_S, ↓gD_0, ↓gD_S, ↓gR_0, ↓gR_S, ↓sI_c, ↓sL_c, ↓sD_c, ↓sR_c, ↓s1_r, ↓s1_i, ↓vR_r, ↓vR_n, ↓s0_n, s0_n, ↓oR_u, ↓sP_u, ↓sPa_0, ↓sPa_S, ↓lkC_c, ↓callK_u, ↓cQ_s, ↓cQ_n, putL, putW, clr, kil, catS, catN, refF, booF, finF, nF, nmOf_0, nmOf_1, nmOf_2, nmOf_3, nmOf_4, nmOf_5, nmOf_6, nmOf_50, nmOf_51, nmOf_52, ↓reduceIte, reduceIte, Bool.false_eq_true, eq_self, true_or, or_true, true_and, and_true, false_or, or_false, Nat.reduceAdd, Nat.reduceSub, Nat.reduceEqDiff, Nat.reduceLT, Nat.reduceLeDiff, reduceCtorEq, true_implies, List.length_cons, List.length_nil, List.replicate, List.cons_append, List.nil_append, mrt_Jx4a65c_add_72be8, mhh_Jx4a65c_add_72be8, mow_Jx4a65c_add_72be8, mnl_Jx4a65c_add_72be8, DJx4a65c_add_72be8_0, DJx4a65c_add_72be8_1, DJx4a65c_add_72be8_2, DJx4a65c_add_72be8_3, DJx4a65c_add_72be8_6, DJx4a65c_add_72be8_7, DJx4a65c_add_72be8_10, DJx4a65c_add_72be8_11, DJx4a65c_add_72be8_12, DJx4a65c_add_72be8_13, DJx4a65c_add_72be8_14, DJx4a65c_add_72be8_15, DJx4a65c_add_72be8_16, DJx4a65c_add_72be8_17, DJx4a65c_add_72be8_18, DJx4a65c_add_72be8_19, DJx4a65c_add_72be8_22, ce_Jx4a65c_grow_d5877, ↓ct_Jx4a65c_grow_d5877, ycl_Jx4a65c_grow_d5877, cX_nil mhh_Jx4a65c_add_72be8]
      simp (disch := omega) only [i32_lit, i32_neg, i32_add, i32_mul, i32_sub, i32_nI, i32_lt, i32_le, i32_eq, inR_i, i32_clamp, i32_div, i32_max, i32_min, ite_max, ite_min, b2i_0, b2i_1, b2i_01, i32_toInt, tn_i, Int.toNat_natCast, em_t, true_and, and_true, Int.reduceToNat, Int.reduceLE, Int.reduceLT, Int.reduceAdd, Int.reduceMul, Int.reduceSub, Int.reduceNeg, Int.reduceEq, true_implies, not_true_eq_false, false_implies, not_false_eq_true, l1, e1, e2]
      exact ⟨fun z => absurd z (by decide), fun _ => ⟨by omega, by omega, by decide, by decide, rfl, q, cap, f, k, hL, hE, hn, hg⟩⟩
def ct_Jx4a65c_add_9ea2d (G : GT) : Ct := fun As h Q _ => sR As fun a r => sR r fun w r => s0 r (∃ q cap n f k, Lst G h a q cap n f ∧ El h f n k ∧ kd h w = k ∧ n ≤ 40 ∧ ∀ h' q' cap', Fr h h' (fun b => b = a ∨ b = q) → (q' = q ∧ 0 < cap ∨ kd h q' = 0) → Lst G h' a q' cap' (n + 1) (updL f n w) → 0 < cap' → Q (some (.int 1)) h')
def ce_Jx4a65c_add_9ea2d (G : GT) : CE := (0, yJx4a65c_add_9ea2d, MJx4a65c_add_9ea2d, 1, 7, 1, 60, ct_Jx4a65c_add_9ea2d G)
set_option maxRecDepth 100000 in
set_option maxHeartbeats 4000000 in
theorem ok_Jx4a65c_add_9ea2d (G : GT) (G : GT) : OKm G yJx4a65c_add_9ea2d MJx4a65c_add_9ea2d 7 1 60 (ct_Jx4a65c_add_9ea2d G) := by
  refine mkOK (ini := false) (by decide) rfl (by first | exact fun _ => rfl | (intro hh; cases hh)) (fun As h Q QX hc => ?_)
  replace hc := sR_e hc; obtain ⟨a, r, rfl, hc⟩ := hc
  replace hc := sR_e hc; obtain ⟨w, r, rfl, hc⟩ := hc
  replace hc := s0_e hc; obtain ⟨rfl, hc⟩ := hc
  obtain ⟨q, cap, n, f, k, hL, hE, hkw, hn, hq⟩ := hc
  have hL0 := hL
  obtain ⟨l1, l2, l3, l4, l5, l6, l7⟩ := hL0
  refine ⟨Nat.le_of_ble_eq_true rfl, ?_⟩
  simp only [ent, entL, catN, List.length_cons, List.length_nil, List.replicate, List.cons_append, List.nil_append, reduceIte, Nat.reduceEqDiff,  Nat.reduceAdd, Nat.reduceSub, mnl_Jx4a65c_add_9ea2d]
  refine wpW (cs := [(131, ce_Jx4a65c_add_72be8 G)]) (stop := []) (n := 200) (env_cons (ceV (by decide +kernel) ⟨by decide, by decide, by decide +kernel⟩ (by decide) rfl (ok_Jx4a65c_add_72be8 G G)) (env_nil0 (env_hh rfl))) ?_
  simp only [↓wpN_S, ↓step_u, ↓stC_s, stC_s, ↓stF_u, stF_u, ↓stepI, lenI, ↓kN_u, isS, ↓gI_0, ↓gI_S, ↓gL_0, ↓gL_S, ↓gD_0, ↓gD_S, ↓gR_0, ↓gR_S, ↓sI_c, ↓sL_c, ↓sD_c, ↓sR_c, ↓s1_r, ↓s1_i, ↓vR_r, ↓vR_n, ↓s0_n, s0_n, ↓oR_u, ↓sP_u, ↓sPa_0, ↓sPa_S, ↓lkC_c, ↓callK_u, ↓cQ_s, ↓cQ_n, putL, putW, clr, kil, catS, catN, refF, booF, finF, nF, nmOf_0, nmOf_1, nmOf_2, nmOf_3, nmOf_4, nmOf_5, nmOf_6, nmOf_50, nmOf_51, nmOf_52, ↓reduceIte, reduceIte, Bool.false_eq_true, eq_self, true_or, or_true, true_and, and_true, false_or, or_false, Nat.reduceAdd, Nat.reduceSub, Nat.reduceEqDiff, Nat.reduceLT, Nat.reduceLeDiff, reduceCtorEq, true_implies, List.length_cons, List.length_nil, List.replicate, List.cons_append, List.nil_append, mrt_Jx4a65c_add_9ea2d, mhh_Jx4a65c_add_9ea2d, mow_Jx4a65c_add_9ea2d, mnl_Jx4a65c_add_9ea2d, DJx4a65c_add_9ea2d_0, DJx4a65c_add_9ea2d_1, DJx4a65c_add_9ea2d_2, DJx4a65c_add_9ea2d_5, DJx4a65c_add_9ea2d_6, DJx4a65c_add_9ea2d_7, DJx4a65c_add_9ea2d_10, DJx4a65c_add_9ea2d_11, DJx4a65c_add_9ea2d_12, DJx4a65c_add_9ea2d_13, DJx4a65c_add_9ea2d_16, DJx4a65c_add_9ea2d_17, DJx4a65c_add_9ea2d_20, DJx4a65c_add_9ea2d_23, DJx4a65c_add_9ea2d_24, ce_Jx4a65c_add_72be8, ↓ct_Jx4a65c_add_72be8, ycl_Jx4a65c_add_72be8, cX_nil mhh_Jx4a65c_add_9ea2d]
  simp (disch := omega) only [i32_lit, i32_neg, i32_add, i32_mul, i32_sub, i32_nI, i32_lt, i32_le, i32_eq, inR_i, i32_clamp, i32_div, i32_max, i32_min, ite_max, ite_min, b2i_0, b2i_1, b2i_01, i32_toInt, tn_i, Int.toNat_natCast, em_t, true_and, and_true, Int.reduceToNat, Int.reduceLE, Int.reduceLT, Int.reduceAdd, Int.reduceMul, Int.reduceSub, Int.reduceNeg, Int.reduceEq, true_implies, not_true_eq_false, false_implies, not_false_eq_true, l1, l2, l3, kd_setI, fi_setI, fr_setI, ln_setI, ia_setI, ja_setI, ra_setI, kd_setR, fi_setR, fr_setR, ln_setR, ia_setR, ja_setR, ra_setR, kd_setIA, fi_setIA, fr_setIA, ln_setIA, ia_setIA, ja_setIA, ra_setIA, kd_setLA, fi_setLA, fr_setLA, ln_setLA, ia_setLA, ja_setLA, ra_setLA, kd_setRA, fi_setRA, fr_setRA, ln_setRA, ia_setRA, ja_setRA, ra_setRA, kd_cpRA, fi_cpRA, fr_cpRA, ln_cpRA, ia_cpRA, ja_cpRA, ra_cpRA, kd_cpIA, fi_cpIA, fr_cpIA, ln_cpIA, ia_cpIA, ja_cpIA, ra_cpIA, kd_newO, fi_newO, fr_newO, ln_newO, ia_newO, ja_newO, ra_newO, kd_newA, fi_newA, fr_newA, ln_newA, ia_newA, ja_newA, ra_newA, Option.some.injEq, exists_eq_left']
  refine ⟨by decide, by decide, rfl, cap, n, f, k, Lst.eq hL rfl (by rw [fi_setI, if_neg (by omega)]) rfl rfl rfl (fun _ => rfl), hE, hkw, hn, if_neg (by decide), fun h' q' cap' g1 g2 g3 g4 => hq h' q' cap' ((Fr.sI (Or.inl rfl)).tr g1) g2 g3 g4⟩
/-! its constructor -/
def ct_Jxa1e45_init_da8c8 : Ct := fun As h Q _ => sR As fun a r => s0 r (kd h a = 1 ∧ Q none h)
def ce_Jxa1e45_init_da8c8 : CE := (2, yJxa1e45_init_da8c8, MJxa1e45_init_da8c8, 0, 1, 0, 0, ct_Jxa1e45_init_da8c8)
set_option maxRecDepth 100000 in
set_option maxHeartbeats 4000000 in
theorem ok_Jxa1e45_init_da8c8 (G : GT) : OKm G yJxa1e45_init_da8c8 MJxa1e45_init_da8c8 1 0 0 ct_Jxa1e45_init_da8c8 := by
  refine mkOK (ini := true) (by decide) rfl (by first | exact fun _ => rfl | (intro hh; cases hh)) (fun As h Q QX hc => ?_)
  replace hc := sR_e hc; obtain ⟨a, r, rfl, hc⟩ := hc
  replace hc := s0_e hc; obtain ⟨rfl, hc⟩ := hc
  obtain ⟨hk, hq⟩ := hc
  refine ⟨Nat.le_of_ble_eq_true rfl, ?_⟩
  simp only [ent, entL, catN, List.length_cons, List.length_nil, List.replicate, List.cons_append, List.nil_append, reduceIte, Nat.reduceEqDiff,  Nat.reduceAdd, Nat.reduceSub, mnl_Jxa1e45_init_da8c8]
  refine wpW (cs := [(1, ce_obj)]) (stop := []) (n := 200) (env_cons (ce_objOK (by decide +kernel)) (env_nil0 (env_hh rfl))) ?_
  simp only [↓wpN_S, ↓step_u, ↓stC_s, stC_s, ↓stF_u, stF_u, ↓stepI, lenI, ↓kN_u, isS, ↓gI_0, ↓gI_S, ↓gL_0, ↓gL_S, ↓gD_0, ↓gD_S, ↓gR_0, ↓gR_S, ↓sI_c, ↓sL_c, ↓sD_c, ↓sR_c, ↓s1_r, ↓s1_i, ↓vR_r, ↓vR_n, ↓s0_n, s0_n, ↓oR_u, ↓sP_u, ↓sPa_0, ↓sPa_S, ↓lkC_c, ↓callK_u, ↓cQ_s, ↓cQ_n, putL, putW, clr, kil, catS, catN, refF, booF, finF, nF, nmOf_0, nmOf_1, nmOf_2, nmOf_3, nmOf_4, nmOf_5, nmOf_6, nmOf_50, nmOf_51, nmOf_52, ↓reduceIte, reduceIte, Bool.false_eq_true, eq_self, true_or, or_true, true_and, and_true, false_or, or_false, Nat.reduceAdd, Nat.reduceSub, Nat.reduceEqDiff, Nat.reduceLT, Nat.reduceLeDiff, reduceCtorEq, true_implies, List.length_cons, List.length_nil, List.replicate, List.cons_append, List.nil_append, mrt_Jxa1e45_init_da8c8, mhh_Jxa1e45_init_da8c8, mow_Jxa1e45_init_da8c8, mnl_Jxa1e45_init_da8c8, DJxa1e45_init_da8c8_0, DJxa1e45_init_da8c8_1, DJxa1e45_init_da8c8_4, ce_obj, cX_nil mhh_Jxa1e45_init_da8c8]
  simp [hq]
def ct_Jxc12de_init_da8c8 : Ct := fun As h Q _ => sR As fun a r => s0 r (kd h a = 1 ∧ Q none (setI h 0 0 a 0))
def ce_Jxc12de_init_da8c8 : CE := (2, yJxc12de_init_da8c8, MJxc12de_init_da8c8, 0, 2, 0, 0, ct_Jxc12de_init_da8c8)
set_option maxRecDepth 100000 in
set_option maxHeartbeats 4000000 in
theorem ok_Jxc12de_init_da8c8 (G : GT) : OKm G yJxc12de_init_da8c8 MJxc12de_init_da8c8 2 0 0 ct_Jxc12de_init_da8c8 := by
  refine mkOK (ini := true) (by decide) rfl (by first | exact fun _ => rfl | (intro hh; cases hh)) (fun As h Q QX hc => ?_)
  replace hc := sR_e hc; obtain ⟨a, r, rfl, hc⟩ := hc
  replace hc := s0_e hc; obtain ⟨rfl, hc⟩ := hc
  obtain ⟨hk, hq⟩ := hc
  refine ⟨Nat.le_of_ble_eq_true rfl, ?_⟩
  simp only [ent, entL, catN, List.length_cons, List.length_nil, List.replicate, List.cons_append, List.nil_append, reduceIte, Nat.reduceEqDiff,  Nat.reduceAdd, Nat.reduceSub, mnl_Jxc12de_init_da8c8]
  refine wpW (cs := [(1, ce_Jxa1e45_init_da8c8)]) (stop := []) (n := 200) (env_cons (ceI (by decide +kernel) ⟨by decide, by decide, by decide +kernel⟩ (by decide) rfl (ok_Jxa1e45_init_da8c8 G)) (env_nil0 (env_hh rfl))) ?_
  simp only [↓wpN_S, ↓step_u, ↓stC_s, stC_s, ↓stF_u, stF_u, ↓stepI, lenI, ↓kN_u, isS, ↓gI_0, ↓gI_S, ↓gL_0, ↓gL_S, ↓gD_0, ↓gD_S, ↓gR_0, ↓gR_S, ↓sI_c, ↓sL_c, ↓sD_c, ↓sR_c, ↓s1_r, ↓s1_i, ↓vR_r, ↓vR_n, ↓s0_n, s0_n, ↓oR_u, ↓sP_u, ↓sPa_0, ↓sPa_S, ↓lkC_c, ↓callK_u, ↓cQ_s, ↓cQ_n, putL, putW, clr, kil, catS, catN, refF, booF, finF, nF, nmOf_0, nmOf_1, nmOf_2, nmOf_3, nmOf_4, nmOf_5, nmOf_6, nmOf_50, nmOf_51, nmOf_52, ↓reduceIte, reduceIte, Bool.false_eq_true, eq_self, true_or, or_true, true_and, and_true, false_or, or_false, Nat.reduceAdd, Nat.reduceSub, Nat.reduceEqDiff, Nat.reduceLT, Nat.reduceLeDiff, reduceCtorEq, true_implies, List.length_cons, List.length_nil, List.replicate, List.cons_append, List.nil_append, mrt_Jxc12de_init_da8c8, mhh_Jxc12de_init_da8c8, mow_Jxc12de_init_da8c8, mnl_Jxc12de_init_da8c8, DJxc12de_init_da8c8_0, DJxc12de_init_da8c8_1, DJxc12de_init_da8c8_4, DJxc12de_init_da8c8_5, DJxc12de_init_da8c8_6, DJxc12de_init_da8c8_9, ce_Jxa1e45_init_da8c8, ↓ct_Jxa1e45_init_da8c8, ycl_Jxa1e45_init_da8c8, cX_nil mhh_Jxc12de_init_da8c8]
  simp [hk, hq]
def ct_Jx4a65c_init_da8c8 (G : GT) : Ct := fun As h Q _ => sR As fun a r => s0 r (kd h a = 1 ∧ Q none (setR (setI h 0 0 a 0) 0 1 a (some G.2.2.1.2.1)))
def ce_Jx4a65c_init_da8c8 (G : GT) : CE := (2, yJx4a65c_init_da8c8, MJx4a65c_init_da8c8, 0, 3, 0, 0, ct_Jx4a65c_init_da8c8 G)
set_option maxRecDepth 100000 in
set_option maxHeartbeats 4000000 in
theorem ok_Jx4a65c_init_da8c8 (G : GT) (G : GT) : OKm G yJx4a65c_init_da8c8 MJx4a65c_init_da8c8 3 0 0 (ct_Jx4a65c_init_da8c8 G) := by
  refine mkOK (ini := true) (by decide) rfl (by first | exact fun _ => rfl | (intro hh; cases hh)) (fun As h Q QX hc => ?_)
  replace hc := sR_e hc; obtain ⟨a, r, rfl, hc⟩ := hc
  replace hc := s0_e hc; obtain ⟨rfl, hc⟩ := hc
  obtain ⟨hk, hq⟩ := hc
  refine ⟨Nat.le_of_ble_eq_true rfl, ?_⟩
  simp only [ent, entL, catN, List.length_cons, List.length_nil, List.replicate, List.cons_append, List.nil_append, reduceIte, Nat.reduceEqDiff,  Nat.reduceAdd, Nat.reduceSub, mnl_Jx4a65c_init_da8c8]
  refine wpW (cs := [(1, ce_Jxc12de_init_da8c8)]) (stop := []) (n := 200) (env_cons (ceI (by decide +kernel) ⟨by decide, by decide, by decide +kernel⟩ (by decide) rfl (ok_Jxc12de_init_da8c8 G)) (env_nil0 (env_hh rfl))) ?_
  simp only [↓wpN_S, ↓step_u, ↓stC_s, stC_s, ↓stF_u, stF_u, ↓stepI, lenI, ↓kN_u, isS, ↓gI_0, ↓gI_S, ↓gL_0, ↓gL_S, ↓gD_0, ↓gD_S, ↓gR_0, ↓gR_S, ↓sI_c, ↓sL_c, ↓sD_c, ↓sR_c, ↓s1_r, ↓s1_i, ↓vR_r, ↓vR_n, ↓s0_n, s0_n, ↓oR_u, ↓sP_u, ↓sPa_0, ↓sPa_S, ↓lkC_c, ↓callK_u, ↓cQ_s, ↓cQ_n, putL, putW, clr, kil, catS, catN, refF, booF, finF, nF, nmOf_0, nmOf_1, nmOf_2, nmOf_3, nmOf_4, nmOf_5, nmOf_6, nmOf_50, nmOf_51, nmOf_52, ↓reduceIte, reduceIte, Bool.false_eq_true, eq_self, true_or, or_true, true_and, and_true, false_or, or_false, Nat.reduceAdd, Nat.reduceSub, Nat.reduceEqDiff, Nat.reduceLT, Nat.reduceLeDiff, reduceCtorEq, true_implies, List.length_cons, List.length_nil, List.replicate, List.cons_append, List.nil_append, mrt_Jx4a65c_init_da8c8, mhh_Jx4a65c_init_da8c8, mow_Jx4a65c_init_da8c8, mnl_Jx4a65c_init_da8c8, DJx4a65c_init_da8c8_0, DJx4a65c_init_da8c8_1, DJx4a65c_init_da8c8_4, DJx4a65c_init_da8c8_5, DJx4a65c_init_da8c8_8, DJx4a65c_init_da8c8_11, ce_Jxc12de_init_da8c8, ↓ct_Jxc12de_init_da8c8, ycl_Jxc12de_init_da8c8, cX_nil mhh_Jx4a65c_init_da8c8]
  simp [hk, hq, kd_setI]
/-- a new list -/
theorem Lst_0 {G : GT} {h : Hp} {a : Nat} {f : Nat → Nat} (hk : kd h a = 1) (hf : fi h 0 2 a = i32 0) (he : kd h G.2.2.1.2.1 = 0) : Lst G (setR (setI h 0 0 a 0) 0 1 a (some G.2.2.1.2.1)) a G.2.2.1.2.1 0 0 f :=
  ⟨hk, by rw [fi_setR, fi_setI, if_neg (by omega)]; exact hf, by rw [fr_setR, if_pos ⟨rfl, rfl, rfl⟩], by omega, fun _ => ⟨rfl, he⟩, fun z => by omega, fun i hi => by omega⟩
def ct_J7_fill_53178 : Ct := fun As h Q _ => sR As fun a r => sI r fun v r => s0 r (kd h a = 21 ∧ ln h a ≤ 1000 ∧ ∀ h', (∀ b, kd h' b = kd h b) → (∀ c k b, fi h' c k b = fi h c k b) → (∀ c k b, fr h' c k b = fr h c k b) → (∀ b, ln h' b = ln h b) → (∀ b i, b ≠ a → ia h' b i = ia h b i) → (∀ b i, ja h' b i = ja h b i) → (∀ b i, ra h' b i = ra h b i) → (∀ i, i < ln h a → ia h' a i = v) → Q none h')
def ce_J7_fill_53178 : CE := (1, yJ7_fill_53178, MJ7_fill_53178, 2, 0, 0, 0, ct_J7_fill_53178)
set_option maxRecDepth 100000 in
set_option maxHeartbeats 4000000 in
theorem lp_fill (G : GT) {h0 : Hp} {a : Nat} {v : Int32} {Q : Option Value → Hp → Prop} {QX : String → Hp → Prop} (hl : ln h0 a ≤ 1000) (hq : ∀ h', (∀ b, kd h' b = kd h0 b) → (∀ c k b, fi h' c k b = fi h0 c k b) → (∀ c k b, fr h' c k b = fr h0 c k b) → (∀ b, ln h' b = ln h0 b) → (∀ b i, b ≠ a → ia h' b i = ia h0 b i) → (∀ b i, ja h' b i = ja h0 b i) → (∀ b i, ra h' b i = ra h0 b i) → (∀ i, i < ln h0 a → ia h' a i = v) → Q none h') :
    ∀ k n : Nat, n + k = ln h0 a → ∀ h, kd h a = 21 → (∀ b, kd h b = kd h0 b) → (∀ c k b, fi h c k b = fi h0 c k b) → (∀ c k b, fr h c k b = fr h0 c k b) → (∀ b, ln h b = ln h0 b) → (∀ b i, b ≠ a → ia h b i = ia h0 b i) → (∀ b i, ja h b i = ja h0 b i) → (∀ b i, ra h b i = ra h0 b i) → (∀ i, i < n → ia h a i = v) → Wp G MJ7_fill_53178 false 0 Q QX 5 [some (.ref a), some (.int v), some (.int (i32 n)), some (.int (i32 (ln h0 a)))] [] h (0, 0) := by
  intro k
  induction k with
  | zero =>
    intro n hn h hk f1 f2 f3 f4 f5 f6 f7 f8
    refine wpW (cs := []) (stop := [5]) (n := 200) (env_nil0 (env_hh rfl)) ?_
    simp only [↓wpN_S, ↓step_u, ↓stC_s, stC_s, ↓stF_u, stF_u, ↓stepI, lenI, ↓kN_u, isS, ↓gI_0, ↓gI_S, ↓gL_0, ↓gL_S, ↓gD_0, ↓gD_S, ↓gR_0, ↓gR_S, ↓sI_c, ↓sL_c, ↓sD_c, ↓sR_c, ↓s1_r, ↓s1_i, ↓vR_r, ↓vR_n, ↓s0_n, s0_n, ↓oR_u, ↓sP_u, ↓sPa_0, ↓sPa_S, ↓lkC_c, ↓callK_u, ↓cQ_s, ↓cQ_n, putL, putW, clr, kil, catS, catN, refF, booF, finF, nF, nmOf_0, nmOf_1, nmOf_2, nmOf_3, nmOf_4, nmOf_5, nmOf_6, nmOf_50, nmOf_51, nmOf_52, ↓reduceIte, reduceIte, Bool.false_eq_true, eq_self, true_or, or_true, true_and, and_true, false_or, or_false, Nat.reduceAdd, Nat.reduceSub, Nat.reduceEqDiff, Nat.reduceLT, Nat.reduceLeDiff, reduceCtorEq, true_implies, List.length_cons, List.length_nil, List.replicate, List.cons_append, List.nil_append, mrt_J7_fill_53178, mhh_J7_fill_53178, mow_J7_fill_53178, mnl_J7_fill_53178, DJ7_fill_53178_0, DJ7_fill_53178_1, DJ7_fill_53178_2, DJ7_fill_53178_3, DJ7_fill_53178_4, DJ7_fill_53178_5, DJ7_fill_53178_6, DJ7_fill_53178_7, DJ7_fill_53178_10, DJ7_fill_53178_11, DJ7_fill_53178_12, DJ7_fill_53178_13, DJ7_fill_53178_14, DJ7_fill_53178_17, DJ7_fill_53178_20]
    simp (disch := omega) only [i32_lit, i32_neg, i32_add, i32_mul, i32_sub, i32_nI, i32_lt, i32_le, i32_eq, inR_i, i32_clamp, i32_div, i32_max, i32_min, ite_max, ite_min, b2i_0, b2i_1, b2i_01, i32_toInt, tn_i, Int.toNat_natCast, em_t, true_and, and_true, Int.reduceToNat, Int.reduceLE, Int.reduceLT, Int.reduceAdd, Int.reduceMul, Int.reduceSub, Int.reduceNeg, Int.reduceEq, true_implies, not_true_eq_false, false_implies, not_false_eq_true]
    refine ⟨fun _ => hq h f1 f2 f3 f4 f5 f6 f7 (fun i hi => f8 i (by omega)), fun z => by omega⟩
  | succ k ih =>
    intro n hn h hk f1 f2 f3 f4 f5 f6 f7 f8
    have fl := f4 a
    refine wpW (cs := []) (stop := [5]) (n := 200) (env_nil0 (env_hh rfl)) ?_
    simp only [↓wpN_S, ↓step_u, ↓stC_s, stC_s, ↓stF_u, stF_u, ↓stepI, lenI, ↓kN_u, isS, ↓gI_0, ↓gI_S, ↓gL_0, ↓gL_S, ↓gD_0, ↓gD_S, ↓gR_0, ↓gR_S, ↓sI_c, ↓sL_c, ↓sD_c, ↓sR_c, ↓s1_r, ↓s1_i, ↓vR_r, ↓vR_n, ↓s0_n, s0_n, ↓oR_u, ↓sP_u, ↓sPa_0, ↓sPa_S, ↓lkC_c, ↓callK_u, ↓cQ_s, ↓cQ_n, putL, putW, clr, kil, catS, catN, refF, booF, finF, nF, nmOf_0, nmOf_1, nmOf_2, nmOf_3, nmOf_4, nmOf_5, nmOf_6, nmOf_50, nmOf_51, nmOf_52, ↓reduceIte, reduceIte, Bool.false_eq_true, eq_self, true_or, or_true, true_and, and_true, false_or, or_false, Nat.reduceAdd, Nat.reduceSub, Nat.reduceEqDiff, Nat.reduceLT, Nat.reduceLeDiff, reduceCtorEq, true_implies, List.length_cons, List.length_nil, List.replicate, List.cons_append, List.nil_append, mrt_J7_fill_53178, mhh_J7_fill_53178, mow_J7_fill_53178, mnl_J7_fill_53178, DJ7_fill_53178_0, DJ7_fill_53178_1, DJ7_fill_53178_2, DJ7_fill_53178_3, DJ7_fill_53178_4, DJ7_fill_53178_5, DJ7_fill_53178_6, DJ7_fill_53178_7, DJ7_fill_53178_10, DJ7_fill_53178_11, DJ7_fill_53178_12, DJ7_fill_53178_13, DJ7_fill_53178_14, DJ7_fill_53178_17, DJ7_fill_53178_20]
    simp (disch := omega) only [i32_lit, i32_neg, i32_add, i32_mul, i32_sub, i32_nI, i32_lt, i32_le, i32_eq, inR_i, i32_clamp, i32_div, i32_max, i32_min, ite_max, ite_min, b2i_0, b2i_1, b2i_01, i32_toInt, tn_i, Int.toNat_natCast, em_t, true_and, and_true, Int.reduceToNat, Int.reduceLE, Int.reduceLT, Int.reduceAdd, Int.reduceMul, Int.reduceSub, Int.reduceNeg, Int.reduceEq, true_implies, not_true_eq_false, false_implies, not_false_eq_true, hk, fl]
    refine ⟨fun z => by omega, fun z => ⟨by omega, ?_⟩⟩
    rw [show (n : Int) + 1 = ((n + 1 : Nat) : Int) by omega]
    refine ih (n + 1) (by omega) _ hk f1 f2 f3 f4 (fun b i hb => by rw [ia_setIA, if_neg (fun z => hb z.1)]; exact f5 b i hb) f6 f7 (fun i hi => ?_)
    rw [ia_setIA]
    by_cases e : i = n
    · rw [if_pos ⟨rfl, e⟩]
    · rw [if_neg (fun z => e z.2)]; exact f8 i (by omega)
set_option maxRecDepth 100000 in
set_option maxHeartbeats 4000000 in
theorem ok_J7_fill_53178 (G : GT) : OKm G yJ7_fill_53178 MJ7_fill_53178 0 0 0 ct_J7_fill_53178 := by
  refine mkOK (ini := false) (by decide) rfl (by first | exact fun _ => rfl | (intro hh; cases hh)) (fun As h Q QX hc => ?_)
  replace hc := sR_e hc; obtain ⟨a, r, rfl, hc⟩ := hc
  replace hc := sI_e hc; obtain ⟨v, r, rfl, hc⟩ := hc
  replace hc := s0_e hc; obtain ⟨rfl, hc⟩ := hc
  obtain ⟨hk, hl, hq⟩ := hc
  have hr := lp_fill (Q := Q) (QX := QX) G hl hq (ln h a) 0 (Nat.zero_add _) h hk (fun _ => rfl) (fun _ _ _ => rfl) (fun _ _ _ => rfl) (fun _ => rfl) (fun _ _ _ => rfl) (fun _ _ => rfl) (fun _ _ => rfl) (fun i hi => by omega)
  refine ⟨Nat.le_of_ble_eq_true rfl, ?_⟩
  simp only [ent, entL, catN, List.length_cons, List.length_nil, List.replicate, List.cons_append, List.nil_append, reduceIte, Nat.reduceEqDiff,  Nat.reduceAdd, Nat.reduceSub, mnl_J7_fill_53178]
  refine wpW (cs := []) (stop := [5]) (n := 200) (env_nil0 (env_hh rfl)) ?_
  simp only [↓wpN_S, ↓step_u, ↓stC_s, stC_s, ↓stF_u, stF_u, ↓stepI, lenI, ↓kN_u, isS, ↓gI_0, ↓gI_S, ↓gL_0, ↓gL_S, ↓gD_0, ↓gD_S, ↓gR_0, ↓gR_S, ↓sI_c, ↓sL_c, ↓sD_c, ↓sR_c, ↓s1_r, ↓s1_i, ↓vR_r, ↓vR_n, ↓s0_n, s0_n, ↓oR_u, ↓sP_u, ↓sPa_0, ↓sPa_S, ↓lkC_c, ↓callK_u, ↓cQ_s, ↓cQ_n, putL, putW, clr, kil, catS, catN, refF, booF, finF, nF, nmOf_0, nmOf_1, nmOf_2, nmOf_3, nmOf_4, nmOf_5, nmOf_6, nmOf_50, nmOf_51, nmOf_52, ↓reduceIte, reduceIte, Bool.false_eq_true, eq_self, true_or, or_true, true_and, and_true, false_or, or_false, Nat.reduceAdd, Nat.reduceSub, Nat.reduceEqDiff, Nat.reduceLT, Nat.reduceLeDiff, reduceCtorEq, true_implies, List.length_cons, List.length_nil, List.replicate, List.cons_append, List.nil_append, mrt_J7_fill_53178, mhh_J7_fill_53178, mow_J7_fill_53178, mnl_J7_fill_53178, DJ7_fill_53178_0, DJ7_fill_53178_1, DJ7_fill_53178_2, DJ7_fill_53178_3, DJ7_fill_53178_4, DJ7_fill_53178_5, DJ7_fill_53178_6, DJ7_fill_53178_7, DJ7_fill_53178_10, DJ7_fill_53178_11, DJ7_fill_53178_12, DJ7_fill_53178_13, DJ7_fill_53178_14, DJ7_fill_53178_17, DJ7_fill_53178_20]
  simp (disch := omega) only [i32_lit, i32_neg, i32_add, i32_mul, i32_sub, i32_nI, i32_lt, i32_le, i32_eq, inR_i, i32_clamp, i32_div, i32_max, i32_min, ite_max, ite_min, b2i_0, b2i_1, b2i_01, i32_toInt, tn_i, Int.toNat_natCast, em_t, true_and, and_true, Int.reduceToNat, Int.reduceLE, Int.reduceLT, Int.reduceAdd, Int.reduceMul, Int.reduceSub, Int.reduceNeg, Int.reduceEq, true_implies, not_true_eq_false, false_implies, not_false_eq_true, hk]
  exact ⟨fun z => absurd z (by decide), fun _ => ⟨by decide, by decide, hr⟩⟩

