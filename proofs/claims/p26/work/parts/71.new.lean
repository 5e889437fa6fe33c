/-! ===== the class: new buildings, new leases ===== -/
def bNew (h : Hp) (a : Nat) (n x y w d t o : Int32) : Hp := setI (setI (setI (setI (setI (setI (setI (setI h 1 7 a (i32 1)) 1 0 a n) 1 1 a x) 1 2 a y) 1 3 a w) 1 4 a d) 1 6 a t) 1 5 a o
def ct_X0_init : Ct := fun As h Q _ => sR As fun a r => sI r fun n r => sI r fun x r => sI r fun y r => sI r fun w r => sI r fun d r => sI r fun t r => sI r fun o r => s0 r (kd h a = 2 ∧ Q none (bNew h a n x y w d t o))
def ce_X0_init : CE := (2, yX0_init, MX0_init, 7, 1, 0, 0, ct_X0_init)
set_option maxRecDepth 100000 in
set_option maxHeartbeats 4000000 in
theorem ok_X0_init (G : GT) : OKm G yX0_init MX0_init 1 0 0 ct_X0_init := by
  refine mkOK (ini := true) (by decide) rfl (by first | exact fun _ => rfl | (intro hh; cases hh)) (fun As h Q QX hc => ?_)
  replace hc := sR_e hc; obtain ⟨a, r, rfl, hc⟩ := hc
  replace hc := sI_e hc; obtain ⟨n, r, rfl, hc⟩ := hc
  replace hc := sI_e hc; obtain ⟨x, r, rfl, hc⟩ := hc
  replace hc := sI_e hc; obtain ⟨y, r, rfl, hc⟩ := hc
  replace hc := sI_e hc; obtain ⟨w, r, rfl, hc⟩ := hc
  replace hc := sI_e hc; obtain ⟨d, r, rfl, hc⟩ := hc
  replace hc := sI_e hc; obtain ⟨t, r, rfl, hc⟩ := hc
  replace hc := sI_e hc; obtain ⟨o, r, rfl, hc⟩ := hc
  replace hc := s0_e hc; obtain ⟨rfl, hc⟩ := hc
  obtain ⟨hk, hq⟩ := hc
  unfold bNew at hq
  refine ⟨Nat.le_of_ble_eq_true rfl, ?_⟩
  simp only [ent, entL, catN, List.length_cons, List.length_nil, List.replicate, List.cons_append, List.nil_append, reduceIte, Nat.reduceEqDiff,  Nat.reduceAdd, Nat.reduceSub, mnl_X0_init]
  refine wpW (cs := [(1, ce_obj)]) (stop := []) (n := 200) (env_cons (ce_objOK (by decide +kernel)) (env_nil0 (env_hh rfl))) ?_
  simp only [↓wpN_S, ↓step_u, ↓stC_s, stC_s, ↓stF_u, stF_u, ↓stepI, lenI, ↓kN_u, isS, ↓gI_0, ↓gI_S, ↓gL_0, ↓gL_S, ↓gD_0, ↓gD_S, ↓gR_0, ↓gR_S, ↓sI_c, ↓sL_c, ↓sD_c, ↓sR_c, ↓s1_r, ↓s1_i, ↓vR_r, ↓vR_n, ↓s0_n, s0_n, ↓oR_u, ↓sP_u, ↓sPa_0, ↓sPa_S, ↓lkC_c, ↓callK_u, ↓cQ_s, ↓cQ_n, putL, putW, clr, kil, catS, catN, refF, booF, finF, nF, nmOf_0, nmOf_1, nmOf_2, nmOf_3, nmOf_4, nmOf_5, nmOf_6, nmOf_50, nmOf_51, nmOf_52, ↓reduceIte, reduceIte, Bool.false_eq_true, eq_self, true_or, or_true, true_and, and_true, false_or, or_false, Nat.reduceAdd, Nat.reduceSub, Nat.reduceEqDiff, Nat.reduceLT, Nat.reduceLeDiff, reduceCtorEq, true_implies, List.length_cons, List.length_nil, List.replicate, List.cons_append, List.nil_append, mrt_X0_init, mhh_X0_init, mow_X0_init, mnl_X0_init, DX0_init_0, DX0_init_1, DX0_init_4, DX0_init_5, DX0_init_6, DX0_init_9, DX0_init_10, DX0_init_11, DX0_init_14, DX0_init_15, DX0_init_16, DX0_init_19, DX0_init_20, DX0_init_21, DX0_init_24, DX0_init_25, DX0_init_27, DX0_init_30, DX0_init_31, DX0_init_33, DX0_init_36, DX0_init_37, DX0_init_39, DX0_init_42, DX0_init_43, DX0_init_45, DX0_init_48, ce_obj, cX_nil mhh_X0_init]
  simp (disch := omega) only [i32_lit, i32_neg, i32_add, i32_mul, i32_sub, i32_nI, i32_lt, i32_le, i32_eq, inR_i, i32_clamp, i32_div, i32_max, i32_min, ite_max, ite_min, b2i_0, b2i_1, b2i_01, i32_toInt, tn_i, Int.toNat_natCast, em_t, true_and, and_true, Int.reduceToNat, Int.reduceLE, Int.reduceLT, Int.reduceAdd, Int.reduceMul, Int.reduceSub, Int.reduceNeg, Int.reduceEq, true_implies, not_true_eq_false, false_implies, not_false_eq_true, hk, kd_setI, fi_setI, fr_setI, ln_setI, ia_setI, ja_setI, ra_setI, kd_setR, fi_setR, fr_setR, ln_setR, ia_setR, ja_setR, ra_setR, kd_setIA, fi_setIA, fr_setIA, ln_setIA, ia_setIA, ja_setIA, ra_setIA, kd_setLA, fi_setLA, fr_setLA, ln_setLA, ia_setLA, ja_setLA, ra_setLA, kd_setRA, fi_setRA, fr_setRA, ln_setRA, ia_setRA, ja_setRA, ra_setRA, kd_cpRA, fi_cpRA, fr_cpRA, ln_cpRA, ia_cpRA, ja_cpRA, ra_cpRA, kd_cpIA, fi_cpIA, fr_cpIA, ln_cpIA, ia_cpIA, ja_cpIA, ra_cpIA, kd_newO, fi_newO, fr_newO, ln_newO, ia_newO, ja_newO, ra_newO, kd_newA, fi_newA, fr_newA, ln_newA, ia_newA, ja_newA, ra_newA]
  exact hq
def lNew (h : Hp) (a : Nat) (n b t f l c p : Int32) : Hp := setI (setI (setI (setI (setI (setI (setI (setI h 3 7 a (i32 1)) 3 0 a n) 3 1 a b) 3 2 a t) 3 3 a f) 3 4 a l) 3 5 a c) 3 6 a p
def ct_X2_init : Ct := fun As h Q _ => sR As fun a r => sI r fun n r => sI r fun b r => sI r fun t r => sI r fun f r => sI r fun l r => sI r fun c r => sI r fun p r => s0 r (kd h a = 4 ∧ Q none (lNew h a n b t f l c p))
def ce_X2_init : CE := (2, yX2_init, MX2_init, 7, 1, 0, 0, ct_X2_init)
set_option maxRecDepth 100000 in
set_option maxHeartbeats 4000000 in
theorem ok_X2_init (G : GT) : OKm G yX2_init MX2_init 1 0 0 ct_X2_init := by
  refine mkOK (ini := true) (by decide) rfl (by first | exact fun _ => rfl | (intro hh; cases hh)) (fun As h Q QX hc => ?_)
  replace hc := sR_e hc; obtain ⟨a, r, rfl, hc⟩ := hc
  replace hc := sI_e hc; obtain ⟨n, r, rfl, hc⟩ := hc
  replace hc := sI_e hc; obtain ⟨b, r, rfl, hc⟩ := hc
  replace hc := sI_e hc; obtain ⟨t, r, rfl, hc⟩ := hc
  replace hc := sI_e hc; obtain ⟨f, r, rfl, hc⟩ := hc
  replace hc := sI_e hc; obtain ⟨l, r, rfl, hc⟩ := hc
  replace hc := sI_e hc; obtain ⟨c, r, rfl, hc⟩ := hc
  replace hc := sI_e hc; obtain ⟨p, r, rfl, hc⟩ := hc
  replace hc := s0_e hc; obtain ⟨rfl, hc⟩ := hc
  obtain ⟨hk, hq⟩ := hc
  unfold lNew at hq
  refine ⟨Nat.le_of_ble_eq_true rfl, ?_⟩
  simp only [ent, entL, catN, List.length_cons, List.length_nil, List.replicate, List.cons_append, List.nil_append, reduceIte, Nat.reduceEqDiff,  Nat.reduceAdd, Nat.reduceSub, mnl_X2_init]
  refine wpW (cs := [(1, ce_obj)]) (stop := []) (n := 200) (env_cons (ce_objOK (by decide +kernel)) (env_nil0 (env_hh rfl))) ?_
  simp only [↓wpN_S, ↓step_u, ↓stC_s, stC_s, ↓stF_u, stF_u, ↓stepI, lenI, ↓kN_u, isS, ↓gI_0, ↓gI_S, ↓gL_0, ↓gL_S, ↓gD_0, ↓gD_S, ↓gR_0, ↓gR_S, ↓sI_c, ↓sL_c, ↓sD_c, ↓sR_c, ↓s1_r, ↓s1_i, ↓vR_r, ↓vR_n, ↓s0_n, s0_n, ↓oR_u, ↓sP_u, ↓sPa_0, ↓sPa_S, ↓lkC_c, ↓callK_u, ↓cQ_s, ↓cQ_n, putL, putW, clr, kil, catS, catN, refF, booF, finF, nF, nmOf_0, nmOf_1, nmOf_2, nmOf_3, nmOf_4, nmOf_5, nmOf_6, nmOf_50, nmOf_51, nmOf_52, ↓reduceIte, reduceIte, Bool.false_eq_true, eq_self, true_or, or_true, true_and, and_true, false_or, or_false, Nat.reduceAdd, Nat.reduceSub, Nat.reduceEqDiff, Nat.reduceLT, Nat.reduceLeDiff, reduceCtorEq, true_implies, List.length_cons, List.length_nil, List.replicate, List.cons_append, List.nil_append, mrt_X2_init, mhh_X2_init, mow_X2_init, mnl_X2_init, DX2_init_0, DX2_init_1, DX2_init_4, DX2_init_5, DX2_init_6, DX2_init_9, DX2_init_10, DX2_init_11, DX2_init_14, DX2_init_15, DX2_init_16, DX2_init_19, DX2_init_20, DX2_init_21, DX2_init_24, DX2_init_25, DX2_init_27, DX2_init_30, DX2_init_31, DX2_init_33, DX2_init_36, DX2_init_37, DX2_init_39, DX2_init_42, DX2_init_43, DX2_init_45, DX2_init_48, ce_obj, cX_nil mhh_X2_init]
  simp (disch := omega) only [i32_lit, i32_neg, i32_add, i32_mul, i32_sub, i32_nI, i32_lt, i32_le, i32_eq, inR_i, i32_clamp, i32_div, i32_max, i32_min, ite_max, ite_min, b2i_0, b2i_1, b2i_01, i32_toInt, tn_i, Int.toNat_natCast, em_t, true_and, and_true, Int.reduceToNat, Int.reduceLE, Int.reduceLT, Int.reduceAdd, Int.reduceMul, Int.reduceSub, Int.reduceNeg, Int.reduceEq, true_implies, not_true_eq_false, false_implies, not_false_eq_true, hk, kd_setI, fi_setI, fr_setI, ln_setI, ia_setI, ja_setI, ra_setI, kd_setR, fi_setR, fr_setR, ln_setR, ia_setR, ja_setR, ra_setR, kd_setIA, fi_setIA, fr_setIA, ln_setIA, ia_setIA, ja_setIA, ra_setIA, kd_setLA, fi_setLA, fr_setLA, ln_setLA, ia_setLA, ja_setLA, ra_setLA, kd_setRA, fi_setRA, fr_setRA, ln_setRA, ia_setRA, ja_setRA, ra_setRA, kd_cpRA, fi_cpRA, fr_cpRA, ln_cpRA, ia_cpRA, ja_cpRA, ra_cpRA, kd_cpIA, fi_cpIA, fr_cpIA, ln_cpIA, ia_cpIA, ja_cpIA, ra_cpIA, kd_newO, fi_newO, fr_newO, ln_newO, ia_newO, ja_newO, ra_newO, kd_newA, fi_newA, fr_newA, ln_newA, ia_newA, ja_newA, ra_newA]
  exact hq

