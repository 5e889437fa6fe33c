/-! ===== ArrayList: size, get ===== -/
def ct_Jx4a65c_size_8abf5 : Ct := fun As h Q _ => sR As fun a r => s0 r (kd h a = 1 ∧ Q (some (.int (fi h 0 2 a))) h)
def ce_Jx4a65c_size_8abf5 : CE := (0, yJx4a65c_size_8abf5, MJx4a65c_size_8abf5, 0, 0, 0, 0, ct_Jx4a65c_size_8abf5)
set_option maxRecDepth 100000 in
set_option maxHeartbeats 4000000 in
theorem ok_Jx4a65c_size_8abf5 (G : GT) : OKm G yJx4a65c_size_8abf5 MJx4a65c_size_8abf5 0 0 0 ct_Jx4a65c_size_8abf5 := by
  refine mkOK (ini := false) (by decide) rfl (by first | exact fun _ => rfl | (intro hh; cases hh)) (fun As h Q QX hc => ?_)
  replace hc := sR_e hc; obtain ⟨a, r, rfl, hc⟩ := hc
  replace hc := s0_e hc; obtain ⟨rfl, hc⟩ := hc
  obtain ⟨hk, hq⟩ := hc
  refine ⟨Nat.le_of_ble_eq_true rfl, ?_⟩
  simp only [ent, entL, catN, List.length_cons, List.length_nil, List.replicate, List.cons_append, List.nil_append, reduceIte, Nat.reduceEqDiff,  Nat.reduceAdd, Nat.reduceSub, mnl_Jx4a65c_size_8abf5]
  refine wpW (cs := []) (stop := []) (n := 200) (env_nil0 (env_hh rfl)) ?_
  simp only [↓wpN_S, ↓step_u, ↓stC_s, stC_s, ↓stF_u, stF_u, ↓stepI, lenI, ↓kN_u, isS, ↓gI_0, ↓gI_S, ↓gL_0, ↓gL_S, ↓gD_0, ↓gD_S, ↓gR_0, ↓gR_S, ↓sI_c, ↓sL_c, ↓sD_c, ↓sR_c, ↓s1_r, ↓s1_i, ↓vR_r, ↓vR_n, ↓s0_n, s0_n, ↓oR_u, ↓sP_u, ↓sPa_0, ↓sPa_S, ↓lkC_c, ↓callK_u, ↓cQ_s, ↓cQ_n, putL, putW, clr, kil, catS, catN, refF, booF, finF, nF, nmOf_0, nmOf_1, nmOf_2, nmOf_3, nmOf_4, nmOf_5, nmOf_6, nmOf_50, nmOf_51, nmOf_52, ↓reduceIte, reduceIte, Bool.false_eq_true, eq_self, true_or, or_true, true_and, and_true, false_or, or_false, Nat.reduceAdd, Nat.reduceSub, Nat.reduceEqDiff, Nat.reduceLT, Nat.reduceLeDiff, reduceCtorEq, true_implies, List.length_cons, List.length_nil, List.replicate, List.cons_append, List.nil_append, mrt_Jx4a65c_size_8abf5, mhh_Jx4a65c_size_8abf5, mow_Jx4a65c_size_8abf5, mnl_Jx4a65c_size_8abf5, DJx4a65c_size_8abf5_0, DJx4a65c_size_8abf5_1, DJx4a65c_size_8abf5_4]
  simp [hk, hq]
/-- the element at i of the list's array -/
def ct_Jx4a65c_elementData_915e3 : Ct := fun As h Q _ => sR As fun a r => sI r fun i r => s0 r (kd h a = 1 ∧ ∃ q, fr h 0 1 a = some q ∧ kd h q = 24 ∧ inR i (ln h q) ∧ ∃ w, ra h q i.toNatClampNeg = some w ∧ Q (some (.ref w)) h)
def ce_Jx4a65c_elementData_915e3 : CE := (0, yJx4a65c_elementData_915e3, MJx4a65c_elementData_915e3, 1, 0, 0, 0, ct_Jx4a65c_elementData_915e3)
set_option maxRecDepth 100000 in
set_option maxHeartbeats 4000000 in
theorem ok_Jx4a65c_elementData_915e3 (G : GT) : OKm G yJx4a65c_elementData_915e3 MJx4a65c_elementData_915e3 0 0 0 ct_Jx4a65c_elementData_915e3 := by
  refine mkOK (ini := false) (by decide) rfl (by first | exact fun _ => rfl | (intro hh; cases hh)) (fun As h Q QX hc => ?_)
  replace hc := sR_e hc; obtain ⟨a, r, rfl, hc⟩ := hc
  replace hc := sI_e hc; obtain ⟨i, r, rfl, hc⟩ := hc
  replace hc := s0_e hc; obtain ⟨rfl, hc⟩ := hc
  obtain ⟨hk, q, h1, h2, h3, w, h4, hq⟩ := hc
  refine ⟨Nat.le_of_ble_eq_true rfl, ?_⟩
  simp only [ent, entL, catN, List.length_cons, List.length_nil, List.replicate, List.cons_append, List.nil_append, reduceIte, Nat.reduceEqDiff,  Nat.reduceAdd, Nat.reduceSub, mnl_Jx4a65c_elementData_915e3]
  refine wpW (cs := []) (stop := []) (n := 200) (env_nil0 (env_hh rfl)) ?_
  simp only [↓wpN_S, ↓step_u, ↓stC_s, stC_s, ↓stF_u, stF_u, ↓stepI, lenI, ↓kN_u, isS, ↓gI_0, ↓gI_S, ↓gL_0, ↓gL_S, ↓gD_0, ↓gD_S, ↓gR_0, ↓gR_S, ↓sI_c, ↓sL_c, ↓sD_c, ↓sR_c, ↓s1_r, ↓s1_i, ↓vR_r, ↓vR_n, ↓s0_n, s0_n, ↓oR_u, ↓sP_u, ↓sPa_0, ↓sPa_S, ↓lkC_c, ↓callK_u, ↓cQ_s, ↓cQ_n, putL, putW, clr, kil, catS, catN, refF, booF, finF, nF, nmOf_0, nmOf_1, nmOf_2, nmOf_3, nmOf_4, nmOf_5, nmOf_6, nmOf_50, nmOf_51, nmOf_52, ↓reduceIte, reduceIte, Bool.false_eq_true, eq_self, true_or, or_true, true_and, and_true, false_or, or_false, Nat.reduceAdd, Nat.reduceSub, Nat.reduceEqDiff, Nat.reduceLT, Nat.reduceLeDiff, reduceCtorEq, true_implies, List.length_cons, List.length_nil, List.replicate, List.cons_append, List.nil_append, mrt_Jx4a65c_elementData_915e3, mhh_Jx4a65c_elementData_915e3, mow_Jx4a65c_elementData_915e3, mnl_Jx4a65c_elementData_915e3, DJx4a65c_elementData_915e3_0, DJx4a65c_elementData_915e3_1, DJx4a65c_elementData_915e3_4, DJx4a65c_elementData_915e3_5, DJx4a65c_elementData_915e3_6]
  simp [hk, h1, h2, h3, h4, hq]
def ct_J3_checkIndex_8e157 : Ct := fun As h Q _ => sI As fun i r => sI r fun n r => ∃ r0, r = .null :: r0 ∧ s0 r0 (¬ i < 0 ∧ i < n ∧ Q (some (.int i)) h)
def ce_J3_checkIndex_8e157 : CE := (1, yJ3_checkIndex_8e157, MJ3_checkIndex_8e157, 3, 0, 0, 0, ct_J3_checkIndex_8e157)
set_option maxRecDepth 100000 in
set_option maxHeartbeats 4000000 in
theorem ok_J3_checkIndex_8e157 (G : GT) : OKm G yJ3_checkIndex_8e157 MJ3_checkIndex_8e157 0 0 0 ct_J3_checkIndex_8e157 := by
  refine mkOK (ini := false) (by decide) rfl (by first | exact fun _ => rfl | (intro hh; cases hh)) (fun As h Q QX hc => ?_)
  replace hc := sI_e hc; obtain ⟨i, r, rfl, hc⟩ := hc
  replace hc := sI_e hc; obtain ⟨n, r, rfl, hc⟩ := hc
  obtain ⟨r0, rfl, hc⟩ := hc
  replace hc := s0_e hc; obtain ⟨rfl, h1, h2, hq⟩ := hc
  refine ⟨Nat.le_of_ble_eq_true rfl, ?_⟩
  simp only [ent, entL, catN, List.length_cons, List.length_nil, List.replicate, List.cons_append, List.nil_append, reduceIte, Nat.reduceEqDiff,  Nat.reduceAdd, Nat.reduceSub, mnl_J3_checkIndex_8e157]
  refine wpW (cs := []) (stop := []) (n := 200) (env_nil0 (env_hh rfl)) ?_
  simp only [↓wpN_S, ↓step_u, ↓stC_s, stC_s, ↓stF_u, stF_u, ↓stepI, lenI, ↓kN_u, isS, ↓gI_0, ↓gI_S, ↓gL_0, ↓gL_S, ↓gD_0, ↓gD_S, ↓gR_0, ↓gR_S, ↓sI_c, ↓sL_c, ↓sD_c, ↓sR_c, ↓s1_r, ↓s1_i, ↓vR_r, ↓vR_n, ↓s0_n, s0_n, ↓oR_u, ↓sP_u, ↓sPa_0, ↓sPa_S, ↓lkC_c, ↓callK_u, ↓cQ_s, ↓cQ_n, putL, putW, clr, kil, catS, catN, refF, booF, finF, nF, nmOf_0, nmOf_1, nmOf_2, nmOf_3, nmOf_4, nmOf_5, nmOf_6, nmOf_50, nmOf_51, nmOf_52, ↓reduceIte, reduceIte, Bool.false_eq_true, eq_self, true_or, or_true, true_and, and_true, false_or, or_false, Nat.reduceAdd, Nat.reduceSub, Nat.reduceEqDiff, Nat.reduceLT, Nat.reduceLeDiff, reduceCtorEq, true_implies, List.length_cons, List.length_nil, List.replicate, List.cons_append, List.nil_append, mrt_J3_checkIndex_8e157, mhh_J3_checkIndex_8e157, mow_J3_checkIndex_8e157, mnl_J3_checkIndex_8e157, DJ3_checkIndex_8e157_0, DJ3_checkIndex_8e157_1, DJ3_checkIndex_8e157_4, DJ3_checkIndex_8e157_5, DJ3_checkIndex_8e157_6, DJ3_checkIndex_8e157_9, DJ3_checkIndex_8e157_10, DJ3_checkIndex_8e157_11, DJ3_checkIndex_8e157_12, DJ3_checkIndex_8e157_15, DJ3_checkIndex_8e157_16, DJ3_checkIndex_8e157_17]
  simp [h1, h2, hq]
def ct_J15_checkIndex_7cf53 : Ct := fun As h Q _ => sI As fun i r => sI r fun n r => s0 r (¬ i < 0 ∧ i < n ∧ Q (some (.int i)) h)
def ce_J15_checkIndex_7cf53 : CE := (1, yJ15_checkIndex_7cf53, MJ15_checkIndex_7cf53, 2, 1, 0, 0, ct_J15_checkIndex_7cf53)
set_option maxRecDepth 100000 in
set_option maxHeartbeats 4000000 in
theorem ok_J15_checkIndex_7cf53 (G : GT) : OKm G yJ15_checkIndex_7cf53 MJ15_checkIndex_7cf53 1 0 0 ct_J15_checkIndex_7cf53 := by
  refine mkOK (ini := false) (by decide) rfl (by first | exact fun _ => rfl | (intro hh; cases hh)) (fun As h Q QX hc => ?_)
  replace hc := sI_e hc; obtain ⟨i, r, rfl, hc⟩ := hc
  replace hc := sI_e hc; obtain ⟨n, r, rfl, hc⟩ := hc
  replace hc := s0_e hc; obtain ⟨rfl, hc⟩ := hc
  obtain ⟨h1, h2, hq⟩ := hc
  refine ⟨Nat.le_of_ble_eq_true rfl, ?_⟩
  simp only [ent, entL, catN, List.length_cons, List.length_nil, List.replicate, List.cons_append, List.nil_append, reduceIte, Nat.reduceEqDiff,  Nat.reduceAdd, Nat.reduceSub, mnl_J15_checkIndex_7cf53]
  refine wpW (cs := [(105, ce_J3_checkIndex_8e157)]) (stop := []) (n := 200) (env_cons (ceS (by decide +kernel) ⟨by decide, by decide, by decide +kernel⟩ (by decide) (ok_J3_checkIndex_8e157 G)) (env_nil0 (env_hh rfl))) ?_
  simp only [↓wpN_S, ↓step_u, ↓stC_s, stC_s, ↓stF_u, stF_u, ↓stepI, lenI, ↓kN_u, isS, ↓gI_0, ↓gI_S, ↓gL_0, ↓gL_S, ↓gD_0, ↓gD_S, ↓gR_0, ↓gR_S, ↓sI_c, ↓sL_c, ↓sD_c, ↓sR_c, ↓s1_r, ↓s1_i, ↓vR_r, ↓vR_n, ↓s0_n, s0_n, ↓oR_u, ↓sP_u, ↓sPa_0, ↓sPa_S, ↓lkC_c, ↓callK_u, ↓cQ_s, ↓cQ_n, putL, putW, clr, kil, catS, catN, refF, booF, finF, nF, nmOf_0, nmOf_1, nmOf_2, nmOf_3, nmOf_4, nmOf_5, nmOf_6, nmOf_50, nmOf_51, nmOf_52, ↓reduceIte, reduceIte, Bool.false_eq_true, eq_self, true_or, or_true, true_and, and_true, false_or, or_false, Nat.reduceAdd, Nat.reduceSub, Nat.reduceEqDiff, Nat.reduceLT, Nat.reduceLeDiff, reduceCtorEq, true_implies, List.length_cons, List.length_nil, List.replicate, List.cons_append, List.nil_append, mrt_J15_checkIndex_7cf53, mhh_J15_checkIndex_7cf53, mow_J15_checkIndex_7cf53, mnl_J15_checkIndex_7cf53, DJ15_checkIndex_7cf53_0, DJ15_checkIndex_7cf53_1, DJ15_checkIndex_7cf53_2, DJ15_checkIndex_7cf53_3, DJ15_checkIndex_7cf53_6, ce_J3_checkIndex_8e157, ↓ct_J3_checkIndex_8e157, ycl_J3_checkIndex_8e157, cX_nil mhh_J15_checkIndex_7cf53]
  simp [h1, h2, hq, s0_n]
def ct_Jx4a65c_get_915e3 : Ct := fun As h Q _ => sR As fun a r => sI r fun i r => s0 r (kd h a = 1 ∧ ¬ i < 0 ∧ i < fi h 0 2 a ∧ ∃ q, fr h 0 1 a = some q ∧ kd h q = 24 ∧ inR i (ln h q) ∧ ∃ w, ra h q i.toNatClampNeg = some w ∧ Q (some (.ref w)) h)
def ce_Jx4a65c_get_915e3 : CE := (0, yJx4a65c_get_915e3, MJx4a65c_get_915e3, 1, 2, 0, 0, ct_Jx4a65c_get_915e3)
set_option maxRecDepth 100000 in
set_option maxHeartbeats 4000000 in
theorem ok_Jx4a65c_get_915e3 (G : GT) : OKm G yJx4a65c_get_915e3 MJx4a65c_get_915e3 2 0 0 ct_Jx4a65c_get_915e3 := by
  refine mkOK (ini := false) (by decide) rfl (by first | exact fun _ => rfl | (intro hh; cases hh)) (fun As h Q QX hc => ?_)
  replace hc := sR_e hc; obtain ⟨a, r, rfl, hc⟩ := hc
  replace hc := sI_e hc; obtain ⟨i, r, rfl, hc⟩ := hc
  replace hc := s0_e hc; obtain ⟨rfl, hc⟩ := hc
  obtain ⟨hk, h5, h6, q, h1, h2, h3, w, h4, hq⟩ := hc
  refine ⟨Nat.le_of_ble_eq_true rfl, ?_⟩
  simp only [ent, entL, catN, List.length_cons, List.length_nil, List.replicate, List.cons_append, List.nil_append, reduceIte, Nat.reduceEqDiff,  Nat.reduceAdd, Nat.reduceSub, mnl_Jx4a65c_get_915e3]
  refine wpW (cs := [(118, ce_J15_checkIndex_7cf53), (123, ce_Jx4a65c_elementData_915e3)]) (stop := []) (n := 200) (env_cons (ceS (by decide +kernel) ⟨by decide, by decide, by decide +kernel⟩ (by decide) (ok_J15_checkIndex_7cf53 G)) (env_cons (ceV (by decide +kernel) ⟨by decide, by decide, by decide +kernel⟩ (by decide) rfl (ok_Jx4a65c_elementData_915e3 G)) (env_nil0 (env_hh rfl)))) ?_
  simp only [↓wpN_S, ↓step_u, ↓stC_s, stC_s, ↓stF_u, stF_u, ↓stepI, lenI, ↓kN_u, isS, ↓gI_0, ↓gI_S, ↓gL_0, ↓gL_S, ↓gD_0, ↓gD_S, ↓gR_0, ↓gR_S, ↓sI_c, ↓sL_c, ↓sD_c, ↓sR_c, ↓s1_r, ↓s1_i, ↓vR_r, ↓vR_n, ↓s0_n, s0_n, ↓oR_u, ↓sP_u, ↓sPa_0, ↓sPa_S, ↓lkC_c, ↓callK_u, ↓cQ_s, ↓cQ_n, putL, putW, clr, kil, catS, catN, refF, booF, finF, nF, nmOf_0, nmOf_1, nmOf_2, nmOf_3, nmOf_4, nmOf_5, nmOf_6, nmOf_50, nmOf_51, nmOf_52, ↓reduceIte, reduceIte, Bool.false_eq_true, eq_self, true_or, or_true, true_and, and_true, false_or, or_false, Nat.reduceAdd, Nat.reduceSub, Nat.reduceEqDiff, Nat.reduceLT, Nat.reduceLeDiff, reduceCtorEq, true_implies, List.length_cons, List.length_nil, List.replicate, List.cons_append, List.nil_append, mrt_Jx4a65c_get_915e3, mhh_Jx4a65c_get_915e3, mow_Jx4a65c_get_915e3, mnl_Jx4a65c_get_915e3, DJx4a65c_get_915e3_0, DJx4a65c_get_915e3_1, DJx4a65c_get_915e3_2, DJx4a65c_get_915e3_5, DJx4a65c_get_915e3_8, DJx4a65c_get_915e3_9, DJx4a65c_get_915e3_10, DJx4a65c_get_915e3_11, DJx4a65c_get_915e3_14, ce_J15_checkIndex_7cf53, ↓ct_J15_checkIndex_7cf53, ycl_J15_checkIndex_7cf53, ce_Jx4a65c_elementData_915e3, ↓ct_Jx4a65c_elementData_915e3, ycl_Jx4a65c_elementData_915e3, cX_nil mhh_Jx4a65c_get_915e3]
  simp [hk, h5, h6, h1, h2, h3, h4, hq, nmOf]

