/-! ===== the law: its calls of the class, on ===== -/
/-! cellOf -/
theorem hhk_L_cellOf : hhOK (mow ML_cellOf) (mhh ML_cellOf) := show hhOK RL [(0, 12, 15, 21)] from (hhOK_c 52 (by decide +kernel) hhOK_nil)
theorem cX_L_cellOf_IOB {PX : String → Hp → Prop} {K : Nat → Ls → List Value → Hp → Nat × Nat → Prop} {ls : Ls} {b : Nat × Nat} {h : Hp} : cX ML_cellOf PX K 7 ls b IOB h = ∀ a, K 15 ls [.ref a] h b := cX_some (by rw [mhh_L_cellOf]; exact List.cons_ne_nil _ _) (by decide +kernel)
def ct_L_cellOf (G : GT) (D : WD) (S : SS) : Ct := fun As h Q _ => sR As fun cx r => sI r fun l r => sI r fun hr r => sI r fun ix r => sR r fun ou r => s0 r (CI G h D S ∧ WW S ∧ cx = D 0 0 ∧ kd h ou = 23 ∧ ln h ou = 1 ∧ ∀ kk vv T, OC_cellOf S l hr ix kk vv T → nxL G h D S ou Q kk vv T)
def ce_L_cellOf (G : GT) (D : WD) (S : SS) : CE := (1, yL_cellOf, ML_cellOf, 5, 11, 4, 24, ct_L_cellOf G D S)
set_option maxRecDepth 100000 in
set_option maxHeartbeats 4000000 in
theorem ok_L_cellOf (G : GT) (G : GT) (D : WD) (S : SS) (hW : WF S) : OKm G yL_cellOf ML_cellOf 11 4 24 (ct_L_cellOf G D S) := by
  refine mkOK (ini := false) (by decide) rfl (by first | exact fun _ => rfl | (intro hh; cases hh)) (fun As h Q QX hc => ?_)
  replace hc := sR_e hc; obtain ⟨cx, r, rfl, hc⟩ := hc
  replace hc := sI_e hc; obtain ⟨l, r, rfl, hc⟩ := hc
  replace hc := sI_e hc; obtain ⟨hr, r, rfl, hc⟩ := hc
  replace hc := sI_e hc; obtain ⟨ix, r, rfl, hc⟩ := hc
  replace hc := sR_e hc; obtain ⟨ou, r, rfl, hc⟩ := hc
  replace hc := s0_e hc; obtain ⟨rfl, hc⟩ := hc
  obtain ⟨hI, hw, rfl, ko, lo, hq⟩ := hc
  have hD := hI.cd
  have k0 : kd h (D 0 0) = 6 := hI.1.1.1
  refine ⟨Nat.le_of_ble_eq_true rfl, ?_⟩
  simp only [ent, entL, catN, List.length_cons, List.length_nil, List.replicate, List.cons_append, List.nil_append, reduceIte, Nat.reduceEqDiff,  Nat.reduceAdd, Nat.reduceSub, mnl_L_cellOf]
  refine wpW (cs := [(62, ce_X4_cellOf_t G D S)]) (stop := [10]) (n := 200) (env_cons (ceV (by decide +kernel) ⟨by decide, by decide, by decide +kernel⟩ (by decide) rfl (ok_X4_cellOf_t G G D S hW)) (env_nil0 hhk_L_cellOf)) ?_
  simp only [↓wpN_S, ↓step_u, ↓stC_s, stC_s, ↓stF_u, stF_u, ↓stepI, lenI, ↓kN_u, isS, ↓gI_0, ↓gI_S, ↓gL_0, ↓gL_S, ↓gD_0, ↓gD_S, ↓gR_0, ↓gR_S, ↓sI_c, ↓sL_c, ↓sD_c, ↓sR_c, ↓s1_r, ↓s1_i, ↓vR_r, ↓vR_n, ↓s0_n, s0_n, ↓oR_u, ↓sP_u, ↓sPa_0, ↓sPa_S, ↓lkC_c, ↓callK_u, ↓cQ_s, ↓cQ_n, putL, putW, clr, kil, catS, catN, refF, booF, finF, nF, nmOf_0, nmOf_1, nmOf_2, nmOf_3, nmOf_4, nmOf_5, nmOf_6, nmOf_50, nmOf_51, nmOf_52, ↓reduceIte, reduceIte, Bool.false_eq_true, eq_self, true_or, or_true, true_and, and_true, false_or, or_false, Nat.reduceAdd, Nat.reduceSub, Nat.reduceEqDiff, Nat.reduceLT, Nat.reduceLeDiff, reduceCtorEq, true_implies, List.length_cons, List.length_nil, List.replicate, List.cons_append, List.nil_append, mrt_L_cellOf, mhh_L_cellOf, mow_L_cellOf, mnl_L_cellOf, DL_cellOf_0, DL_cellOf_2, DL_cellOf_3, DL_cellOf_4, DL_cellOf_5, DL_cellOf_6, DL_cellOf_7, DL_cellOf_10, DL_cellOf_11, DL_cellOf_12, DL_cellOf_15, DL_cellOf_17, DL_cellOf_18, DL_cellOf_19, DL_cellOf_20, ce_X4_cellOf_t, ↓ct_X4_cellOf_t, ycl_X4_cellOf, nxc, nxr, cX_L_cellOf_IOB]
  simp only [k0, hI, hD, hw, nmOf_5, Nat.reduceSub, Nat.reduceLT, Nat.reduceEqDiff, ne_eq, not_false_eq_true, true_and, and_true]
  refine ⟨fun hv => ?_, fun he => ?_⟩
  · intro h' f hI'
    have f' : Fr h h' (fun a => WO D S a ∨ a = ou) := f.up (fun a q => Or.inl (WK.wo a q))
    have ko' : kd h' ou = 23 := (f' ou (by omega)).1.1.trans ko
    have lo' : ln h' ou = 1 := (f' ou (by omega)).1.2.trans lo
    refine Wp.z ?_
    refine wpW (cs := [(62, ce_X4_cellOf_t G D S)]) (stop := []) (n := 200) (env_cons (ceV (by decide +kernel) ⟨by decide, by decide, by decide +kernel⟩ (by decide) rfl (ok_X4_cellOf_t G G D S hW)) (env_nil0 hhk_L_cellOf)) ?_
    simp only [↓wpN_S, ↓step_u, ↓stC_s, stC_s, ↓stF_u, stF_u, ↓stepI, lenI, ↓kN_u, isS, ↓gI_0, ↓gI_S, ↓gL_0, ↓gL_S, ↓gD_0, ↓gD_S, ↓gR_0, ↓gR_S, ↓sI_c, ↓sL_c, ↓sD_c, ↓sR_c, ↓s1_r, ↓s1_i, ↓vR_r, ↓vR_n, ↓s0_n, s0_n, ↓oR_u, ↓sP_u, ↓sPa_0, ↓sPa_S, ↓lkC_c, ↓callK_u, ↓cQ_s, ↓cQ_n, putL, putW, clr, kil, catS, catN, refF, booF, finF, nF, nmOf_0, nmOf_1, nmOf_2, nmOf_3, nmOf_4, nmOf_5, nmOf_6, nmOf_50, nmOf_51, nmOf_52, ↓reduceIte, reduceIte, Bool.false_eq_true, eq_self, true_or, or_true, true_and, and_true, false_or, or_false, Nat.reduceAdd, Nat.reduceSub, Nat.reduceEqDiff, Nat.reduceLT, Nat.reduceLeDiff, reduceCtorEq, true_implies, List.length_cons, List.length_nil, List.replicate, List.cons_append, List.nil_append, mrt_L_cellOf, mhh_L_cellOf, mow_L_cellOf, mnl_L_cellOf, DL_cellOf_0, DL_cellOf_2, DL_cellOf_3, DL_cellOf_4, DL_cellOf_5, DL_cellOf_6, DL_cellOf_7, DL_cellOf_10, DL_cellOf_11, DL_cellOf_12, DL_cellOf_15, DL_cellOf_17, DL_cellOf_18, DL_cellOf_19, DL_cellOf_20, ce_X4_cellOf_t, ↓ct_X4_cellOf_t, ycl_X4_cellOf, nxc, nxr, cX_L_cellOf_IOB]
    simp (disch := omega) only [i32_lit, i32_neg, i32_add, i32_mul, i32_sub, i32_nI, i32_lt, i32_le, i32_eq, inR_i, i32_clamp, i32_div, i32_max, i32_min, ite_max, ite_min, b2i_0, b2i_1, b2i_01, i32_toInt, tn_i, Int.toNat_natCast, em_t, true_and, and_true, Int.reduceToNat, Int.reduceLE, Int.reduceLT, Int.reduceAdd, Int.reduceMul, Int.reduceSub, Int.reduceNeg, Int.reduceEq, true_implies, not_true_eq_false, false_implies, not_false_eq_true, ko', lo']
    repeat (refine And.intro (by first | omega | decide) ?_)
    exact hq 0 _ _ (Or.inl ⟨hv, rfl, rfl, rfl⟩) _ D rfl (f'.tr (Fr.sL (Or.inr rfl))) (fun _ => Or.inl) hI'.la (fun _ => ja_o)
  · exact fun _ => hq 1 0 S (Or.inr ⟨he, rfl, rfl⟩) h D rfl Fr.rf (fun _ => Or.inl) hI (fun z => absurd z (by decide))
/-! pass -/
theorem hhk_L_pass : hhOK (mow ML_pass) (mhh ML_pass) := show hhOK RL [(0, 9, 12, 13), (0, 9, 15, 15)] from (hhOK_c 51 (by decide +kernel) (hhOK_c 50 (by decide +kernel) hhOK_nil))
theorem cX_L_pass_IAE {PX : String → Hp → Prop} {K : Nat → Ls → List Value → Hp → Nat × Nat → Prop} {ls : Ls} {b : Nat × Nat} {h : Hp} : cX ML_pass PX K 4 ls b IAE h = ∀ a, K 12 ls [.ref a] h b := cX_some (by rw [mhh_L_pass]; exact List.cons_ne_nil _ _) (by decide +kernel)
theorem cX_L_pass_ISE {PX : String → Hp → Prop} {K : Nat → Ls → List Value → Hp → Nat × Nat → Prop} {ls : Ls} {b : Nat × Nat} {h : Hp} : cX ML_pass PX K 4 ls b ISE h = ∀ a, K 15 ls [.ref a] h b := cX_some (by rw [mhh_L_pass]; exact List.cons_ne_nil _ _) (by decide +kernel)
def ct_L_pass (G : GT) (D : WD) (S : SS) : Ct := fun As h Q _ => sR As fun cx r => sI r fun d r => sR r fun ou r => s0 r (CI G h D S ∧ WW S ∧ cx = D 0 0 ∧ kd h ou = 23 ∧ ln h ou = 1 ∧ ∀ kk vv T, OC_pass S d kk vv T → nxL G h D S ou Q kk vv T)
def ce_L_pass (G : GT) (D : WD) (S : SS) : CE := (1, yL_pass, ML_pass, 3, 13, 8, 48, ct_L_pass G D S)
set_option maxRecDepth 100000 in
set_option maxHeartbeats 4000000 in
theorem ok_L_pass (G : GT) (G : GT) (D : WD) (S : SS) (hW : WF S) : OKm G yL_pass ML_pass 13 8 48 (ct_L_pass G D S) := by
  refine mkOK (ini := false) (by decide) rfl (by first | exact fun _ => rfl | (intro hh; cases hh)) (fun As h Q QX hc => ?_)
  replace hc := sR_e hc; obtain ⟨cx, r, rfl, hc⟩ := hc
  replace hc := sI_e hc; obtain ⟨d, r, rfl, hc⟩ := hc
  replace hc := sR_e hc; obtain ⟨ou, r, rfl, hc⟩ := hc
  replace hc := s0_e hc; obtain ⟨rfl, hc⟩ := hc
  obtain ⟨hI, hw, rfl, ko, lo, hq⟩ := hc
  have hD := hI.cd
  have k0 : kd h (D 0 0) = 6 := hI.1.1.1
  refine ⟨Nat.le_of_ble_eq_true rfl, ?_⟩
  simp only [ent, entL, catN, List.length_cons, List.length_nil, List.replicate, List.cons_append, List.nil_append, reduceIte, Nat.reduceEqDiff,  Nat.reduceAdd, Nat.reduceSub, mnl_L_pass]
  refine wpW (cs := [(65, ce_X4_pass_t G D S)]) (stop := [7]) (n := 200) (env_cons (ceV (by decide +kernel) ⟨by decide, by decide, by decide +kernel⟩ (by decide) rfl (ok_X4_pass_t G G D S hW)) (env_nil0 hhk_L_pass)) ?_
  simp only [↓wpN_S, ↓step_u, ↓stC_s, stC_s, ↓stF_u, stF_u, ↓stepI, lenI, ↓kN_u, isS, ↓gI_0, ↓gI_S, ↓gL_0, ↓gL_S, ↓gD_0, ↓gD_S, ↓gR_0, ↓gR_S, ↓sI_c, ↓sL_c, ↓sD_c, ↓sR_c, ↓s1_r, ↓s1_i, ↓vR_r, ↓vR_n, ↓s0_n, s0_n, ↓oR_u, ↓sP_u, ↓sPa_0, ↓sPa_S, ↓lkC_c, ↓callK_u, ↓cQ_s, ↓cQ_n, putL, putW, clr, kil, catS, catN, refF, booF, finF, nF, nmOf_0, nmOf_1, nmOf_2, nmOf_3, nmOf_4, nmOf_5, nmOf_6, nmOf_50, nmOf_51, nmOf_52, ↓reduceIte, reduceIte, Bool.false_eq_true, eq_self, true_or, or_true, true_and, and_true, false_or, or_false, Nat.reduceAdd, Nat.reduceSub, Nat.reduceEqDiff, Nat.reduceLT, Nat.reduceLeDiff, reduceCtorEq, true_implies, List.length_cons, List.length_nil, List.replicate, List.cons_append, List.nil_append, mrt_L_pass, mhh_L_pass, mow_L_pass, mnl_L_pass, DL_pass_0, DL_pass_1, DL_pass_2, DL_pass_3, DL_pass_4, DL_pass_7, DL_pass_8, DL_pass_9, DL_pass_12, DL_pass_13, DL_pass_14, DL_pass_15, DL_pass_16, DL_pass_17, DL_pass_18, DL_pass_19, ce_X4_pass_t, ↓ct_X4_pass_t, ycl_X4_pass, nxc, nxr, cX_L_pass_IAE, cX_L_pass_ISE]
  simp only [k0, hI, hD, hw, nmOf_5, Nat.reduceSub, Nat.reduceLT, Nat.reduceEqDiff, ne_eq, not_false_eq_true, true_and, and_true]
  refine ⟨fun hv => ?_, fun he => ?_, fun he => ?_⟩
  · intro h' D' e f w hI'
    have f' : Fr h h' (fun a => WO D S a ∨ a = ou) := f.up (fun _ => Or.inl)
    have ko' : kd h' ou = 23 := (f' ou (by omega)).1.1.trans ko
    have lo' : ln h' ou = 1 := (f' ou (by omega)).1.2.trans lo
    refine Wp.z ?_
    refine wpW (cs := [(65, ce_X4_pass_t G D S)]) (stop := []) (n := 200) (env_cons (ceV (by decide +kernel) ⟨by decide, by decide, by decide +kernel⟩ (by decide) rfl (ok_X4_pass_t G G D S hW)) (env_nil0 hhk_L_pass)) ?_
    simp only [↓wpN_S, ↓step_u, ↓stC_s, stC_s, ↓stF_u, stF_u, ↓stepI, lenI, ↓kN_u, isS, ↓gI_0, ↓gI_S, ↓gL_0, ↓gL_S, ↓gD_0, ↓gD_S, ↓gR_0, ↓gR_S, ↓sI_c, ↓sL_c, ↓sD_c, ↓sR_c, ↓s1_r, ↓s1_i, ↓vR_r, ↓vR_n, ↓s0_n, s0_n, ↓oR_u, ↓sP_u, ↓sPa_0, ↓sPa_S, ↓lkC_c, ↓callK_u, ↓cQ_s, ↓cQ_n, putL, putW, clr, kil, catS, catN, refF, booF, finF, nF, nmOf_0, nmOf_1, nmOf_2, nmOf_3, nmOf_4, nmOf_5, nmOf_6, nmOf_50, nmOf_51, nmOf_52, ↓reduceIte, reduceIte, Bool.false_eq_true, eq_self, true_or, or_true, true_and, and_true, false_or, or_false, Nat.reduceAdd, Nat.reduceSub, Nat.reduceEqDiff, Nat.reduceLT, Nat.reduceLeDiff, reduceCtorEq, true_implies, List.length_cons, List.length_nil, List.replicate, List.cons_append, List.nil_append, mrt_L_pass, mhh_L_pass, mow_L_pass, mnl_L_pass, DL_pass_0, DL_pass_1, DL_pass_2, DL_pass_3, DL_pass_4, DL_pass_7, DL_pass_8, DL_pass_9, DL_pass_12, DL_pass_13, DL_pass_14, DL_pass_15, DL_pass_16, DL_pass_17, DL_pass_18, DL_pass_19, ce_X4_pass_t, ↓ct_X4_pass_t, ycl_X4_pass, nxc, nxr, cX_L_pass_IAE, cX_L_pass_ISE]
    simp (disch := omega) only [i32_lit, i32_neg, i32_add, i32_mul, i32_sub, i32_nI, i32_lt, i32_le, i32_eq, inR_i, i32_clamp, i32_div, i32_max, i32_min, ite_max, ite_min, b2i_0, b2i_1, b2i_01, i32_toInt, tn_i, Int.toNat_natCast, em_t, true_and, and_true, Int.reduceToNat, Int.reduceLE, Int.reduceLT, Int.reduceAdd, Int.reduceMul, Int.reduceSub, Int.reduceNeg, Int.reduceEq, true_implies, not_true_eq_false, false_implies, not_false_eq_true, ko', lo']
    repeat (refine And.intro (by first | omega | decide) ?_)
    exact hq 0 _ _ (Or.inl ⟨hv, rfl, rfl, rfl⟩) _ D' e (f'.tr (Fr.sL (Or.inr rfl))) w hI'.la (fun _ => ja_o)
  · exact fun _ => hq 1 0 S (Or.inr (Or.inl ⟨he, rfl, rfl⟩)) h D rfl Fr.rf (fun _ => Or.inl) hI (fun z => absurd z (by decide))
  · exact fun _ => hq 2 0 S (Or.inr (Or.inr ⟨he, rfl, rfl⟩)) h D rfl Fr.rf (fun _ => Or.inl) hI (fun z => absurd z (by decide))
/-! count -/
theorem hhk_L_count : hhOK (mow ML_count) (mhh ML_count) := show hhOK RL [(0, 9, 12, 21)] from (hhOK_c 52 (by decide +kernel) hhOK_nil)
theorem cX_L_count_IOB {PX : String → Hp → Prop} {K : Nat → Ls → List Value → Hp → Nat × Nat → Prop} {ls : Ls} {b : Nat × Nat} {h : Hp} : cX ML_count PX K 4 ls b IOB h = ∀ a, K 12 ls [.ref a] h b := cX_some (by rw [mhh_L_count]; exact List.cons_ne_nil _ _) (by decide +kernel)
def ct_L_count (G : GT) (D : WD) (S : SS) : Ct := fun As h Q _ => sR As fun cx r => sI r fun w r => sR r fun ou r => s0 r (CI G h D S ∧ WW S ∧ cx = D 0 0 ∧ kd h ou = 23 ∧ ln h ou = 1 ∧ ∀ kk vv T, OC_count S w kk vv T → nxL G h D S ou Q kk vv T)
def ce_L_count (G : GT) (D : WD) (S : SS) : CE := (1, yL_count, ML_count, 3, 9, 4, 24, ct_L_count G D S)
set_option maxRecDepth 100000 in
set_option maxHeartbeats 4000000 in
theorem ok_L_count (G : GT) (G : GT) (D : WD) (S : SS) (hW : WF S) : OKm G yL_count ML_count 9 4 24 (ct_L_count G D S) := by
  refine mkOK (ini := false) (by decide) rfl (by first | exact fun _ => rfl | (intro hh; cases hh)) (fun As h Q QX hc => ?_)
  replace hc := sR_e hc; obtain ⟨cx, r, rfl, hc⟩ := hc
  replace hc := sI_e hc; obtain ⟨w, r, rfl, hc⟩ := hc
  replace hc := sR_e hc; obtain ⟨ou, r, rfl, hc⟩ := hc
  replace hc := s0_e hc; obtain ⟨rfl, hc⟩ := hc
  obtain ⟨hI, hw, rfl, ko, lo, hq⟩ := hc
  have hD := hI.cd
  have k0 : kd h (D 0 0) = 6 := hI.1.1.1
  refine ⟨Nat.le_of_ble_eq_true rfl, ?_⟩
  simp only [ent, entL, catN, List.length_cons, List.length_nil, List.replicate, List.cons_append, List.nil_append, reduceIte, Nat.reduceEqDiff,  Nat.reduceAdd, Nat.reduceSub, mnl_L_count]
  refine wpW (cs := [(68, ce_X4_count_t G D S)]) (stop := [7]) (n := 200) (env_cons (ceV (by decide +kernel) ⟨by decide, by decide, by decide +kernel⟩ (by decide) rfl (ok_X4_count_t G G D S hW)) (env_nil0 hhk_L_count)) ?_
  simp only [↓wpN_S, ↓step_u, ↓stC_s, stC_s, ↓stF_u, stF_u, ↓stepI, lenI, ↓kN_u, isS, ↓gI_0, ↓gI_S, ↓gL_0, ↓gL_S, ↓gD_0, ↓gD_S, ↓gR_0, ↓gR_S, ↓sI_c, ↓sL_c, ↓sD_c, ↓sR_c, ↓s1_r, ↓s1_i, ↓vR_r, ↓vR_n, ↓s0_n, s0_n, ↓oR_u, ↓sP_u, ↓sPa_0, ↓sPa_S, ↓lkC_c, ↓callK_u, ↓cQ_s, ↓cQ_n, putL, putW, clr, kil, catS, catN, refF, booF, finF, nF, nmOf_0, nmOf_1, nmOf_2, nmOf_3, nmOf_4, nmOf_5, nmOf_6, nmOf_50, nmOf_51, nmOf_52, ↓reduceIte, reduceIte, Bool.false_eq_true, eq_self, true_or, or_true, true_and, and_true, false_or, or_false, Nat.reduceAdd, Nat.reduceSub, Nat.reduceEqDiff, Nat.reduceLT, Nat.reduceLeDiff, reduceCtorEq, true_implies, List.length_cons, List.length_nil, List.replicate, List.cons_append, List.nil_append, mrt_L_count, mhh_L_count, mow_L_count, mnl_L_count, DL_count_0, DL_count_1, DL_count_2, DL_count_3, DL_count_4, DL_count_7, DL_count_8, DL_count_9, DL_count_12, DL_count_13, DL_count_14, DL_count_15, DL_count_16, ce_X4_count_t, ↓ct_X4_count_t, ycl_X4_count, nxc, nxr, cX_L_count_IOB]
  simp only [k0, hI, hD, hw, nmOf_5, Nat.reduceSub, Nat.reduceLT, Nat.reduceEqDiff, ne_eq, not_false_eq_true, true_and, and_true]
  refine ⟨fun hv => ?_, fun he => ?_⟩
  · have f' : Fr h h (fun a => WO D S a ∨ a = ou) := Fr.rf
    have ko' : kd h ou = 23 := (f' ou (by omega)).1.1.trans ko
    have lo' : ln h ou = 1 := (f' ou (by omega)).1.2.trans lo
    refine Wp.z ?_
    refine wpW (cs := [(68, ce_X4_count_t G D S)]) (stop := []) (n := 200) (env_cons (ceV (by decide +kernel) ⟨by decide, by decide, by decide +kernel⟩ (by decide) rfl (ok_X4_count_t G G D S hW)) (env_nil0 hhk_L_count)) ?_
    simp only [↓wpN_S, ↓step_u, ↓stC_s, stC_s, ↓stF_u, stF_u, ↓stepI, lenI, ↓kN_u, isS, ↓gI_0, ↓gI_S, ↓gL_0, ↓gL_S, ↓gD_0, ↓gD_S, ↓gR_0, ↓gR_S, ↓sI_c, ↓sL_c, ↓sD_c, ↓sR_c, ↓s1_r, ↓s1_i, ↓vR_r, ↓vR_n, ↓s0_n, s0_n, ↓oR_u, ↓sP_u, ↓sPa_0, ↓sPa_S, ↓lkC_c, ↓callK_u, ↓cQ_s, ↓cQ_n, putL, putW, clr, kil, catS, catN, refF, booF, finF, nF, nmOf_0, nmOf_1, nmOf_2, nmOf_3, nmOf_4, nmOf_5, nmOf_6, nmOf_50, nmOf_51, nmOf_52, ↓reduceIte, reduceIte, Bool.false_eq_true, eq_self, true_or, or_true, true_and, and_true, false_or, or_false, Nat.reduceAdd, Nat.reduceSub, Nat.reduceEqDiff, Nat.reduceLT, Nat.reduceLeDiff, reduceCtorEq, true_implies, List.length_cons, List.length_nil, List.replicate, List.cons_append, List.nil_append, mrt_L_count, mhh_L_count, mow_L_count, mnl_L_count, DL_count_0, DL_count_1, DL_count_2, DL_count_3, DL_count_4, DL_count_7, DL_count_8, DL_count_9, DL_count_12, DL_count_13, DL_count_14, DL_count_15, DL_count_16, ce_X4_count_t, ↓ct_X4_count_t, ycl_X4_count, nxc, nxr, cX_L_count_IOB]
    simp (disch := omega) only [i32_lit, i32_neg, i32_add, i32_mul, i32_sub, i32_nI, i32_lt, i32_le, i32_eq, inR_i, i32_clamp, i32_div, i32_max, i32_min, ite_max, ite_min, b2i_0, b2i_1, b2i_01, i32_toInt, tn_i, Int.toNat_natCast, em_t, true_and, and_true, Int.reduceToNat, Int.reduceLE, Int.reduceLT, Int.reduceAdd, Int.reduceMul, Int.reduceSub, Int.reduceNeg, Int.reduceEq, true_implies, not_true_eq_false, false_implies, not_false_eq_true, ko', lo']
    repeat (refine And.intro (by first | omega | decide) ?_)
    exact hq 0 _ _ (Or.inl ⟨hv, rfl, rfl, rfl⟩) _ D rfl (f'.tr (Fr.sL (Or.inr rfl))) (fun _ => Or.inl) hI.la (fun _ => ja_o)
  · exact fun _ => hq 1 0 S (Or.inr ⟨he, rfl, rfl⟩) h D rfl Fr.rf (fun _ => Or.inl) hI (fun z => absurd z (by decide))
/-! got -/
theorem hhk_L_got : hhOK (mow ML_got) (mhh ML_got) := show hhOK RL [(0, 9, 12, 21)] from (hhOK_c 52 (by decide +kernel) hhOK_nil)
theorem cX_L_got_IOB {PX : String → Hp → Prop} {K : Nat → Ls → List Value → Hp → Nat × Nat → Prop} {ls : Ls} {b : Nat × Nat} {h : Hp} : cX ML_got PX K 4 ls b IOB h = ∀ a, K 12 ls [.ref a] h b := cX_some (by rw [mhh_L_got]; exact List.cons_ne_nil _ _) (by decide +kernel)
def ct_L_got (G : GT) (D : WD) (S : SS) : Ct := fun As h Q _ => sR As fun cx r => sI r fun o r => sR r fun ou r => s0 r (CI G h D S ∧ WW S ∧ cx = D 0 0 ∧ kd h ou = 23 ∧ ln h ou = 1 ∧ ∀ kk vv T, OC_got S o kk vv T → nxL G h D S ou Q kk vv T)
def ce_L_got (G : GT) (D : WD) (S : SS) : CE := (1, yL_got, ML_got, 3, 9, 4, 24, ct_L_got G D S)
set_option maxRecDepth 100000 in
set_option maxHeartbeats 4000000 in
theorem ok_L_got (G : GT) (G : GT) (D : WD) (S : SS) (hW : WF S) : OKm G yL_got ML_got 9 4 24 (ct_L_got G D S) := by
  refine mkOK (ini := false) (by decide) rfl (by first | exact fun _ => rfl | (intro hh; cases hh)) (fun As h Q QX hc => ?_)
  replace hc := sR_e hc; obtain ⟨cx, r, rfl, hc⟩ := hc
  replace hc := sI_e hc; obtain ⟨o, r, rfl, hc⟩ := hc
  replace hc := sR_e hc; obtain ⟨ou, r, rfl, hc⟩ := hc
  replace hc := s0_e hc; obtain ⟨rfl, hc⟩ := hc
  obtain ⟨hI, hw, rfl, ko, lo, hq⟩ := hc
  have hD := hI.cd
  have k0 : kd h (D 0 0) = 6 := hI.1.1.1
  refine ⟨Nat.le_of_ble_eq_true rfl, ?_⟩
  simp only [ent, entL, catN, List.length_cons, List.length_nil, List.replicate, List.cons_append, List.nil_append, reduceIte, Nat.reduceEqDiff,  Nat.reduceAdd, Nat.reduceSub, mnl_L_got]
  refine wpW (cs := [(71, ce_X4_got_t G D S)]) (stop := [7]) (n := 200) (env_cons (ceV (by decide +kernel) ⟨by decide, by decide, by decide +kernel⟩ (by decide) rfl (ok_X4_got_t G G D S hW)) (env_nil0 hhk_L_got)) ?_
  simp only [↓wpN_S, ↓step_u, ↓stC_s, stC_s, ↓stF_u, stF_u, ↓stepI, lenI, ↓kN_u, isS, ↓gI_0, ↓gI_S, ↓gL_0, ↓gL_S, ↓gD_0, ↓gD_S, ↓gR_0, ↓gR_S, ↓sI_c, ↓sL_c, ↓sD_c, ↓sR_c, ↓s1_r, ↓s1_i, ↓vR_r, ↓vR_n, ↓s0_n, s0_n, ↓oR_u, ↓sP_u, ↓sPa_0, ↓sPa_S, ↓lkC_c, ↓callK_u, ↓cQ_s, ↓cQ_n, putL, putW, clr, kil, catS, catN, refF, booF, finF, nF, nmOf_0, nmOf_1, nmOf_2, nmOf_3, nmOf_4, nmOf_5, nmOf_6, nmOf_50, nmOf_51, nmOf_52, ↓reduceIte, reduceIte, Bool.false_eq_true, eq_self, true_or, or_true, true_and, and_true, false_or, or_false, Nat.reduceAdd, Nat.reduceSub, Nat.reduceEqDiff, Nat.reduceLT, Nat.reduceLeDiff, reduceCtorEq, true_implies, List.length_cons, List.length_nil, List.replicate, List.cons_append, List.nil_append, mrt_L_got, mhh_L_got, mow_L_got, mnl_L_got, DL_got_0, DL_got_1, DL_got_2, DL_got_3, DL_got_4, DL_got_7, DL_got_8, DL_got_9, DL_got_12, DL_got_13, DL_got_14, DL_got_15, DL_got_16, ce_X4_got_t, ↓ct_X4_got_t, ycl_X4_got, nxc, nxr, cX_L_got_IOB]
  simp only [k0, hI, hD, hw, nmOf_5, Nat.reduceSub, Nat.reduceLT, Nat.reduceEqDiff, ne_eq, not_false_eq_true, true_and, and_true]
  refine ⟨fun hv => ?_, fun he => ?_⟩
  · have f' : Fr h h (fun a => WO D S a ∨ a = ou) := Fr.rf
    have ko' : kd h ou = 23 := (f' ou (by omega)).1.1.trans ko
    have lo' : ln h ou = 1 := (f' ou (by omega)).1.2.trans lo
    refine Wp.z ?_
    refine wpW (cs := [(71, ce_X4_got_t G D S)]) (stop := []) (n := 200) (env_cons (ceV (by decide +kernel) ⟨by decide, by decide, by decide +kernel⟩ (by decide) rfl (ok_X4_got_t G G D S hW)) (env_nil0 hhk_L_got)) ?_
    simp only [↓wpN_S, ↓step_u, ↓stC_s, stC_s, ↓stF_u, stF_u, ↓stepI, lenI, ↓kN_u, isS, ↓gI_0, ↓gI_S, ↓gL_0, ↓gL_S, ↓gD_0, ↓gD_S, ↓gR_0, ↓gR_S, ↓sI_c, ↓sL_c, ↓sD_c, ↓sR_c, ↓s1_r, ↓s1_i, ↓vR_r, ↓vR_n, ↓s0_n, s0_n, ↓oR_u, ↓sP_u, ↓sPa_0, ↓sPa_S, ↓lkC_c, ↓callK_u, ↓cQ_s, ↓cQ_n, putL, putW, clr, kil, catS, catN, refF, booF, finF, nF, nmOf_0, nmOf_1, nmOf_2, nmOf_3, nmOf_4, nmOf_5, nmOf_6, nmOf_50, nmOf_51, nmOf_52, ↓reduceIte, reduceIte, Bool.false_eq_true, eq_self, true_or, or_true, true_and, and_true, false_or, or_false, Nat.reduceAdd, Nat.reduceSub, Nat.reduceEqDiff, Nat.reduceLT, Nat.reduceLeDiff, reduceCtorEq, true_implies, List.length_cons, List.length_nil, List.replicate, List.cons_append, List.nil_append, mrt_L_got, mhh_L_got, mow_L_got, mnl_L_got, DL_got_0, DL_got_1, DL_got_2, DL_got_3, DL_got_4, DL_got_7, DL_got_8, DL_got_9, DL_got_12, DL_got_13, DL_got_14, DL_got_15, DL_got_16, ce_X4_got_t, ↓ct_X4_got_t, ycl_X4_got, nxc, nxr, cX_L_got_IOB]
    simp (disch := omega) only [i32_lit, i32_neg, i32_add, i32_mul, i32_sub, i32_nI, i32_lt, i32_le, i32_eq, inR_i, i32_clamp, i32_div, i32_max, i32_min, ite_max, ite_min, b2i_0, b2i_1, b2i_01, i32_toInt, tn_i, Int.toNat_natCast, em_t, true_and, and_true, Int.reduceToNat, Int.reduceLE, Int.reduceLT, Int.reduceAdd, Int.reduceMul, Int.reduceSub, Int.reduceNeg, Int.reduceEq, true_implies, not_true_eq_false, false_implies, not_false_eq_true, ko', lo']
    repeat (refine And.intro (by first | omega | decide) ?_)
    exact hq 0 _ _ (Or.inl ⟨hv, rfl, rfl, rfl⟩) _ D rfl (f'.tr (Fr.sL (Or.inr rfl))) (fun _ => Or.inl) hI.la (fun _ => ja_o)
  · exact fun _ => hq 1 0 S (Or.inr ⟨he, rfl, rfl⟩) h D rfl Fr.rf (fun _ => Or.inl) hI (fun z => absurd z (by decide))
/-! paid -/
theorem hhk_L_paid : hhOK (mow ML_paid) (mhh ML_paid) := show hhOK RL [(0, 9, 12, 21)] from (hhOK_c 52 (by decide +kernel) hhOK_nil)
theorem cX_L_paid_IOB {PX : String → Hp → Prop} {K : Nat → Ls → List Value → Hp → Nat × Nat → Prop} {ls : Ls} {b : Nat × Nat} {h : Hp} : cX ML_paid PX K 4 ls b IOB h = ∀ a, K 12 ls [.ref a] h b := cX_some (by rw [mhh_L_paid]; exact List.cons_ne_nil _ _) (by decide +kernel)
def ct_L_paid (G : GT) (D : WD) (S : SS) : Ct := fun As h Q _ => sR As fun cx r => sI r fun o r => sR r fun ou r => s0 r (CI G h D S ∧ WW S ∧ cx = D 0 0 ∧ kd h ou = 23 ∧ ln h ou = 1 ∧ ∀ kk vv T, OC_paid S o kk vv T → nxL G h D S ou Q kk vv T)
def ce_L_paid (G : GT) (D : WD) (S : SS) : CE := (1, yL_paid, ML_paid, 3, 9, 4, 24, ct_L_paid G D S)
set_option maxRecDepth 100000 in
set_option maxHeartbeats 4000000 in
theorem ok_L_paid (G : GT) (G : GT) (D : WD) (S : SS) (hW : WF S) : OKm G yL_paid ML_paid 9 4 24 (ct_L_paid G D S) := by
  refine mkOK (ini := false) (by decide) rfl (by first | exact fun _ => rfl | (intro hh; cases hh)) (fun As h Q QX hc => ?_)
  replace hc := sR_e hc; obtain ⟨cx, r, rfl, hc⟩ := hc
  replace hc := sI_e hc; obtain ⟨o, r, rfl, hc⟩ := hc
  replace hc := sR_e hc; obtain ⟨ou, r, rfl, hc⟩ := hc
  replace hc := s0_e hc; obtain ⟨rfl, hc⟩ := hc
  obtain ⟨hI, hw, rfl, ko, lo, hq⟩ := hc
  have hD := hI.cd
  have k0 : kd h (D 0 0) = 6 := hI.1.1.1
  refine ⟨Nat.le_of_ble_eq_true rfl, ?_⟩
  simp only [ent, entL, catN, List.length_cons, List.length_nil, List.replicate, List.cons_append, List.nil_append, reduceIte, Nat.reduceEqDiff,  Nat.reduceAdd, Nat.reduceSub, mnl_L_paid]
  refine wpW (cs := [(74, ce_X4_paid_t G D S)]) (stop := [7]) (n := 200) (env_cons (ceV (by decide +kernel) ⟨by decide, by decide, by decide +kernel⟩ (by decide) rfl (ok_X4_paid_t G G D S hW)) (env_nil0 hhk_L_paid)) ?_
  simp only [↓wpN_S, ↓step_u, ↓stC_s, stC_s, ↓stF_u, stF_u, ↓stepI, lenI, ↓kN_u, isS, ↓gI_0, ↓gI_S, ↓gL_0, ↓gL_S, ↓gD_0, ↓gD_S, ↓gR_0, ↓gR_S, ↓sI_c, ↓sL_c, ↓sD_c, ↓sR_c, ↓s1_r, ↓s1_i, ↓vR_r, ↓vR_n, ↓s0_n, s0_n, ↓oR_u, ↓sP_u, ↓sPa_0, ↓sPa_S, ↓lkC_c, ↓callK_u, ↓cQ_s, ↓cQ_n, putL, putW, clr, kil, catS, catN, refF, booF, finF, nF, nmOf_0, nmOf_1, nmOf_2, nmOf_3, nmOf_4, nmOf_5, nmOf_6, nmOf_50, nmOf_51, nmOf_52, ↓reduceIte, reduceIte, Bool.false_eq_true, eq_self, true_or, or_true, true_and, and_true, false_or, or_false, Nat.reduceAdd, Nat.reduceSub, Nat.reduceEqDiff, Nat.reduceLT, Nat.reduceLeDiff, reduceCtorEq, true_implies, List.length_cons, List.length_nil, List.replicate, List.cons_append, List.nil_append, mrt_L_paid, mhh_L_paid, mow_L_paid, mnl_L_paid, DL_paid_0, DL_paid_1, DL_paid_2, DL_paid_3, DL_paid_4, DL_paid_7, DL_paid_8, DL_paid_9, DL_paid_12, DL_paid_13, DL_paid_14, DL_paid_15, DL_paid_16, ce_X4_paid_t, ↓ct_X4_paid_t, ycl_X4_paid, nxc, nxr, cX_L_paid_IOB]
  simp only [k0, hI, hD, hw, nmOf_5, Nat.reduceSub, Nat.reduceLT, Nat.reduceEqDiff, ne_eq, not_false_eq_true, true_and, and_true]
  refine ⟨fun hv => ?_, fun he => ?_⟩
  · have f' : Fr h h (fun a => WO D S a ∨ a = ou) := Fr.rf
    have ko' : kd h ou = 23 := (f' ou (by omega)).1.1.trans ko
    have lo' : ln h ou = 1 := (f' ou (by omega)).1.2.trans lo
    refine Wp.z ?_
    refine wpW (cs := [(74, ce_X4_paid_t G D S)]) (stop := []) (n := 200) (env_cons (ceV (by decide +kernel) ⟨by decide, by decide, by decide +kernel⟩ (by decide) rfl (ok_X4_paid_t G G D S hW)) (env_nil0 hhk_L_paid)) ?_
    simp only [↓wpN_S, ↓step_u, ↓stC_s, stC_s, ↓stF_u, stF_u, ↓stepI, lenI, ↓kN_u, isS, ↓gI_0, ↓gI_S, ↓gL_0, ↓gL_S, ↓gD_0, ↓gD_S, ↓gR_0, ↓gR_S, ↓sI_c, ↓sL_c, ↓sD_c, ↓sR_c, ↓s1_r, ↓s1_i, ↓vR_r, ↓vR_n, ↓s0_n, s0_n, ↓oR_u, ↓sP_u, ↓sPa_0, ↓sPa_S, ↓lkC_c, ↓callK_u, ↓cQ_s, ↓cQ_n, putL, putW, clr, kil, catS, catN, refF, booF, finF, nF, nmOf_0, nmOf_1, nmOf_2, nmOf_3, nmOf_4, nmOf_5, nmOf_6, nmOf_50, nmOf_51, nmOf_52, ↓reduceIte, reduceIte, Bool.false_eq_true, eq_self, true_or, or_true, true_and, and_true, false_or, or_false, Nat.reduceAdd, Nat.reduceSub, Nat.reduceEqDiff, Nat.reduceLT, Nat.reduceLeDiff, reduceCtorEq, true_implies, List.length_cons, List.length_nil, List.replicate, List.cons_append, List.nil_append, mrt_L_paid, mhh_L_paid, mow_L_paid, mnl_L_paid, DL_paid_0, DL_paid_1, DL_paid_2, DL_paid_3, DL_paid_4, DL_paid_7, DL_paid_8, DL_paid_9, DL_paid_12, DL_paid_13, DL_paid_14, DL_paid_15, DL_paid_16, ce_X4_paid_t, ↓ct_X4_paid_t, ycl_X4_paid, nxc, nxr, cX_L_paid_IOB]
    simp (disch := omega) only [i32_lit, i32_neg, i32_add, i32_mul, i32_sub, i32_nI, i32_lt, i32_le, i32_eq, inR_i, i32_clamp, i32_div, i32_max, i32_min, ite_max, ite_min, b2i_0, b2i_1, b2i_01, i32_toInt, tn_i, Int.toNat_natCast, em_t, true_and, and_true, Int.reduceToNat, Int.reduceLE, Int.reduceLT, Int.reduceAdd, Int.reduceMul, Int.reduceSub, Int.reduceNeg, Int.reduceEq, true_implies, not_true_eq_false, false_implies, not_false_eq_true, ko', lo']
    repeat (refine And.intro (by first | omega | decide) ?_)
    exact hq 0 _ _ (Or.inl ⟨hv, rfl, rfl, rfl⟩) _ D rfl (f'.tr (Fr.sL (Or.inr rfl))) (fun _ => Or.inl) hI.la (fun _ => ja_o)
  · exact fun _ => hq 1 0 S (Or.inr ⟨he, rfl, rfl⟩) h D rfl Fr.rf (fun _ => Or.inl) hI (fun z => absurd z (by decide))
/-! advise -/
theorem hhk_L_advise : hhOK (mow ML_advise) (mhh ML_advise) := show hhOK RL [(0, 14, 17, 13), (0, 14, 21, 21)] from (hhOK_c 51 (by decide +kernel) (hhOK_c 52 (by decide +kernel) hhOK_nil))
theorem cX_L_advise_IAE {PX : String → Hp → Prop} {K : Nat → Ls → List Value → Hp → Nat × Nat → Prop} {ls : Ls} {b : Nat × Nat} {h : Hp} : cX ML_advise PX K 9 ls b IAE h = ∀ a, K 17 ls [.ref a] h b := cX_some (by rw [mhh_L_advise]; exact List.cons_ne_nil _ _) (by decide +kernel)
theorem cX_L_advise_IOB {PX : String → Hp → Prop} {K : Nat → Ls → List Value → Hp → Nat × Nat → Prop} {ls : Ls} {b : Nat × Nat} {h : Hp} : cX ML_advise PX K 9 ls b IOB h = ∀ a, K 21 ls [.ref a] h b := cX_some (by rw [mhh_L_advise]; exact List.cons_ne_nil _ _) (by decide +kernel)
def ct_L_advise (G : GT) (D : WD) (S : SS) : Ct := fun As h Q _ => sR As fun cx r => sI r fun f r => sI r fun l r => sI r fun p r => sI r fun w r => sR r fun ou r => s0 r (CI G h D S ∧ WW S ∧ cx = D 0 0 ∧ kd h ou = 23 ∧ ln h ou = 1 ∧ ∀ kk vv T, OC_advise S f l p w kk vv T → nxL G h D S ou Q kk vv T)
def ce_L_advise (G : GT) (D : WD) (S : SS) : CE := (1, yL_advise, ML_advise, 6, 12, 8, 48, ct_L_advise G D S)
set_option maxRecDepth 100000 in
set_option maxHeartbeats 4000000 in
theorem ok_L_advise (G : GT) (G : GT) (D : WD) (S : SS) (hW : WF S) : OKm G yL_advise ML_advise 12 8 48 (ct_L_advise G D S) := by
  refine mkOK (ini := false) (by decide) rfl (by first | exact fun _ => rfl | (intro hh; cases hh)) (fun As h Q QX hc => ?_)
  replace hc := sR_e hc; obtain ⟨cx, r, rfl, hc⟩ := hc
  replace hc := sI_e hc; obtain ⟨f, r, rfl, hc⟩ := hc
  replace hc := sI_e hc; obtain ⟨l, r, rfl, hc⟩ := hc
  replace hc := sI_e hc; obtain ⟨p, r, rfl, hc⟩ := hc
  replace hc := sI_e hc; obtain ⟨w, r, rfl, hc⟩ := hc
  replace hc := sR_e hc; obtain ⟨ou, r, rfl, hc⟩ := hc
  replace hc := s0_e hc; obtain ⟨rfl, hc⟩ := hc
  obtain ⟨hI, hw, rfl, ko, lo, hq⟩ := hc
  have hD := hI.cd
  have k0 : kd h (D 0 0) = 6 := hI.1.1.1
  refine ⟨Nat.le_of_ble_eq_true rfl, ?_⟩
  simp only [ent, entL, catN, List.length_cons, List.length_nil, List.replicate, List.cons_append, List.nil_append, reduceIte, Nat.reduceEqDiff,  Nat.reduceAdd, Nat.reduceSub, mnl_L_advise]
  refine wpW (cs := [(77, ce_X4_advise_t G D S)]) (stop := [12]) (n := 200) (env_cons (ceV (by decide +kernel) ⟨by decide, by decide, by decide +kernel⟩ (by decide) rfl (ok_X4_advise_t G G D S hW)) (env_nil0 hhk_L_advise)) ?_
  simp only [↓wpN_S, ↓step_u, ↓stC_s, stC_s, ↓stF_u, stF_u, ↓stepI, lenI, ↓kN_u, isS, ↓gI_0, ↓gI_S, ↓gL_0, ↓gL_S, ↓gD_0, ↓gD_S, ↓gR_0, ↓gR_S, ↓sI_c, ↓sL_c, ↓sD_c, ↓sR_c, ↓s1_r, ↓s1_i, ↓vR_r, ↓vR_n, ↓s0_n, s0_n, ↓oR_u, ↓sP_u, ↓sPa_0, ↓sPa_S, ↓lkC_c, ↓callK_u, ↓cQ_s, ↓cQ_n, putL, putW, clr, kil, catS, catN, refF, booF, finF, nF, nmOf_0, nmOf_1, nmOf_2, nmOf_3, nmOf_4, nmOf_5, nmOf_6, nmOf_50, nmOf_51, nmOf_52, ↓reduceIte, reduceIte, Bool.false_eq_true, eq_self, true_or, or_true, true_and, and_true, false_or, or_false, Nat.reduceAdd, Nat.reduceSub, Nat.reduceEqDiff, Nat.reduceLT, Nat.reduceLeDiff, reduceCtorEq, true_implies, List.length_cons, List.length_nil, List.replicate, List.cons_append, List.nil_append, mrt_L_advise, mhh_L_advise, mow_L_advise, mnl_L_advise, DL_advise_0, DL_advise_2, DL_advise_3, DL_advise_4, DL_advise_5, DL_advise_6, DL_advise_7, DL_advise_9, DL_advise_12, DL_advise_13, DL_advise_14, DL_advise_17, DL_advise_19, DL_advise_20, DL_advise_21, DL_advise_23, DL_advise_24, DL_advise_25, DL_advise_26, ce_X4_advise_t, ↓ct_X4_advise_t, ycl_X4_advise, nxc, nxr, cX_L_advise_IAE, cX_L_advise_IOB]
  simp only [k0, hI, hD, hw, nmOf_5, Nat.reduceSub, Nat.reduceLT, Nat.reduceEqDiff, ne_eq, not_false_eq_true, true_and, and_true]
  refine ⟨fun hv => ?_, fun he => ?_, fun he => ?_⟩
  · intro h' f hI'
    have f' : Fr h h' (fun a => WO D S a ∨ a = ou) := f.up (fun a q => Or.inl (WK.wo a q))
    have ko' : kd h' ou = 23 := (f' ou (by omega)).1.1.trans ko
    have lo' : ln h' ou = 1 := (f' ou (by omega)).1.2.trans lo
    refine Wp.z ?_
    refine wpW (cs := [(77, ce_X4_advise_t G D S)]) (stop := []) (n := 200) (env_cons (ceV (by decide +kernel) ⟨by decide, by decide, by decide +kernel⟩ (by decide) rfl (ok_X4_advise_t G G D S hW)) (env_nil0 hhk_L_advise)) ?_
    simp only [↓wpN_S, ↓step_u, ↓stC_s, stC_s, ↓stF_u, stF_u, ↓stepI, lenI, ↓kN_u, isS, ↓gI_0, ↓gI_S, ↓gL_0, ↓gL_S, ↓gD_0, ↓gD_S, ↓gR_0, ↓gR_S, ↓sI_c, ↓sL_c, ↓sD_c, ↓sR_c, ↓s1_r, ↓s1_i, ↓vR_r, ↓vR_n, ↓s0_n, s0_n, ↓oR_u, ↓sP_u, ↓sPa_0, ↓sPa_S, ↓lkC_c, ↓callK_u, ↓cQ_s, ↓cQ_n, putL, putW, clr, kil, catS, catN, refF, booF, finF, nF, nmOf_0, nmOf_1, nmOf_2, nmOf_3, nmOf_4, nmOf_5, nmOf_6, nmOf_50, nmOf_51, nmOf_52, ↓reduceIte, reduceIte, Bool.false_eq_true, eq_self, true_or, or_true, true_and, and_true, false_or, or_false, Nat.reduceAdd, Nat.reduceSub, Nat.reduceEqDiff, Nat.reduceLT, Nat.reduceLeDiff, reduceCtorEq, true_implies, List.length_cons, List.length_nil, List.replicate, List.cons_append, List.nil_append, mrt_L_advise, mhh_L_advise, mow_L_advise, mnl_L_advise, DL_advise_0, DL_advise_2, DL_advise_3, DL_advise_4, DL_advise_5, DL_advise_6, DL_advise_7, DL_advise_9, DL_advise_12, DL_advise_13, DL_advise_14, DL_advise_17, DL_advise_19, DL_advise_20, DL_advise_21, DL_advise_23, DL_advise_24, DL_advise_25, DL_advise_26, ce_X4_advise_t, ↓ct_X4_advise_t, ycl_X4_advise, nxc, nxr, cX_L_advise_IAE, cX_L_advise_IOB]
    simp (disch := omega) only [i32_lit, i32_neg, i32_add, i32_mul, i32_sub, i32_nI, i32_lt, i32_le, i32_eq, inR_i, i32_clamp, i32_div, i32_max, i32_min, ite_max, ite_min, b2i_0, b2i_1, b2i_01, i32_toInt, tn_i, Int.toNat_natCast, em_t, true_and, and_true, Int.reduceToNat, Int.reduceLE, Int.reduceLT, Int.reduceAdd, Int.reduceMul, Int.reduceSub, Int.reduceNeg, Int.reduceEq, true_implies, not_true_eq_false, false_implies, not_false_eq_true, ko', lo']
    repeat (refine And.intro (by first | omega | decide) ?_)
    exact hq 0 _ _ (Or.inl ⟨hv, rfl, rfl, rfl⟩) _ D rfl (f'.tr (Fr.sL (Or.inr rfl))) (fun _ => Or.inl) hI'.la (fun _ => ja_o)
  · exact fun _ => hq 1 0 S (Or.inr (Or.inl ⟨he, rfl, rfl⟩)) h D rfl Fr.rf (fun _ => Or.inl) hI (fun z => absurd z (by decide))
  · exact fun _ => hq 2 0 S (Or.inr (Or.inr ⟨he, rfl, rfl⟩)) h D rfl Fr.rf (fun _ => Or.inl) hI (fun z => absurd z (by decide))
/-! wouldGet -/
theorem hhk_L_wouldGet : hhOK (mow ML_wouldGet) (mhh ML_wouldGet) := show hhOK RL [(0, 10, 13, 21), (0, 10, 17, 13)] from (hhOK_c 52 (by decide +kernel) (hhOK_c 51 (by decide +kernel) hhOK_nil))
theorem cX_L_wouldGet_IOB {PX : String → Hp → Prop} {K : Nat → Ls → List Value → Hp → Nat × Nat → Prop} {ls : Ls} {b : Nat × Nat} {h : Hp} : cX ML_wouldGet PX K 5 ls b IOB h = ∀ a, K 13 ls [.ref a] h b := cX_some (by rw [mhh_L_wouldGet]; exact List.cons_ne_nil _ _) (by decide +kernel)
theorem cX_L_wouldGet_IAE {PX : String → Hp → Prop} {K : Nat → Ls → List Value → Hp → Nat × Nat → Prop} {ls : Ls} {b : Nat × Nat} {h : Hp} : cX ML_wouldGet PX K 5 ls b IAE h = ∀ a, K 17 ls [.ref a] h b := cX_some (by rw [mhh_L_wouldGet]; exact List.cons_ne_nil _ _) (by decide +kernel)
def ct_L_wouldGet (G : GT) (D : WD) (S : SS) : Ct := fun As h Q _ => sR As fun cx r => sI r fun b r => sI r fun v r => sR r fun ou r => s0 r (CI G h D S ∧ WW S ∧ cx = D 0 0 ∧ kd h ou = 23 ∧ ln h ou = 1 ∧ ∀ kk vv T, OC_wouldGet S b v kk vv T → nxL G h D S ou Q kk vv T)
def ce_L_wouldGet (G : GT) (D : WD) (S : SS) : CE := (1, yL_wouldGet, ML_wouldGet, 4, 12, 8, 48, ct_L_wouldGet G D S)
set_option maxRecDepth 100000 in
set_option maxHeartbeats 4000000 in
theorem ok_L_wouldGet (G : GT) (G : GT) (D : WD) (S : SS) (hW : WF S) : OKm G yL_wouldGet ML_wouldGet 12 8 48 (ct_L_wouldGet G D S) := by
  refine mkOK (ini := false) (by decide) rfl (by first | exact fun _ => rfl | (intro hh; cases hh)) (fun As h Q QX hc => ?_)
  replace hc := sR_e hc; obtain ⟨cx, r, rfl, hc⟩ := hc
  replace hc := sI_e hc; obtain ⟨b, r, rfl, hc⟩ := hc
  replace hc := sI_e hc; obtain ⟨v, r, rfl, hc⟩ := hc
  replace hc := sR_e hc; obtain ⟨ou, r, rfl, hc⟩ := hc
  replace hc := s0_e hc; obtain ⟨rfl, hc⟩ := hc
  obtain ⟨hI, hw, rfl, ko, lo, hq⟩ := hc
  have hD := hI.cd
  have k0 : kd h (D 0 0) = 6 := hI.1.1.1
  refine ⟨Nat.le_of_ble_eq_true rfl, ?_⟩
  simp only [ent, entL, catN, List.length_cons, List.length_nil, List.replicate, List.cons_append, List.nil_append, reduceIte, Nat.reduceEqDiff,  Nat.reduceAdd, Nat.reduceSub, mnl_L_wouldGet]
  refine wpW (cs := [(80, ce_X4_wouldGet_t G D S)]) (stop := [8]) (n := 200) (env_cons (ceV (by decide +kernel) ⟨by decide, by decide, by decide +kernel⟩ (by decide) rfl (ok_X4_wouldGet_t G G D S hW)) (env_nil0 hhk_L_wouldGet)) ?_
  simp only [↓wpN_S, ↓step_u, ↓stC_s, stC_s, ↓stF_u, stF_u, ↓stepI, lenI, ↓kN_u, isS, ↓gI_0, ↓gI_S, ↓gL_0, ↓gL_S, ↓gD_0, ↓gD_S, ↓gR_0, ↓gR_S, ↓sI_c, ↓sL_c, ↓sD_c, ↓sR_c, ↓s1_r, ↓s1_i, ↓vR_r, ↓vR_n, ↓s0_n, s0_n, ↓oR_u, ↓sP_u, ↓sPa_0, ↓sPa_S, ↓lkC_c, ↓callK_u, ↓cQ_s, ↓cQ_n, putL, putW, clr, kil, catS, catN, refF, booF, finF, nF, nmOf_0, nmOf_1, nmOf_2, nmOf_3, nmOf_4, nmOf_5, nmOf_6, nmOf_50, nmOf_51, nmOf_52, ↓reduceIte, reduceIte, Bool.false_eq_true, eq_self, true_or, or_true, true_and, and_true, false_or, or_false, Nat.reduceAdd, Nat.reduceSub, Nat.reduceEqDiff, Nat.reduceLT, Nat.reduceLeDiff, reduceCtorEq, true_implies, List.length_cons, List.length_nil, List.replicate, List.cons_append, List.nil_append, mrt_L_wouldGet, mhh_L_wouldGet, mow_L_wouldGet, mnl_L_wouldGet, DL_wouldGet_0, DL_wouldGet_1, DL_wouldGet_2, DL_wouldGet_3, DL_wouldGet_4, DL_wouldGet_5, DL_wouldGet_8, DL_wouldGet_9, DL_wouldGet_10, DL_wouldGet_13, DL_wouldGet_15, DL_wouldGet_16, DL_wouldGet_17, DL_wouldGet_19, DL_wouldGet_20, DL_wouldGet_21, DL_wouldGet_22, ce_X4_wouldGet_t, ↓ct_X4_wouldGet_t, ycl_X4_wouldGet, nxc, nxr, cX_L_wouldGet_IOB, cX_L_wouldGet_IAE]
  simp only [k0, hI, hD, hw, nmOf_5, Nat.reduceSub, Nat.reduceLT, Nat.reduceEqDiff, ne_eq, not_false_eq_true, true_and, and_true]
  refine ⟨fun hv => ?_, fun he => ?_, fun he => ?_⟩
  · intro h' D' e f w hI'
    have f' : Fr h h' (fun a => WO D S a ∨ a = ou) := f.up (fun _ => Or.inl)
    have ko' : kd h' ou = 23 := (f' ou (by omega)).1.1.trans ko
    have lo' : ln h' ou = 1 := (f' ou (by omega)).1.2.trans lo
    refine Wp.z ?_
    refine wpW (cs := [(80, ce_X4_wouldGet_t G D S)]) (stop := []) (n := 200) (env_cons (ceV (by decide +kernel) ⟨by decide, by decide, by decide +kernel⟩ (by decide) rfl (ok_X4_wouldGet_t G G D S hW)) (env_nil0 hhk_L_wouldGet)) ?_
    simp only [↓wpN_S, ↓step_u, ↓stC_s, stC_s, ↓stF_u, stF_u, ↓stepI, lenI, ↓kN_u, isS, ↓gI_0, ↓gI_S, ↓gL_0, ↓gL_S, ↓gD_0, ↓gD_S, ↓gR_0, ↓gR_S, ↓sI_c, ↓sL_c, ↓sD_c, ↓sR_c, ↓s1_r, ↓s1_i, ↓vR_r, ↓vR_n, ↓s0_n, s0_n, ↓oR_u, ↓sP_u, ↓sPa_0, ↓sPa_S, ↓lkC_c, ↓callK_u, ↓cQ_s, ↓cQ_n, putL, putW, clr, kil, catS, catN, refF, booF, finF, nF, nmOf_0, nmOf_1, nmOf_2, nmOf_3, nmOf_4, nmOf_5, nmOf_6, nmOf_50, nmOf_51, nmOf_52, ↓reduceIte, reduceIte, Bool.false_eq_true, eq_self, true_or, or_true, true_and, and_true, false_or, or_false, Nat.reduceAdd, Nat.reduceSub, Nat.reduceEqDiff, Nat.reduceLT, Nat.reduceLeDiff, reduceCtorEq, true_implies, List.length_cons, List.length_nil, List.replicate, List.cons_append, List.nil_append, mrt_L_wouldGet, mhh_L_wouldGet, mow_L_wouldGet, mnl_L_wouldGet, DL_wouldGet_0, DL_wouldGet_1, DL_wouldGet_2, DL_wouldGet_3, DL_wouldGet_4, DL_wouldGet_5, DL_wouldGet_8, DL_wouldGet_9, DL_wouldGet_10, DL_wouldGet_13, DL_wouldGet_15, DL_wouldGet_16, DL_wouldGet_17, DL_wouldGet_19, DL_wouldGet_20, DL_wouldGet_21, DL_wouldGet_22, ce_X4_wouldGet_t, ↓ct_X4_wouldGet_t, ycl_X4_wouldGet, nxc, nxr, cX_L_wouldGet_IOB, cX_L_wouldGet_IAE]
    simp (disch := omega) only [i32_lit, i32_neg, i32_add, i32_mul, i32_sub, i32_nI, i32_lt, i32_le, i32_eq, inR_i, i32_clamp, i32_div, i32_max, i32_min, ite_max, ite_min, b2i_0, b2i_1, b2i_01, i32_toInt, tn_i, Int.toNat_natCast, em_t, true_and, and_true, Int.reduceToNat, Int.reduceLE, Int.reduceLT, Int.reduceAdd, Int.reduceMul, Int.reduceSub, Int.reduceNeg, Int.reduceEq, true_implies, not_true_eq_false, false_implies, not_false_eq_true, ko', lo']
    repeat (refine And.intro (by first | omega | decide) ?_)
    exact hq 0 _ _ (Or.inl ⟨hv, rfl, rfl, rfl⟩) _ D' e (f'.tr (Fr.sL (Or.inr rfl))) w hI'.la (fun _ => ja_o)
  · exact fun _ => hq 1 0 S (Or.inr (Or.inl ⟨he, rfl, rfl⟩)) h D rfl Fr.rf (fun _ => Or.inl) hI (fun z => absurd z (by decide))
  · exact fun _ => hq 2 0 S (Or.inr (Or.inr ⟨he, rfl, rfl⟩)) h D rfl Fr.rf (fun _ => Or.inl) hI (fun z => absurd z (by decide))
