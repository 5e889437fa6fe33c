/-! ===== the law: its calls of the class, on ===== -/
/-! area -/
theorem hhk_L_area : hhOK (mow ML_area) (mhh ML_area) := show hhOK RL [(0, 10, 13, 21)] from (hhOK_c 52 (by decide +kernel) hhOK_nil)
theorem cX_L_area_IOB {PX : String → Hp → Prop} {K : Nat → Ls → List Value → Hp → Nat × Nat → Prop} {ls : Ls} {b : Nat × Nat} {h : Hp} : cX ML_area PX K 5 ls b IOB h = ∀ a, K 13 ls [.ref a] h b := cX_some (by rw [mhh_L_area]; exact List.cons_ne_nil _ _) (by decide +kernel)
def ct_L_area (G : GT) (D : WD) (S : SS) : Ct := fun As h Q _ => sR As fun cx r => sI r fun b r => sI r fun hr r => sR r fun ou r => s0 r (CI G h D S ∧ WW S ∧ cx = D 0 0 ∧ kd h ou = 23 ∧ ln h ou = 1 ∧ ∀ kk vv T, OC_area S b hr kk vv T → nxL G h D S ou Q kk vv T)
def ce_L_area (G : GT) (D : WD) (S : SS) : CE := (1, yL_area, ML_area, 4, 11, 4, 24, ct_L_area G D S)
set_option maxRecDepth 100000 in
set_option maxHeartbeats 4000000 in
theorem ok_L_area (G : GT) (G : GT) (D : WD) (S : SS) (hW : WF S) : OKm G yL_area ML_area 11 4 24 (ct_L_area G D S) := by
  refine mkOK (ini := false) (by decide) rfl (by first | exact fun _ => rfl | (intro hh; cases hh)) (fun As h Q QX hc => ?_)
  replace hc := sR_e hc; obtain ⟨cx, r, rfl, hc⟩ := hc
  replace hc := sI_e hc; obtain ⟨b, r, rfl, hc⟩ := hc
  replace hc := sI_e hc; obtain ⟨hr, r, rfl, hc⟩ := hc
  replace hc := sR_e hc; obtain ⟨ou, r, rfl, hc⟩ := hc
  replace hc := s0_e hc; obtain ⟨rfl, hc⟩ := hc
  obtain ⟨hI, hw, rfl, ko, lo, hq⟩ := hc
  have hD := hI.cd
  have k0 : kd h (D 0 0) = 6 := hI.1.1.1
  refine ⟨Nat.le_of_ble_eq_true rfl, ?_⟩
  simp only [ent, entL, catN, List.length_cons, List.length_nil, List.replicate, List.cons_append, List.nil_append, reduceIte, Nat.reduceEqDiff,  Nat.reduceAdd, Nat.reduceSub, mnl_L_area]
  refine wpW (cs := [(41, ce_X4_area_t G D S)]) (stop := [8]) (n := 200) (env_cons (ceV (by decide +kernel) ⟨by decide, by decide, by decide +kernel⟩ (by decide) rfl (ok_X4_area_t G G D S hW)) (env_nil0 hhk_L_area)) ?_
  simp only [↓wpN_S, ↓step_u, ↓stC_s, stC_s, ↓stF_u, stF_u, ↓stepI, lenI, ↓kN_u, isS, ↓gI_0, ↓gI_S, ↓gL_0, ↓gL_S, ↓gD_0, ↓gD_S, ↓gR_0, ↓gR_S, ↓sI_c, ↓sL_c, ↓sD_c, ↓sR_c, ↓s1_r, ↓s1_i, ↓vR_r, ↓vR_n, ↓s0_n, s0_n, ↓oR_u, ↓sP_u, ↓sPa_0, ↓sPa_S, ↓lkC_c, ↓callK_u, ↓cQ_s, ↓cQ_n, putL, putW, clr, kil, catS, catN, refF, booF, finF, nF, nmOf_0, nmOf_1, nmOf_2, nmOf_3, nmOf_4, nmOf_5, nmOf_6, nmOf_50, nmOf_51, nmOf_52, ↓reduceIte, reduceIte, Bool.false_eq_true, eq_self, true_or, or_true, true_and, and_true, false_or, or_false, Nat.reduceAdd, Nat.reduceSub, Nat.reduceEqDiff, Nat.reduceLT, Nat.reduceLeDiff, reduceCtorEq, true_implies, List.length_cons, List.length_nil, List.replicate, List.cons_append, List.nil_append, mrt_L_area, mhh_L_area, mow_L_area, mnl_L_area, DL_area_0, DL_area_1, DL_area_2, DL_area_3, DL_area_4, DL_area_5, DL_area_8, DL_area_9, DL_area_10, DL_area_13, DL_area_15, DL_area_16, DL_area_17, DL_area_18, ce_X4_area_t, ↓ct_X4_area_t, ycl_X4_area, nxc, nxr, cX_L_area_IOB]
  simp only [k0, hI, hD, hw, nmOf_5, Nat.reduceSub, Nat.reduceLT, Nat.reduceEqDiff, ne_eq, not_false_eq_true, true_and, and_true]
  refine ⟨fun hv => ?_, fun he => ?_⟩
  · intro h' f hI'
    have f' : Fr h h' (fun a => WO D S a ∨ a = ou) := f.up (fun a q => Or.inl (WK.wo a q))
    have ko' : kd h' ou = 23 := (f' ou (by omega)).1.1.trans ko
    have lo' : ln h' ou = 1 := (f' ou (by omega)).1.2.trans lo
    refine Wp.z ?_
    refine wpW (cs := [(41, ce_X4_area_t G D S)]) (stop := []) (n := 200) (env_cons (ceV (by decide +kernel) ⟨by decide, by decide, by decide +kernel⟩ (by decide) rfl (ok_X4_area_t G G D S hW)) (env_nil0 hhk_L_area)) ?_
    simp only [↓wpN_S, ↓step_u, ↓stC_s, stC_s, ↓stF_u, stF_u, ↓stepI, lenI, ↓kN_u, isS, ↓gI_0, ↓gI_S, ↓gL_0, ↓gL_S, ↓gD_0, ↓gD_S, ↓gR_0, ↓gR_S, ↓sI_c, ↓sL_c, ↓sD_c, ↓sR_c, ↓s1_r, ↓s1_i, ↓vR_r, ↓vR_n, ↓s0_n, s0_n, ↓oR_u, ↓sP_u, ↓sPa_0, ↓sPa_S, ↓lkC_c, ↓callK_u, ↓cQ_s, ↓cQ_n, putL, putW, clr, kil, catS, catN, refF, booF, finF, nF, nmOf_0, nmOf_1, nmOf_2, nmOf_3, nmOf_4, nmOf_5, nmOf_6, nmOf_50, nmOf_51, nmOf_52, ↓reduceIte, reduceIte, Bool.false_eq_true, eq_self, true_or, or_true, true_and, and_true, false_or, or_false, Nat.reduceAdd, Nat.reduceSub, Nat.reduceEqDiff, Nat.reduceLT, Nat.reduceLeDiff, reduceCtorEq, true_implies, List.length_cons, List.length_nil, List.replicate, List.cons_append, List.nil_append, mrt_L_area, mhh_L_area, mow_L_area, mnl_L_area, DL_area_0, DL_area_1, DL_area_2, DL_area_3, DL_area_4, DL_area_5, DL_area_8, DL_area_9, DL_area_10, DL_area_13, DL_area_15, DL_area_16, DL_area_17, DL_area_18, ce_X4_area_t, ↓ct_X4_area_t, ycl_X4_area, nxc, nxr, cX_L_area_IOB]
    simp (disch := omega) only [i32_lit, i32_neg, i32_add, i32_mul, i32_sub, i32_nI, i32_lt, i32_le, i32_eq, inR_i, i32_clamp, i32_div, i32_max, i32_min, ite_max, ite_min, b2i_0, b2i_1, b2i_01, i32_toInt, tn_i, Int.toNat_natCast, em_t, true_and, and_true, Int.reduceToNat, Int.reduceLE, Int.reduceLT, Int.reduceAdd, Int.reduceMul, Int.reduceSub, Int.reduceNeg, Int.reduceEq, true_implies, not_true_eq_false, false_implies, not_false_eq_true, ko', lo']
    repeat (refine And.intro (by first | omega | decide) ?_)
    exact hq 0 _ _ (Or.inl ⟨hv, rfl, rfl, rfl⟩) _ D rfl (f'.tr (Fr.sL (Or.inr rfl))) (fun _ => Or.inl) hI'.la (fun _ => ja_o)
  · exact fun _ => hq 1 0 S (Or.inr ⟨he, rfl, rfl⟩) h D rfl Fr.rf (fun _ => Or.inl) hI (fun z => absurd z (by decide))
/-! inHour -/
theorem hhk_L_inHour : hhOK (mow ML_inHour) (mhh ML_inHour) := show hhOK RL [(0, 10, 13, 21)] from (hhOK_c 52 (by decide +kernel) hhOK_nil)
theorem cX_L_inHour_IOB {PX : String → Hp → Prop} {K : Nat → Ls → List Value → Hp → Nat × Nat → Prop} {ls : Ls} {b : Nat × Nat} {h : Hp} : cX ML_inHour PX K 5 ls b IOB h = ∀ a, K 13 ls [.ref a] h b := cX_some (by rw [mhh_L_inHour]; exact List.cons_ne_nil _ _) (by decide +kernel)
def ct_L_inHour (G : GT) (D : WD) (S : SS) : Ct := fun As h Q _ => sR As fun cx r => sI r fun hr r => sI r fun w r => sR r fun ou r => s0 r (CI G h D S ∧ WW S ∧ cx = D 0 0 ∧ kd h ou = 23 ∧ ln h ou = 1 ∧ ∀ kk vv T, OC_inHour S hr w kk vv T → nxL G h D S ou Q kk vv T)
def ce_L_inHour (G : GT) (D : WD) (S : SS) : CE := (1, yL_inHour, ML_inHour, 4, 11, 4, 24, ct_L_inHour G D S)
set_option maxRecDepth 100000 in
set_option maxHeartbeats 4000000 in
theorem ok_L_inHour (G : GT) (G : GT) (D : WD) (S : SS) (hW : WF S) : OKm G yL_inHour ML_inHour 11 4 24 (ct_L_inHour G D S) := by
  refine mkOK (ini := false) (by decide) rfl (by first | exact fun _ => rfl | (intro hh; cases hh)) (fun As h Q QX hc => ?_)
  replace hc := sR_e hc; obtain ⟨cx, r, rfl, hc⟩ := hc
  replace hc := sI_e hc; obtain ⟨hr, r, rfl, hc⟩ := hc
  replace hc := sI_e hc; obtain ⟨w, r, rfl, hc⟩ := hc
  replace hc := sR_e hc; obtain ⟨ou, r, rfl, hc⟩ := hc
  replace hc := s0_e hc; obtain ⟨rfl, hc⟩ := hc
  obtain ⟨hI, hw, rfl, ko, lo, hq⟩ := hc
  have hD := hI.cd
  have k0 : kd h (D 0 0) = 6 := hI.1.1.1
  refine ⟨Nat.le_of_ble_eq_true rfl, ?_⟩
  simp only [ent, entL, catN, List.length_cons, List.length_nil, List.replicate, List.cons_append, List.nil_append, reduceIte, Nat.reduceEqDiff,  Nat.reduceAdd, Nat.reduceSub, mnl_L_inHour]
  refine wpW (cs := [(44, ce_X4_inHour_t G D S)]) (stop := [8]) (n := 200) (env_cons (ceV (by decide +kernel) ⟨by decide, by decide, by decide +kernel⟩ (by decide) rfl (ok_X4_inHour_t G G D S hW)) (env_nil0 hhk_L_inHour)) ?_
  simp only [↓wpN_S, ↓step_u, ↓stC_s, stC_s, ↓stF_u, stF_u, ↓stepI, lenI, ↓kN_u, isS, ↓gI_0, ↓gI_S, ↓gL_0, ↓gL_S, ↓gD_0, ↓gD_S, ↓gR_0, ↓gR_S, ↓sI_c, ↓sL_c, ↓sD_c, ↓sR_c, ↓s1_r, ↓s1_i, ↓vR_r, ↓vR_n, ↓s0_n, s0_n, ↓oR_u, ↓sP_u, ↓sPa_0, ↓sPa_S, ↓lkC_c, ↓callK_u, ↓cQ_s, ↓cQ_n, putL, putW, clr, kil, catS, catN, refF, booF, finF, nF, nmOf_0, nmOf_1, nmOf_2, nmOf_3, nmOf_4, nmOf_5, nmOf_6, nmOf_50, nmOf_51, nmOf_52, ↓reduceIte, reduceIte, Bool.false_eq_true, eq_self, true_or, or_true, true_and, and_true, false_or, or_false, Nat.reduceAdd, Nat.reduceSub, Nat.reduceEqDiff, Nat.reduceLT, Nat.reduceLeDiff, reduceCtorEq, true_implies, List.length_cons, List.length_nil, List.replicate, List.cons_append, List.nil_append, mrt_L_inHour, mhh_L_inHour, mow_L_inHour, mnl_L_inHour, DL_inHour_0, DL_inHour_1, DL_inHour_2, DL_inHour_3, DL_inHour_4, DL_inHour_5, DL_inHour_8, DL_inHour_9, DL_inHour_10, DL_inHour_13, DL_inHour_15, DL_inHour_16, DL_inHour_17, DL_inHour_18, ce_X4_inHour_t, ↓ct_X4_inHour_t, ycl_X4_inHour, nxc, nxr, cX_L_inHour_IOB]
  simp only [k0, hI, hD, hw, nmOf_5, Nat.reduceSub, Nat.reduceLT, Nat.reduceEqDiff, ne_eq, not_false_eq_true, true_and, and_true]
  refine ⟨fun hv => ?_, fun he => ?_⟩
  · intro h' f hI'
    have f' : Fr h h' (fun a => WO D S a ∨ a = ou) := f.up (fun a q => Or.inl (WK.wo a q))
    have ko' : kd h' ou = 23 := (f' ou (by omega)).1.1.trans ko
    have lo' : ln h' ou = 1 := (f' ou (by omega)).1.2.trans lo
    refine Wp.z ?_
    refine wpW (cs := [(44, ce_X4_inHour_t G D S)]) (stop := []) (n := 200) (env_cons (ceV (by decide +kernel) ⟨by decide, by decide, by decide +kernel⟩ (by decide) rfl (ok_X4_inHour_t G G D S hW)) (env_nil0 hhk_L_inHour)) ?_
    simp only [↓wpN_S, ↓step_u, ↓stC_s, stC_s, ↓stF_u, stF_u, ↓stepI, lenI, ↓kN_u, isS, ↓gI_0, ↓gI_S, ↓gL_0, ↓gL_S, ↓gD_0, ↓gD_S, ↓gR_0, ↓gR_S, ↓sI_c, ↓sL_c, ↓sD_c, ↓sR_c, ↓s1_r, ↓s1_i, ↓vR_r, ↓vR_n, ↓s0_n, s0_n, ↓oR_u, ↓sP_u, ↓sPa_0, ↓sPa_S, ↓lkC_c, ↓callK_u, ↓cQ_s, ↓cQ_n, putL, putW, clr, kil, catS, catN, refF, booF, finF, nF, nmOf_0, nmOf_1, nmOf_2, nmOf_3, nmOf_4, nmOf_5, nmOf_6, nmOf_50, nmOf_51, nmOf_52, ↓reduceIte, reduceIte, Bool.false_eq_true, eq_self, true_or, or_true, true_and, and_true, false_or, or_false, Nat.reduceAdd, Nat.reduceSub, Nat.reduceEqDiff, Nat.reduceLT, Nat.reduceLeDiff, reduceCtorEq, true_implies, List.length_cons, List.length_nil, List.replicate, List.cons_append, List.nil_append, mrt_L_inHour, mhh_L_inHour, mow_L_inHour, mnl_L_inHour, DL_inHour_0, DL_inHour_1, DL_inHour_2, DL_inHour_3, DL_inHour_4, DL_inHour_5, DL_inHour_8, DL_inHour_9, DL_inHour_10, DL_inHour_13, DL_inHour_15, DL_inHour_16, DL_inHour_17, DL_inHour_18, ce_X4_inHour_t, ↓ct_X4_inHour_t, ycl_X4_inHour, nxc, nxr, cX_L_inHour_IOB]
    simp (disch := omega) only [i32_lit, i32_neg, i32_add, i32_mul, i32_sub, i32_nI, i32_lt, i32_le, i32_eq, inR_i, i32_clamp, i32_div, i32_max, i32_min, ite_max, ite_min, b2i_0, b2i_1, b2i_01, i32_toInt, tn_i, Int.toNat_natCast, em_t, true_and, and_true, Int.reduceToNat, Int.reduceLE, Int.reduceLT, Int.reduceAdd, Int.reduceMul, Int.reduceSub, Int.reduceNeg, Int.reduceEq, true_implies, not_true_eq_false, false_implies, not_false_eq_true, ko', lo']
    repeat (refine And.intro (by first | omega | decide) ?_)
    exact hq 0 _ _ (Or.inl ⟨hv, rfl, rfl, rfl⟩) _ D rfl (f'.tr (Fr.sL (Or.inr rfl))) (fun _ => Or.inl) hI'.la (fun _ => ja_o)
  · exact fun _ => hq 1 0 S (Or.inr ⟨he, rfl, rfl⟩) h D rfl Fr.rf (fun _ => Or.inl) hI (fun z => absurd z (by decide))
/-! let -/
theorem hhk_L_let : hhOK (mow ML_let) (mhh ML_let) := show hhOK RL [(0, 18, 21, 21), (0, 18, 25, 13), (0, 18, 29, 15)] from (hhOK_c 52 (by decide +kernel) (hhOK_c 51 (by decide +kernel) (hhOK_c 50 (by decide +kernel) hhOK_nil)))
theorem cX_L_let_IOB {PX : String → Hp → Prop} {K : Nat → Ls → List Value → Hp → Nat × Nat → Prop} {ls : Ls} {b : Nat × Nat} {h : Hp} : cX ML_let PX K 13 ls b IOB h = ∀ a, K 21 ls [.ref a] h b := cX_some (by rw [mhh_L_let]; exact List.cons_ne_nil _ _) (by decide +kernel)
theorem cX_L_let_IAE {PX : String → Hp → Prop} {K : Nat → Ls → List Value → Hp → Nat × Nat → Prop} {ls : Ls} {b : Nat × Nat} {h : Hp} : cX ML_let PX K 13 ls b IAE h = ∀ a, K 25 ls [.ref a] h b := cX_some (by rw [mhh_L_let]; exact List.cons_ne_nil _ _) (by decide +kernel)
theorem cX_L_let_ISE {PX : String → Hp → Prop} {K : Nat → Ls → List Value → Hp → Nat × Nat → Prop} {ls : Ls} {b : Nat × Nat} {h : Hp} : cX ML_let PX K 13 ls b ISE h = ∀ a, K 29 ls [.ref a] h b := cX_some (by rw [mhh_L_let]; exact List.cons_ne_nil _ _) (by decide +kernel)
def ct_L_let (G : GT) (D : WD) (S : SS) : Ct := fun As h Q _ => sR As fun cx r => sI r fun b r => sI r fun t r => sI r fun f r => sI r fun l r => sI r fun c r => sI r fun p r => sR r fun ou r => s0 r (CI G h D S ∧ WW S ∧ cx = D 0 0 ∧ kd h ou = 23 ∧ ln h ou = 1 ∧ ∀ kk vv T, OC_let S b t f l c p kk vv T → nxL G h D S ou Q kk vv T)
def ce_L_let (G : GT) (D : WD) (S : SS) : CE := (1, yL_let, ML_let, 8, 11, 9, 112, ct_L_let G D S)
set_option maxRecDepth 100000 in
set_option maxHeartbeats 4000000 in
theorem ok_L_let (G : GT) (G : GT) (D : WD) (S : SS) (hW : WF S) : OKm G yL_let ML_let 11 9 112 (ct_L_let G D S) := by
  refine mkOK (ini := false) (by decide) rfl (by first | exact fun _ => rfl | (intro hh; cases hh)) (fun As h Q QX hc => ?_)
  replace hc := sR_e hc; obtain ⟨cx, r, rfl, hc⟩ := hc
  replace hc := sI_e hc; obtain ⟨b, r, rfl, hc⟩ := hc
  replace hc := sI_e hc; obtain ⟨t, r, rfl, hc⟩ := hc
  replace hc := sI_e hc; obtain ⟨f, r, rfl, hc⟩ := hc
  replace hc := sI_e hc; obtain ⟨l, r, rfl, hc⟩ := hc
  replace hc := sI_e hc; obtain ⟨c, r, rfl, hc⟩ := hc
  replace hc := sI_e hc; obtain ⟨p, r, rfl, hc⟩ := hc
  replace hc := sR_e hc; obtain ⟨ou, r, rfl, hc⟩ := hc
  replace hc := s0_e hc; obtain ⟨rfl, hc⟩ := hc
  obtain ⟨hI, hw, rfl, ko, lo, hq⟩ := hc
  have hD := hI.cd
  have k0 : kd h (D 0 0) = 6 := hI.1.1.1
  refine ⟨Nat.le_of_ble_eq_true rfl, ?_⟩
  simp only [ent, entL, catN, List.length_cons, List.length_nil, List.replicate, List.cons_append, List.nil_append, reduceIte, Nat.reduceEqDiff,  Nat.reduceAdd, Nat.reduceSub, mnl_L_let]
  refine wpW (cs := [(47, ce_X4_let_t G D S)]) (stop := [16]) (n := 200) (env_cons (ceV (by decide +kernel) ⟨by decide, by decide, by decide +kernel⟩ (by decide) rfl (ok_X4_let_t G G D S hW)) (env_nil0 hhk_L_let)) ?_
  simp only [↓wpN_S, ↓step_u, ↓stC_s, stC_s, ↓stF_u, stF_u, ↓stepI, lenI, ↓kN_u, isS, ↓gI_0, ↓gI_S, ↓gL_0, ↓gL_S, ↓gD_0, ↓gD_S, ↓gR_0, ↓gR_S, ↓sI_c, ↓sL_c, ↓sD_c, ↓sR_c, ↓s1_r, ↓s1_i, ↓vR_r, ↓vR_n, ↓s0_n, s0_n, ↓oR_u, ↓sP_u, ↓sPa_0, ↓sPa_S, ↓lkC_c, ↓callK_u, ↓cQ_s, ↓cQ_n, putL, putW, clr, kil, catS, catN, refF, booF, finF, nF, nmOf_0, nmOf_1, nmOf_2, nmOf_3, nmOf_4, nmOf_5, nmOf_6, nmOf_50, nmOf_51, nmOf_52, ↓reduceIte, reduceIte, Bool.false_eq_true, eq_self, true_or, or_true, true_and, and_true, false_or, or_false, Nat.reduceAdd, Nat.reduceSub, Nat.reduceEqDiff, Nat.reduceLT, Nat.reduceLeDiff, reduceCtorEq, true_implies, List.length_cons, List.length_nil, List.replicate, List.cons_append, List.nil_append, mrt_L_let, mhh_L_let, mow_L_let, mnl_L_let, DL_let_0, DL_let_2, DL_let_3, DL_let_4, DL_let_5, DL_let_6, DL_let_7, DL_let_9, DL_let_11, DL_let_13, DL_let_16, DL_let_17, DL_let_18, DL_let_21, DL_let_23, DL_let_24, DL_let_25, DL_let_27, DL_let_28, DL_let_29, DL_let_31, DL_let_32, DL_let_33, DL_let_34, ce_X4_let_t, ↓ct_X4_let_t, ycl_X4_let, nxc, nxr, cX_L_let_IOB, cX_L_let_IAE, cX_L_let_ISE]
  simp only [k0, hI, hD, hw, nmOf_5, Nat.reduceSub, Nat.reduceLT, Nat.reduceEqDiff, ne_eq, not_false_eq_true, true_and, and_true]
  refine ⟨fun hv => ?_, fun he => ?_, fun he => ?_, fun he => ?_⟩
  · intro h' D' e f w hI'
    have f' : Fr h h' (fun a => WO D S a ∨ a = ou) := f.up (fun _ => Or.inl)
    have ko' : kd h' ou = 23 := (f' ou (by omega)).1.1.trans ko
    have lo' : ln h' ou = 1 := (f' ou (by omega)).1.2.trans lo
    refine Wp.z ?_
    refine wpW (cs := [(47, ce_X4_let_t G D S)]) (stop := []) (n := 200) (env_cons (ceV (by decide +kernel) ⟨by decide, by decide, by decide +kernel⟩ (by decide) rfl (ok_X4_let_t G G D S hW)) (env_nil0 hhk_L_let)) ?_
    simp only [↓wpN_S, ↓step_u, ↓stC_s, stC_s, ↓stF_u, stF_u, ↓stepI, lenI, ↓kN_u, isS, ↓gI_0, ↓gI_S, ↓gL_0, ↓gL_S, ↓gD_0, ↓gD_S, ↓gR_0, ↓gR_S, ↓sI_c, ↓sL_c, ↓sD_c, ↓sR_c, ↓s1_r, ↓s1_i, ↓vR_r, ↓vR_n, ↓s0_n, s0_n, ↓oR_u, ↓sP_u, ↓sPa_0, ↓sPa_S, ↓lkC_c, ↓callK_u, ↓cQ_s, ↓cQ_n, putL, putW, clr, kil, catS, catN, refF, booF, finF, nF, nmOf_0, nmOf_1, nmOf_2, nmOf_3, nmOf_4, nmOf_5, nmOf_6, nmOf_50, nmOf_51, nmOf_52, ↓reduceIte, reduceIte, Bool.false_eq_true, eq_self, true_or, or_true, true_and, and_true, false_or, or_false, Nat.reduceAdd, Nat.reduceSub, Nat.reduceEqDiff, Nat.reduceLT, Nat.reduceLeDiff, reduceCtorEq, true_implies, List.length_cons, List.length_nil, List.replicate, List.cons_append, List.nil_append, mrt_L_let, mhh_L_let, mow_L_let, mnl_L_let, DL_let_0, DL_let_2, DL_let_3, DL_let_4, DL_let_5, DL_let_6, DL_let_7, DL_let_9, DL_let_11, DL_let_13, DL_let_16, DL_let_17, DL_let_18, DL_let_21, DL_let_23, DL_let_24, DL_let_25, DL_let_27, DL_let_28, DL_let_29, DL_let_31, DL_let_32, DL_let_33, DL_let_34, ce_X4_let_t, ↓ct_X4_let_t, ycl_X4_let, nxc, nxr, cX_L_let_IOB, cX_L_let_IAE, cX_L_let_ISE]
    simp (disch := omega) only [i32_lit, i32_neg, i32_add, i32_mul, i32_sub, i32_nI, i32_lt, i32_le, i32_eq, inR_i, i32_clamp, i32_div, i32_max, i32_min, ite_max, ite_min, b2i_0, b2i_1, b2i_01, i32_toInt, tn_i, Int.toNat_natCast, em_t, true_and, and_true, Int.reduceToNat, Int.reduceLE, Int.reduceLT, Int.reduceAdd, Int.reduceMul, Int.reduceSub, Int.reduceNeg, Int.reduceEq, true_implies, not_true_eq_false, false_implies, not_false_eq_true, ko', lo']
    repeat (refine And.intro (by first | omega | decide) ?_)
    exact hq 0 _ _ (Or.inl ⟨hv, rfl, rfl, rfl⟩) _ D' e (f'.tr (Fr.sL (Or.inr rfl))) w hI'.la (fun _ => ja_o)
  · exact fun _ => hq 1 0 S (Or.inr (Or.inl ⟨he, rfl, rfl⟩)) h D rfl Fr.rf (fun _ => Or.inl) hI (fun z => absurd z (by decide))
  · exact fun _ => hq 2 0 S (Or.inr (Or.inr (Or.inl ⟨he, rfl, rfl⟩))) h D rfl Fr.rf (fun _ => Or.inl) hI (fun z => absurd z (by decide))
  · exact fun _ => hq 3 0 S (Or.inr (Or.inr (Or.inr ⟨he, rfl, rfl⟩))) h D rfl Fr.rf (fun _ => Or.inl) hI (fun z => absurd z (by decide))
/-! end -/
theorem hhk_L_end : hhOK (mow ML_end) (mhh ML_end) := show hhOK RL [(0, 9, 12, 21)] from (hhOK_c 52 (by decide +kernel) hhOK_nil)
theorem cX_L_end_IOB {PX : String → Hp → Prop} {K : Nat → Ls → List Value → Hp → Nat × Nat → Prop} {ls : Ls} {b : Nat × Nat} {h : Hp} : cX ML_end PX K 4 ls b IOB h = ∀ a, K 12 ls [.ref a] h b := cX_some (by rw [mhh_L_end]; exact List.cons_ne_nil _ _) (by decide +kernel)
def ct_L_end (G : GT) (D : WD) (S : SS) : Ct := fun As h Q _ => sR As fun cx r => sI r fun l r => sR r fun ou r => s0 r (CI G h D S ∧ WW S ∧ cx = D 0 0 ∧ kd h ou = 23 ∧ ln h ou = 1 ∧ ∀ kk vv T, OC_end S l kk vv T → nxL G h D S ou Q kk vv T)
def ce_L_end (G : GT) (D : WD) (S : SS) : CE := (1, yL_end, ML_end, 3, 11, 8, 48, ct_L_end G D S)
set_option maxRecDepth 100000 in
set_option maxHeartbeats 4000000 in
theorem ok_L_end (G : GT) (G : GT) (D : WD) (S : SS) (hW : WF S) : OKm G yL_end ML_end 11 8 48 (ct_L_end G D S) := by
  refine mkOK (ini := false) (by decide) rfl (by first | exact fun _ => rfl | (intro hh; cases hh)) (fun As h Q QX hc => ?_)
  replace hc := sR_e hc; obtain ⟨cx, r, rfl, hc⟩ := hc
  replace hc := sI_e hc; obtain ⟨l, r, rfl, hc⟩ := hc
  replace hc := sR_e hc; obtain ⟨ou, r, rfl, hc⟩ := hc
  replace hc := s0_e hc; obtain ⟨rfl, hc⟩ := hc
  obtain ⟨hI, hw, rfl, ko, lo, hq⟩ := hc
  have hD := hI.cd
  have k0 : kd h (D 0 0) = 6 := hI.1.1.1
  refine ⟨Nat.le_of_ble_eq_true rfl, ?_⟩
  simp only [ent, entL, catN, List.length_cons, List.length_nil, List.replicate, List.cons_append, List.nil_append, reduceIte, Nat.reduceEqDiff,  Nat.reduceAdd, Nat.reduceSub, mnl_L_end]
  refine wpW (cs := [(50, ce_X4_end_t G D S)]) (stop := [7]) (n := 200) (env_cons (ceV (by decide +kernel) ⟨by decide, by decide, by decide +kernel⟩ (by decide) rfl (ok_X4_end_t G G D S hW)) (env_nil0 hhk_L_end)) ?_
  simp only [↓wpN_S, ↓step_u, ↓stC_s, stC_s, ↓stF_u, stF_u, ↓stepI, lenI, ↓kN_u, isS, ↓gI_0, ↓gI_S, ↓gL_0, ↓gL_S, ↓gD_0, ↓gD_S, ↓gR_0, ↓gR_S, ↓sI_c, ↓sL_c, ↓sD_c, ↓sR_c, ↓s1_r, ↓s1_i, ↓vR_r, ↓vR_n, ↓s0_n, s0_n, ↓oR_u, ↓sP_u, ↓sPa_0, ↓sPa_S, ↓lkC_c, ↓callK_u, ↓cQ_s, ↓cQ_n, putL, putW, clr, kil, catS, catN, refF, booF, finF, nF, nmOf_0, nmOf_1, nmOf_2, nmOf_3, nmOf_4, nmOf_5, nmOf_6, nmOf_50, nmOf_51, nmOf_52, ↓reduceIte, reduceIte, Bool.false_eq_true, eq_self, true_or, or_true, true_and, and_true, false_or, or_false, Nat.reduceAdd, Nat.reduceSub, Nat.reduceEqDiff, Nat.reduceLT, Nat.reduceLeDiff, reduceCtorEq, true_implies, List.length_cons, List.length_nil, List.replicate, List.cons_append, List.nil_append, mrt_L_end, mhh_L_end, mow_L_end, mnl_L_end, DL_end_0, DL_end_1, DL_end_2, DL_end_3, DL_end_4, DL_end_7, DL_end_8, DL_end_9, DL_end_12, DL_end_13, DL_end_14, DL_end_15, DL_end_16, ce_X4_end_t, ↓ct_X4_end_t, ycl_X4_end, nxc, nxr, cX_L_end_IOB]
  simp only [k0, hI, hD, hw, nmOf_5, Nat.reduceSub, Nat.reduceLT, Nat.reduceEqDiff, ne_eq, not_false_eq_true, true_and, and_true]
  refine ⟨fun hv => ?_, fun he => ?_⟩
  · intro h' D' e f w hI'
    have f' : Fr h h' (fun a => WO D S a ∨ a = ou) := f.up (fun _ => Or.inl)
    have ko' : kd h' ou = 23 := (f' ou (by omega)).1.1.trans ko
    have lo' : ln h' ou = 1 := (f' ou (by omega)).1.2.trans lo
    refine Wp.z ?_
    refine wpW (cs := [(50, ce_X4_end_t G D S)]) (stop := []) (n := 200) (env_cons (ceV (by decide +kernel) ⟨by decide, by decide, by decide +kernel⟩ (by decide) rfl (ok_X4_end_t G G D S hW)) (env_nil0 hhk_L_end)) ?_
    simp only [↓wpN_S, ↓step_u, ↓stC_s, stC_s, ↓stF_u, stF_u, ↓stepI, lenI, ↓kN_u, isS, ↓gI_0, ↓gI_S, ↓gL_0, ↓gL_S, ↓gD_0, ↓gD_S, ↓gR_0, ↓gR_S, ↓sI_c, ↓sL_c, ↓sD_c, ↓sR_c, ↓s1_r, ↓s1_i, ↓vR_r, ↓vR_n, ↓s0_n, s0_n, ↓oR_u, ↓sP_u, ↓sPa_0, ↓sPa_S, ↓lkC_c, ↓callK_u, ↓cQ_s, ↓cQ_n, putL, putW, clr, kil, catS, catN, refF, booF, finF, nF, nmOf_0, nmOf_1, nmOf_2, nmOf_3, nmOf_4, nmOf_5, nmOf_6, nmOf_50, nmOf_51, nmOf_52, ↓reduceIte, reduceIte, Bool.false_eq_true, eq_self, true_or, or_true, true_and, and_true, false_or, or_false, Nat.reduceAdd, Nat.reduceSub, Nat.reduceEqDiff, Nat.reduceLT, Nat.reduceLeDiff, reduceCtorEq, true_implies, List.length_cons, List.length_nil, List.replicate, List.cons_append, List.nil_append, mrt_L_end, mhh_L_end, mow_L_end, mnl_L_end, DL_end_0, DL_end_1, DL_end_2, DL_end_3, DL_end_4, DL_end_7, DL_end_8, DL_end_9, DL_end_12, DL_end_13, DL_end_14, DL_end_15, DL_end_16, ce_X4_end_t, ↓ct_X4_end_t, ycl_X4_end, nxc, nxr, cX_L_end_IOB]
    simp (disch := omega) only [i32_lit, i32_neg, i32_add, i32_mul, i32_sub, i32_nI, i32_lt, i32_le, i32_eq, inR_i, i32_clamp, i32_div, i32_max, i32_min, ite_max, ite_min, b2i_0, b2i_1, b2i_01, i32_toInt, tn_i, Int.toNat_natCast, em_t, true_and, and_true, Int.reduceToNat, Int.reduceLE, Int.reduceLT, Int.reduceAdd, Int.reduceMul, Int.reduceSub, Int.reduceNeg, Int.reduceEq, true_implies, not_true_eq_false, false_implies, not_false_eq_true, ko', lo']
    repeat (refine And.intro (by first | omega | decide) ?_)
    exact hq 0 _ _ (Or.inl ⟨hv, rfl, rfl, rfl⟩) _ D' e (f'.tr (Fr.sL (Or.inr rfl))) w hI'.la (fun _ => ja_o)
  · exact fun _ => hq 1 0 S (Or.inr ⟨he, rfl, rfl⟩) h D rfl Fr.rf (fun _ => Or.inl) hI (fun z => absurd z (by decide))
/-! setPrice -/
theorem hhk_L_setPrice : hhOK (mow ML_setPrice) (mhh ML_setPrice) := show hhOK RL [(0, 10, 13, 21), (0, 10, 17, 13)] from (hhOK_c 52 (by decide +kernel) (hhOK_c 51 (by decide +kernel) hhOK_nil))
theorem cX_L_setPrice_IOB {PX : String → Hp → Prop} {K : Nat → Ls → List Value → Hp → Nat × Nat → Prop} {ls : Ls} {b : Nat × Nat} {h : Hp} : cX ML_setPrice PX K 5 ls b IOB h = ∀ a, K 13 ls [.ref a] h b := cX_some (by rw [mhh_L_setPrice]; exact List.cons_ne_nil _ _) (by decide +kernel)
theorem cX_L_setPrice_IAE {PX : String → Hp → Prop} {K : Nat → Ls → List Value → Hp → Nat × Nat → Prop} {ls : Ls} {b : Nat × Nat} {h : Hp} : cX ML_setPrice PX K 5 ls b IAE h = ∀ a, K 17 ls [.ref a] h b := cX_some (by rw [mhh_L_setPrice]; exact List.cons_ne_nil _ _) (by decide +kernel)
def ct_L_setPrice (G : GT) (D : WD) (S : SS) : Ct := fun As h Q _ => sR As fun cx r => sI r fun l r => sI r fun p r => sR r fun ou r => s0 r (CI G h D S ∧ WW S ∧ cx = D 0 0 ∧ kd h ou = 23 ∧ ln h ou = 1 ∧ ∀ kk vv T, OC_setPrice S l p kk vv T → nxL G h D S ou Q kk vv T)
def ce_L_setPrice (G : GT) (D : WD) (S : SS) : CE := (1, yL_setPrice, ML_setPrice, 4, 11, 8, 48, ct_L_setPrice G D S)
set_option maxRecDepth 100000 in
set_option maxHeartbeats 4000000 in
theorem ok_L_setPrice (G : GT) (G : GT) (D : WD) (S : SS) (hW : WF S) : OKm G yL_setPrice ML_setPrice 11 8 48 (ct_L_setPrice G D S) := by
  refine mkOK (ini := false) (by decide) rfl (by first | exact fun _ => rfl | (intro hh; cases hh)) (fun As h Q QX hc => ?_)
  replace hc := sR_e hc; obtain ⟨cx, r, rfl, hc⟩ := hc
  replace hc := sI_e hc; obtain ⟨l, r, rfl, hc⟩ := hc
  replace hc := sI_e hc; obtain ⟨p, r, rfl, hc⟩ := hc
  replace hc := sR_e hc; obtain ⟨ou, r, rfl, hc⟩ := hc
  replace hc := s0_e hc; obtain ⟨rfl, hc⟩ := hc
  obtain ⟨hI, hw, rfl, ko, lo, hq⟩ := hc
  have hD := hI.cd
  have k0 : kd h (D 0 0) = 6 := hI.1.1.1
  refine ⟨Nat.le_of_ble_eq_true rfl, ?_⟩
  simp only [ent, entL, catN, List.length_cons, List.length_nil, List.replicate, List.cons_append, List.nil_append, reduceIte, Nat.reduceEqDiff,  Nat.reduceAdd, Nat.reduceSub, mnl_L_setPrice]
  refine wpW (cs := [(53, ce_X4_setPrice_t G D S)]) (stop := [8]) (n := 200) (env_cons (ceV (by decide +kernel) ⟨by decide, by decide, by decide +kernel⟩ (by decide) rfl (ok_X4_setPrice_t G G D S hW)) (env_nil0 hhk_L_setPrice)) ?_
  simp only [↓wpN_S, ↓step_u, ↓stC_s, stC_s, ↓stF_u, stF_u, ↓stepI, lenI, ↓kN_u, isS, ↓gI_0, ↓gI_S, ↓gL_0, ↓gL_S, ↓gD_0, ↓gD_S, ↓gR_0, ↓gR_S, ↓sI_c, ↓sL_c, ↓sD_c, ↓sR_c, ↓s1_r, ↓s1_i, ↓vR_r, ↓vR_n, ↓s0_n, s0_n, ↓oR_u, ↓sP_u, ↓sPa_0, ↓sPa_S, ↓lkC_c, ↓callK_u, ↓cQ_s, ↓cQ_n, putL, putW, clr, kil, catS, catN, refF, booF, finF, nF, nmOf_0, nmOf_1, nmOf_2, nmOf_3, nmOf_4, nmOf_5, nmOf_6, nmOf_50, nmOf_51, nmOf_52, ↓reduceIte, reduceIte, Bool.false_eq_true, eq_self, true_or, or_true, true_and, and_true, false_or, or_false, Nat.reduceAdd, Nat.reduceSub, Nat.reduceEqDiff, Nat.reduceLT, Nat.reduceLeDiff, reduceCtorEq, true_implies, List.length_cons, List.length_nil, List.replicate, List.cons_append, List.nil_append, mrt_L_setPrice, mhh_L_setPrice, mow_L_setPrice, mnl_L_setPrice, DL_setPrice_0, DL_setPrice_1, DL_setPrice_2, DL_setPrice_3, DL_setPrice_4, DL_setPrice_5, DL_setPrice_8, DL_setPrice_9, DL_setPrice_10, DL_setPrice_13, DL_setPrice_15, DL_setPrice_16, DL_setPrice_17, DL_setPrice_19, DL_setPrice_20, DL_setPrice_21, DL_setPrice_22, ce_X4_setPrice_t, ↓ct_X4_setPrice_t, ycl_X4_setPrice, nxc, nxr, cX_L_setPrice_IOB, cX_L_setPrice_IAE]
  simp only [k0, hI, hD, hw, nmOf_5, Nat.reduceSub, Nat.reduceLT, Nat.reduceEqDiff, ne_eq, not_false_eq_true, true_and, and_true]
  refine ⟨fun hv => ?_, fun he => ?_, fun he => ?_⟩
  · intro h' D' e f w hI'
    have f' : Fr h h' (fun a => WO D S a ∨ a = ou) := f.up (fun _ => Or.inl)
    have ko' : kd h' ou = 23 := (f' ou (by omega)).1.1.trans ko
    have lo' : ln h' ou = 1 := (f' ou (by omega)).1.2.trans lo
    refine Wp.z ?_
    refine wpW (cs := [(53, ce_X4_setPrice_t G D S)]) (stop := []) (n := 200) (env_cons (ceV (by decide +kernel) ⟨by decide, by decide, by decide +kernel⟩ (by decide) rfl (ok_X4_setPrice_t G G D S hW)) (env_nil0 hhk_L_setPrice)) ?_
    simp only [↓wpN_S, ↓step_u, ↓stC_s, stC_s, ↓stF_u, stF_u, ↓stepI, lenI, ↓kN_u, isS, ↓gI_0, ↓gI_S, ↓gL_0, ↓gL_S, ↓gD_0, ↓gD_S, ↓gR_0, ↓gR_S, ↓sI_c, ↓sL_c, ↓sD_c, ↓sR_c, ↓s1_r, ↓s1_i, ↓vR_r, ↓vR_n, ↓s0_n, s0_n, ↓oR_u, ↓sP_u, ↓sPa_0, ↓sPa_S, ↓lkC_c, ↓callK_u, ↓cQ_s, ↓cQ_n, putL, putW, clr, kil, catS, catN, refF, booF, finF, nF, nmOf_0, nmOf_1, nmOf_2, nmOf_3, nmOf_4, nmOf_5, nmOf_6, nmOf_50, nmOf_51, nmOf_52, ↓reduceIte, reduceIte, Bool.false_eq_true, eq_self, true_or, or_true, true_and, and_true, false_or, or_false, Nat.reduceAdd, Nat.reduceSub, Nat.reduceEqDiff, Nat.reduceLT, Nat.reduceLeDiff, reduceCtorEq, true_implies, List.length_cons, List.length_nil, List.replicate, List.cons_append, List.nil_append, mrt_L_setPrice, mhh_L_setPrice, mow_L_setPrice, mnl_L_setPrice, DL_setPrice_0, DL_setPrice_1, DL_setPrice_2, DL_setPrice_3, DL_setPrice_4, DL_setPrice_5, DL_setPrice_8, DL_setPrice_9, DL_setPrice_10, DL_setPrice_13, DL_setPrice_15, DL_setPrice_16, DL_setPrice_17, DL_setPrice_19, DL_setPrice_20, DL_setPrice_21, DL_setPrice_22, ce_X4_setPrice_t, ↓ct_X4_setPrice_t, ycl_X4_setPrice, nxc, nxr, cX_L_setPrice_IOB, cX_L_setPrice_IAE]
    simp (disch := omega) only [i32_lit, i32_neg, i32_add, i32_mul, i32_sub, i32_nI, i32_lt, i32_le, i32_eq, inR_i, i32_clamp, i32_div, i32_max, i32_min, ite_max, ite_min, b2i_0, b2i_1, b2i_01, i32_toInt, tn_i, Int.toNat_natCast, em_t, true_and, and_true, Int.reduceToNat, Int.reduceLE, Int.reduceLT, Int.reduceAdd, Int.reduceMul, Int.reduceSub, Int.reduceNeg, Int.reduceEq, true_implies, not_true_eq_false, false_implies, not_false_eq_true, ko', lo']
    repeat (refine And.intro (by first | omega | decide) ?_)
    exact hq 0 _ _ (Or.inl ⟨hv, rfl, rfl, rfl⟩) _ D' e (f'.tr (Fr.sL (Or.inr rfl))) w hI'.la (fun _ => ja_o)
  · exact fun _ => hq 1 0 S (Or.inr (Or.inl ⟨he, rfl, rfl⟩)) h D rfl Fr.rf (fun _ => Or.inl) hI (fun z => absurd z (by decide))
  · exact fun _ => hq 2 0 S (Or.inr (Or.inr ⟨he, rfl, rfl⟩)) h D rfl Fr.rf (fun _ => Or.inl) hI (fun z => absurd z (by decide))
/-! lease -/
theorem hhk_L_lease : hhOK (mow ML_lease) (mhh ML_lease) := show hhOK RL [(0, 10, 13, 21)] from (hhOK_c 52 (by decide +kernel) hhOK_nil)
theorem cX_L_lease_IOB {PX : String → Hp → Prop} {K : Nat → Ls → List Value → Hp → Nat × Nat → Prop} {ls : Ls} {b : Nat × Nat} {h : Hp} : cX ML_lease PX K 5 ls b IOB h = ∀ a, K 13 ls [.ref a] h b := cX_some (by rw [mhh_L_lease]; exact List.cons_ne_nil _ _) (by decide +kernel)
def ct_L_lease (G : GT) (D : WD) (S : SS) : Ct := fun As h Q _ => sR As fun cx r => sI r fun l r => sI r fun w r => sR r fun ou r => s0 r (CI G h D S ∧ WW S ∧ cx = D 0 0 ∧ kd h ou = 23 ∧ ln h ou = 1 ∧ ∀ kk vv T, OC_lease S l w kk vv T → nxL G h D S ou Q kk vv T)
def ce_L_lease (G : GT) (D : WD) (S : SS) : CE := (1, yL_lease, ML_lease, 4, 12, 4, 24, ct_L_lease G D S)
set_option maxRecDepth 100000 in
set_option maxHeartbeats 4000000 in
theorem ok_L_lease (G : GT) (G : GT) (D : WD) (S : SS) (hW : WF S) : OKm G yL_lease ML_lease 12 4 24 (ct_L_lease G D S) := by
  refine mkOK (ini := false) (by decide) rfl (by first | exact fun _ => rfl | (intro hh; cases hh)) (fun As h Q QX hc => ?_)
  replace hc := sR_e hc; obtain ⟨cx, r, rfl, hc⟩ := hc
  replace hc := sI_e hc; obtain ⟨l, r, rfl, hc⟩ := hc
  replace hc := sI_e hc; obtain ⟨w, r, rfl, hc⟩ := hc
  replace hc := sR_e hc; obtain ⟨ou, r, rfl, hc⟩ := hc
  replace hc := s0_e hc; obtain ⟨rfl, hc⟩ := hc
  obtain ⟨hI, hw, rfl, ko, lo, hq⟩ := hc
  have hD := hI.cd
  have k0 : kd h (D 0 0) = 6 := hI.1.1.1
  refine ⟨Nat.le_of_ble_eq_true rfl, ?_⟩
  simp only [ent, entL, catN, List.length_cons, List.length_nil, List.replicate, List.cons_append, List.nil_append, reduceIte, Nat.reduceEqDiff,  Nat.reduceAdd, Nat.reduceSub, mnl_L_lease]
  refine wpW (cs := [(56, ce_X4_lease_t G D S)]) (stop := [8]) (n := 200) (env_cons (ceV (by decide +kernel) ⟨by decide, by decide, by decide +kernel⟩ (by decide) rfl (ok_X4_lease_t G G D S hW)) (env_nil0 hhk_L_lease)) ?_
  simp only [↓wpN_S, ↓step_u, ↓stC_s, stC_s, ↓stF_u, stF_u, ↓stepI, lenI, ↓kN_u, isS, ↓gI_0, ↓gI_S, ↓gL_0, ↓gL_S, ↓gD_0, ↓gD_S, ↓gR_0, ↓gR_S, ↓sI_c, ↓sL_c, ↓sD_c, ↓sR_c, ↓s1_r, ↓s1_i, ↓vR_r, ↓vR_n, ↓s0_n, s0_n, ↓oR_u, ↓sP_u, ↓sPa_0, ↓sPa_S, ↓lkC_c, ↓callK_u, ↓cQ_s, ↓cQ_n, putL, putW, clr, kil, catS, catN, refF, booF, finF, nF, nmOf_0, nmOf_1, nmOf_2, nmOf_3, nmOf_4, nmOf_5, nmOf_6, nmOf_50, nmOf_51, nmOf_52, ↓reduceIte, reduceIte, Bool.false_eq_true, eq_self, true_or, or_true, true_and, and_true, false_or, or_false, Nat.reduceAdd, Nat.reduceSub, Nat.reduceEqDiff, Nat.reduceLT, Nat.reduceLeDiff, reduceCtorEq, true_implies, List.length_cons, List.length_nil, List.replicate, List.cons_append, List.nil_append, mrt_L_lease, mhh_L_lease, mow_L_lease, mnl_L_lease, DL_lease_0, DL_lease_1, DL_lease_2, DL_lease_3, DL_lease_4, DL_lease_5, DL_lease_8, DL_lease_9, DL_lease_10, DL_lease_13, DL_lease_15, DL_lease_16, DL_lease_17, DL_lease_18, ce_X4_lease_t, ↓ct_X4_lease_t, ycl_X4_lease, nxc, nxr, cX_L_lease_IOB]
  simp only [k0, hI, hD, hw, nmOf_5, Nat.reduceSub, Nat.reduceLT, Nat.reduceEqDiff, ne_eq, not_false_eq_true, true_and, and_true]
  refine ⟨fun hv => ?_, fun he => ?_⟩
  · intro h' f hI'
    have f' : Fr h h' (fun a => WO D S a ∨ a = ou) := f.up (fun a q => Or.inl (WK.wo a q))
    have ko' : kd h' ou = 23 := (f' ou (by omega)).1.1.trans ko
    have lo' : ln h' ou = 1 := (f' ou (by omega)).1.2.trans lo
    refine Wp.z ?_
    refine wpW (cs := [(56, ce_X4_lease_t G D S)]) (stop := []) (n := 200) (env_cons (ceV (by decide +kernel) ⟨by decide, by decide, by decide +kernel⟩ (by decide) rfl (ok_X4_lease_t G G D S hW)) (env_nil0 hhk_L_lease)) ?_
    simp only [↓wpN_S, ↓step_u, ↓stC_s, stC_s, ↓stF_u, stF_u, ↓stepI, lenI, ↓kN_u, isS, ↓gI_0, ↓gI_S, ↓gL_0, ↓gL_S, ↓gD_0, ↓gD_S, ↓gR_0, ↓gR_S, ↓sI_c, ↓sL_c, ↓sD_c, ↓sR_c, ↓s1_r, ↓s1_i, ↓vR_r, ↓vR_n, ↓s0_n, s0_n, ↓oR_u, ↓sP_u, ↓sPa_0, ↓sPa_S, ↓lkC_c, ↓callK_u, ↓cQ_s, ↓cQ_n, putL, putW, clr, kil, catS, catN, refF, booF, finF, nF, nmOf_0, nmOf_1, nmOf_2, nmOf_3, nmOf_4, nmOf_5, nmOf_6, nmOf_50, nmOf_51, nmOf_52, ↓reduceIte, reduceIte, Bool.false_eq_true, eq_self, true_or, or_true, true_and, and_true, false_or, or_false, Nat.reduceAdd, Nat.reduceSub, Nat.reduceEqDiff, Nat.reduceLT, Nat.reduceLeDiff, reduceCtorEq, true_implies, List.length_cons, List.length_nil, List.replicate, List.cons_append, List.nil_append, mrt_L_lease, mhh_L_lease, mow_L_lease, mnl_L_lease, DL_lease_0, DL_lease_1, DL_lease_2, DL_lease_3, DL_lease_4, DL_lease_5, DL_lease_8, DL_lease_9, DL_lease_10, DL_lease_13, DL_lease_15, DL_lease_16, DL_lease_17, DL_lease_18, ce_X4_lease_t, ↓ct_X4_lease_t, ycl_X4_lease, nxc, nxr, cX_L_lease_IOB]
    simp (disch := omega) only [i32_lit, i32_neg, i32_add, i32_mul, i32_sub, i32_nI, i32_lt, i32_le, i32_eq, inR_i, i32_clamp, i32_div, i32_max, i32_min, ite_max, ite_min, b2i_0, b2i_1, b2i_01, i32_toInt, tn_i, Int.toNat_natCast, em_t, true_and, and_true, Int.reduceToNat, Int.reduceLE, Int.reduceLT, Int.reduceAdd, Int.reduceMul, Int.reduceSub, Int.reduceNeg, Int.reduceEq, true_implies, not_true_eq_false, false_implies, not_false_eq_true, ko', lo']
    repeat (refine And.intro (by first | omega | decide) ?_)
    exact hq 0 _ _ (Or.inl ⟨hv, rfl, rfl, rfl⟩) _ D rfl (f'.tr (Fr.sL (Or.inr rfl))) (fun _ => Or.inl) hI'.la (fun _ => ja_o)
  · exact fun _ => hq 1 0 S (Or.inr ⟨he, rfl, rfl⟩) h D rfl Fr.rf (fun _ => Or.inl) hI (fun z => absurd z (by decide))
/-! gets -/
theorem hhk_L_gets : hhOK (mow ML_gets) (mhh ML_gets) := show hhOK RL [(0, 10, 13, 21)] from (hhOK_c 52 (by decide +kernel) hhOK_nil)
theorem cX_L_gets_IOB {PX : String → Hp → Prop} {K : Nat → Ls → List Value → Hp → Nat × Nat → Prop} {ls : Ls} {b : Nat × Nat} {h : Hp} : cX ML_gets PX K 5 ls b IOB h = ∀ a, K 13 ls [.ref a] h b := cX_some (by rw [mhh_L_gets]; exact List.cons_ne_nil _ _) (by decide +kernel)
def ct_L_gets (G : GT) (D : WD) (S : SS) : Ct := fun As h Q _ => sR As fun cx r => sI r fun l r => sI r fun hr r => sR r fun ou r => s0 r (CI G h D S ∧ WW S ∧ cx = D 0 0 ∧ kd h ou = 23 ∧ ln h ou = 1 ∧ ∀ kk vv T, OC_gets S l hr kk vv T → nxL G h D S ou Q kk vv T)
def ce_L_gets (G : GT) (D : WD) (S : SS) : CE := (1, yL_gets, ML_gets, 4, 11, 4, 24, ct_L_gets G D S)
set_option maxRecDepth 100000 in
set_option maxHeartbeats 4000000 in
theorem ok_L_gets (G : GT) (G : GT) (D : WD) (S : SS) (hW : WF S) : OKm G yL_gets ML_gets 11 4 24 (ct_L_gets G D S) := by
  refine mkOK (ini := false) (by decide) rfl (by first | exact fun _ => rfl | (intro hh; cases hh)) (fun As h Q QX hc => ?_)
  replace hc := sR_e hc; obtain ⟨cx, r, rfl, hc⟩ := hc
  replace hc := sI_e hc; obtain ⟨l, r, rfl, hc⟩ := hc
  replace hc := sI_e hc; obtain ⟨hr, r, rfl, hc⟩ := hc
  replace hc := sR_e hc; obtain ⟨ou, r, rfl, hc⟩ := hc
  replace hc := s0_e hc; obtain ⟨rfl, hc⟩ := hc
  obtain ⟨hI, hw, rfl, ko, lo, hq⟩ := hc
  have hD := hI.cd
  have k0 : kd h (D 0 0) = 6 := hI.1.1.1
  refine ⟨Nat.le_of_ble_eq_true rfl, ?_⟩
  simp only [ent, entL, catN, List.length_cons, List.length_nil, List.replicate, List.cons_append, List.nil_append, reduceIte, Nat.reduceEqDiff,  Nat.reduceAdd, Nat.reduceSub, mnl_L_gets]
  refine wpW (cs := [(59, ce_X4_gets_t G D S)]) (stop := [8]) (n := 200) (env_cons (ceV (by decide +kernel) ⟨by decide, by decide, by decide +kernel⟩ (by decide) rfl (ok_X4_gets_t G G D S hW)) (env_nil0 hhk_L_gets)) ?_
  simp only [↓wpN_S, ↓step_u, ↓stC_s, stC_s, ↓stF_u, stF_u, ↓stepI, lenI, ↓kN_u, isS, ↓gI_0, ↓gI_S, ↓gL_0, ↓gL_S, ↓gD_0, ↓gD_S, ↓gR_0, ↓gR_S, ↓sI_c, ↓sL_c, ↓sD_c, ↓sR_c, ↓s1_r, ↓s1_i, ↓vR_r, ↓vR_n, ↓s0_n, s0_n, ↓oR_u, ↓sP_u, ↓sPa_0, ↓sPa_S, ↓lkC_c, ↓callK_u, ↓cQ_s, ↓cQ_n, putL, putW, clr, kil, catS, catN, refF, booF, finF, nF, nmOf_0, nmOf_1, nmOf_2, nmOf_3, nmOf_4, nmOf_5, nmOf_6, nmOf_50, nmOf_51, nmOf_52, ↓reduceIte, reduceIte, Bool.false_eq_true, eq_self, true_or, or_true, true_and, and_true, false_or, or_false, Nat.reduceAdd, Nat.reduceSub, Nat.reduceEqDiff, Nat.reduceLT, Nat.reduceLeDiff, reduceCtorEq, true_implies, List.length_cons, List.length_nil, List.replicate, List.cons_append, List.nil_append, mrt_L_gets, mhh_L_gets, mow_L_gets, mnl_L_gets, DL_gets_0, DL_gets_1, DL_gets_2, DL_gets_3, DL_gets_4, DL_gets_5, DL_gets_8, DL_gets_9, DL_gets_10, DL_gets_13, DL_gets_15, DL_gets_16, DL_gets_17, DL_gets_18, ce_X4_gets_t, ↓ct_X4_gets_t, ycl_X4_gets, nxc, nxr, cX_L_gets_IOB]
  simp only [k0, hI, hD, hw, nmOf_5, Nat.reduceSub, Nat.reduceLT, Nat.reduceEqDiff, ne_eq, not_false_eq_true, true_and, and_true]
  refine ⟨fun hv => ?_, fun he => ?_⟩
  · intro h' f hI'
    have f' : Fr h h' (fun a => WO D S a ∨ a = ou) := f.up (fun a q => Or.inl (WK.wo a q))
    have ko' : kd h' ou = 23 := (f' ou (by omega)).1.1.trans ko
    have lo' : ln h' ou = 1 := (f' ou (by omega)).1.2.trans lo
    refine Wp.z ?_
    refine wpW (cs := [(59, ce_X4_gets_t G D S)]) (stop := []) (n := 200) (env_cons (ceV (by decide +kernel) ⟨by decide, by decide, by decide +kernel⟩ (by decide) rfl (ok_X4_gets_t G G D S hW)) (env_nil0 hhk_L_gets)) ?_
    simp only [↓wpN_S, ↓step_u, ↓stC_s, stC_s, ↓stF_u, stF_u, ↓stepI, lenI, ↓kN_u, isS, ↓gI_0, ↓gI_S, ↓gL_0, ↓gL_S, ↓gD_0, ↓gD_S, ↓gR_0, ↓gR_S, ↓sI_c, ↓sL_c, ↓sD_c, ↓sR_c, ↓s1_r, ↓s1_i, ↓vR_r, ↓vR_n, ↓s0_n, s0_n, ↓oR_u, ↓sP_u, ↓sPa_0, ↓sPa_S, ↓lkC_c, ↓callK_u, ↓cQ_s, ↓cQ_n, putL, putW, clr, kil, catS, catN, refF, booF, finF, nF, nmOf_0, nmOf_1, nmOf_2, nmOf_3, nmOf_4, nmOf_5, nmOf_6, nmOf_50, nmOf_51, nmOf_52, ↓reduceIte, reduceIte, Bool.false_eq_true, eq_self, true_or, or_true, true_and, and_true, false_or, or_false, Nat.reduceAdd, Nat.reduceSub, Nat.reduceEqDiff, Nat.reduceLT, Nat.reduceLeDiff, reduceCtorEq, true_implies, List.length_cons, List.length_nil, List.replicate, List.cons_append, List.nil_append, mrt_L_gets, mhh_L_gets, mow_L_gets, mnl_L_gets, DL_gets_0, DL_gets_1, DL_gets_2, DL_gets_3, DL_gets_4, DL_gets_5, DL_gets_8, DL_gets_9, DL_gets_10, DL_gets_13, DL_gets_15, DL_gets_16, DL_gets_17, DL_gets_18, ce_X4_gets_t, ↓ct_X4_gets_t, ycl_X4_gets, nxc, nxr, cX_L_gets_IOB]
    simp (disch := omega) only [i32_lit, i32_neg, i32_add, i32_mul, i32_sub, i32_nI, i32_lt, i32_le, i32_eq, inR_i, i32_clamp, i32_div, i32_max, i32_min, ite_max, ite_min, b2i_0, b2i_1, b2i_01, i32_toInt, tn_i, Int.toNat_natCast, em_t, true_and, and_true, Int.reduceToNat, Int.reduceLE, Int.reduceLT, Int.reduceAdd, Int.reduceMul, Int.reduceSub, Int.reduceNeg, Int.reduceEq, true_implies, not_true_eq_false, false_implies, not_false_eq_true, ko', lo']
    repeat (refine And.intro (by first | omega | decide) ?_)
    exact hq 0 _ _ (Or.inl ⟨hv, rfl, rfl, rfl⟩) _ D rfl (f'.tr (Fr.sL (Or.inr rfl))) (fun _ => Or.inl) hI'.la (fun _ => ja_o)
  · exact fun _ => hq 1 0 S (Or.inr ⟨he, rfl, rfl⟩) h D rfl Fr.rf (fun _ => Or.inl) hI (fun z => absurd z (by decide))
