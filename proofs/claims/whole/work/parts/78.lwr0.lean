/-! ===== the law: its calls of the class ===== -/
theorem hhOK_nil {own : String} : hhOK own [] := fun r hr => absurd hr List.not_mem_nil
theorem hhOK_c {own : String} {r : Nat × Nat × Nat × Nat} {hh : List (Nat × Nat × Nat × Nat)} (x : Nat) (h : r.2.2.2 ≠ 0 ∧ 50 ≤ x ∧ x ≤ 52 ∧ clss.lookup (own, r.2.2.2) = some x ∧ Cond.classLink own r.2.2.2 (nmOf x) ∈ gw) (t : hhOK own hh) : hhOK own (r :: hh) := fun z hz => by
  rcases List.mem_cons.mp hz with rfl | hz
  · exact ⟨h.1, x, h.2.1, h.2.2.1, h.2.2.2.1, h.2.2.2.2⟩
  · exact t z hz
theorem cX_some {M : MI} {PX : String → Hp → Prop} {K : Nat → Ls → List Value → Hp → Nat × Nat → Prop} {pc t : Nat} {ls : Ls} {b : Nat × Nat} {E : String} {h : Hp} (hh : mhh M ≠ []) (e : hndl (mow M) pc E (mhh M) = some t) : cX M PX K pc ls b E h = ∀ a, K t ls [.ref a] h b := by
  unfold cX
  cases hm : mhh M with
  | nil => exact absurd hm hh
  | cons a r => rw [hm] at e; simp only [e]
theorem CI.la {G : GT} {h : Hp} {D : WD} {S : SS} {a i : Nat} {v : Int64} (hI : CI G h D S) : CI G (setLA h a i v) D S := by
  simpa only [CI, CA, HA, CB, BD, LD, HD, CH, HM, HL, Lst, kd_setI, fi_setI, fr_setI, ln_setI, ia_setI, ja_setI, ra_setI, kd_setR, fi_setR, fr_setR, ln_setR, ia_setR, ja_setR, ra_setR, kd_setIA, fi_setIA, fr_setIA, ln_setIA, ia_setIA, ja_setIA, ra_setIA, kd_setLA, fi_setLA, fr_setLA, ln_setLA, ia_setLA, ja_setLA, ra_setLA, kd_setRA, fi_setRA, fr_setRA, ln_setRA, ia_setRA, ja_setRA, ra_setRA, kd_cpRA, fi_cpRA, fr_cpRA, ln_cpRA, ia_cpRA, ja_cpRA, ra_cpRA, kd_cpIA, fi_cpIA, fr_cpIA, ln_cpIA, ia_cpIA, ja_cpIA, ra_cpIA, kd_newO, fi_newO, fr_newO, ln_newO, ia_newO, ja_newO, ra_newO, kd_newA, fi_newA, fr_newA, ln_newA, ia_newA, ja_newA, ra_newA] using hI
theorem ja_o {h : Hp} {o : Nat} {v : Int64} : ja (setLA h o 0 v) o 0 = v := by rw [ja_setLA, if_pos ⟨rfl, rfl⟩]
/-- the law's call of the class: out holds the answer -/
def nxL (G : GT) (h : Hp) (D : WD) (S : SS) (o : Nat) (Q : Option Value → Hp → Prop) (kk vv : Int) (T : SS) : Prop := ∀ h' D', D' 0 0 = D 0 0 → Fr h h' (fun a => WO D S a ∨ a = o) → (∀ a, WO D' T a → WO D S a ∨ kd h a = 0) → CI G h' D' T → (kk = 0 → ja h' o 0 = (i32 vv).toInt64) → Q (some (.int (i32 kk))) h'
/-! build -/
theorem hhk_L_build : hhOK (mow ML_build) (mhh ML_build) := show hhOK RL [(0, 18, 21, 13), (0, 18, 25, 15)] from (hhOK_c 51 (by decide +kernel) (hhOK_c 50 (by decide +kernel) hhOK_nil))
theorem cX_L_build_IAE {PX : String → Hp → Prop} {K : Nat → Ls → List Value → Hp → Nat × Nat → Prop} {ls : Ls} {b : Nat × Nat} {h : Hp} : cX ML_build PX K 13 ls b IAE h = ∀ a, K 21 ls [.ref a] h b := cX_some (by rw [mhh_L_build]; exact List.cons_ne_nil _ _) (by decide +kernel)
theorem cX_L_build_ISE {PX : String → Hp → Prop} {K : Nat → Ls → List Value → Hp → Nat × Nat → Prop} {ls : Ls} {b : Nat × Nat} {h : Hp} : cX ML_build PX K 13 ls b ISE h = ∀ a, K 25 ls [.ref a] h b := cX_some (by rw [mhh_L_build]; exact List.cons_ne_nil _ _) (by decide +kernel)
def ct_L_build (G : GT) (D : WD) (S : SS) : Ct := fun As h Q _ => sR As fun cx r => sI r fun x r => sI r fun y r => sI r fun w r => sI r fun d r => sI r fun t r => sI r fun o r => sR r fun ou r => s0 r (CI G h D S ∧ WW S ∧ cx = D 0 0 ∧ kd h ou = 23 ∧ ln h ou = 1 ∧ ∀ kk vv T, OC_build S x y w d t o kk vv T → nxL G h D S ou Q kk vv T)
def ce_L_build (G : GT) (D : WD) (S : SS) : CE := (1, yL_build, ML_build, 8, 9, 8, 110, ct_L_build G D S)
set_option maxRecDepth 100000 in
set_option maxHeartbeats 4000000 in
theorem ok_L_build (G : GT) (G : GT) (D : WD) (S : SS) (hW : WF S) : OKm G yL_build ML_build 9 8 110 (ct_L_build G D S) := by
  refine mkOK (ini := false) (by decide) rfl (by first | exact fun _ => rfl | (intro hh; cases hh)) (fun As h Q QX hc => ?_)
  replace hc := sR_e hc; obtain ⟨cx, r, rfl, hc⟩ := hc
  replace hc := sI_e hc; obtain ⟨x, r, rfl, hc⟩ := hc
  replace hc := sI_e hc; obtain ⟨y, r, rfl, hc⟩ := hc
  replace hc := sI_e hc; obtain ⟨w, r, rfl, hc⟩ := hc
  replace hc := sI_e hc; obtain ⟨d, r, rfl, hc⟩ := hc
  replace hc := sI_e hc; obtain ⟨t, r, rfl, hc⟩ := hc
  replace hc := sI_e hc; obtain ⟨o, r, rfl, hc⟩ := hc
  replace hc := sR_e hc; obtain ⟨ou, r, rfl, hc⟩ := hc
  replace hc := s0_e hc; obtain ⟨rfl, hc⟩ := hc
  obtain ⟨hI, hw, rfl, ko, lo, hq⟩ := hc
  have hD := hI.cd
  have k0 : kd h (D 0 0) = 6 := hI.1.1.1
  refine ⟨Nat.le_of_ble_eq_true rfl, ?_⟩
  simp only [ent, entL, catN, List.length_cons, List.length_nil, List.replicate, List.cons_append, List.nil_append, reduceIte, Nat.reduceEqDiff,  Nat.reduceAdd, Nat.reduceSub, mnl_L_build]
  refine wpW (cs := [(7, ce_X4_build_t G D S)]) (stop := [16]) (n := 200) (env_cons (ceV (by decide +kernel) ⟨by decide, by decide, by decide +kernel⟩ (by decide) rfl (ok_X4_build_t G G D S hW)) (env_nil0 hhk_L_build)) ?_
  simp only [↓wpN_S, ↓step_u, ↓stC_s, stC_s, ↓stF_u, stF_u, ↓stepI, lenI, ↓kN_u, isS, ↓gI_0, ↓gI_S, ↓gL_0, ↓gL_S, ↓gD_0, ↓gD_S, ↓gR_0, ↓gR_S, ↓sI_c, ↓sL_c, ↓sD_c, ↓sR_c, ↓s1_r, ↓s1_i, ↓vR_r, ↓vR_n, ↓s0_n, s0_n, ↓oR_u, ↓sP_u, ↓sPa_0, ↓sPa_S, ↓lkC_c, ↓callK_u, ↓cQ_s, ↓cQ_n, putL, putW, clr, kil, catS, catN, refF, booF, finF, nF, nmOf_0, nmOf_1, nmOf_2, nmOf_3, nmOf_4, nmOf_5, nmOf_6, nmOf_50, nmOf_51, nmOf_52, ↓reduceIte, reduceIte, Bool.false_eq_true, eq_self, true_or, or_true, true_and, and_true, false_or, or_false, Nat.reduceAdd, Nat.reduceSub, Nat.reduceEqDiff, Nat.reduceLT, Nat.reduceLeDiff, reduceCtorEq, true_implies, List.length_cons, List.length_nil, List.replicate, List.cons_append, List.nil_append, mrt_L_build, mhh_L_build, mow_L_build, mnl_L_build, DL_build_0, DL_build_2, DL_build_3, DL_build_4, DL_build_5, DL_build_6, DL_build_7, DL_build_9, DL_build_11, DL_build_13, DL_build_16, DL_build_17, DL_build_18, DL_build_21, DL_build_23, DL_build_24, DL_build_25, DL_build_27, DL_build_28, DL_build_29, DL_build_30, ce_X4_build_t, ↓ct_X4_build_t, ycl_X4_build, nxc, nxr, cX_L_build_IAE, cX_L_build_ISE]
  simp only [k0, hI, hD, hw, nmOf_5, Nat.reduceSub, Nat.reduceLT, Nat.reduceEqDiff, ne_eq, not_false_eq_true, true_and, and_true]
  refine ⟨fun hv => ?_, fun he => ?_, fun he => ?_⟩
  · intro h' D' e f w hI'
    have f' : Fr h h' (fun a => WO D S a ∨ a = ou) := f.up (fun _ => Or.inl)
    have ko' : kd h' ou = 23 := (f' ou (by omega)).1.1.trans ko
    have lo' : ln h' ou = 1 := (f' ou (by omega)).1.2.trans lo
    refine Wp.z ?_
    refine wpW (cs := [(7, ce_X4_build_t G D S)]) (stop := []) (n := 200) (env_cons (ceV (by decide +kernel) ⟨by decide, by decide, by decide +kernel⟩ (by decide) rfl (ok_X4_build_t G G D S hW)) (env_nil0 hhk_L_build)) ?_
    simp only [↓wpN_S, ↓step_u, ↓stC_s, stC_s, ↓stF_u, stF_u, ↓stepI, lenI, ↓kN_u, isS, ↓gI_0, ↓gI_S, ↓gL_0, ↓gL_S, ↓gD_0, ↓gD_S, ↓gR_0, ↓gR_S, ↓sI_c, ↓sL_c, ↓sD_c, ↓sR_c, ↓s1_r, ↓s1_i, ↓vR_r, ↓vR_n, ↓s0_n, s0_n, ↓oR_u, ↓sP_u, ↓sPa_0, ↓sPa_S, ↓lkC_c, ↓callK_u, ↓cQ_s, ↓cQ_n, putL, putW, clr, kil, catS, catN, refF, booF, finF, nF, nmOf_0, nmOf_1, nmOf_2, nmOf_3, nmOf_4, nmOf_5, nmOf_6, nmOf_50, nmOf_51, nmOf_52, ↓reduceIte, reduceIte, Bool.false_eq_true, eq_self, true_or, or_true, true_and, and_true, false_or, or_false, Nat.reduceAdd, Nat.reduceSub, Nat.reduceEqDiff, Nat.reduceLT, Nat.reduceLeDiff, reduceCtorEq, true_implies, List.length_cons, List.length_nil, List.replicate, List.cons_append, List.nil_append, mrt_L_build, mhh_L_build, mow_L_build, mnl_L_build, DL_build_0, DL_build_2, DL_build_3, DL_build_4, DL_build_5, DL_build_6, DL_build_7, DL_build_9, DL_build_11, DL_build_13, DL_build_16, DL_build_17, DL_build_18, DL_build_21, DL_build_23, DL_build_24, DL_build_25, DL_build_27, DL_build_28, DL_build_29, DL_build_30, ce_X4_build_t, ↓ct_X4_build_t, ycl_X4_build, nxc, nxr, cX_L_build_IAE, cX_L_build_ISE]
    simp (disch := omega) only [i32_lit, i32_neg, i32_add, i32_mul, i32_sub, i32_nI, i32_lt, i32_le, i32_eq, inR_i, i32_clamp, i32_div, i32_max, i32_min, ite_max, ite_min, b2i_0, b2i_1, b2i_01, i32_toInt, tn_i, Int.toNat_natCast, em_t, true_and, and_true, Int.reduceToNat, Int.reduceLE, Int.reduceLT, Int.reduceAdd, Int.reduceMul, Int.reduceSub, Int.reduceNeg, Int.reduceEq, true_implies, not_true_eq_false, false_implies, not_false_eq_true, ko', lo']
    repeat (refine And.intro (by first | omega | decide) ?_)
    exact hq 0 _ _ (Or.inl ⟨hv, rfl, rfl, rfl⟩) _ D' e (f'.tr (Fr.sL (Or.inr rfl))) w hI'.la (fun _ => ja_o)
  · exact fun _ => hq 1 0 S (Or.inr (Or.inl ⟨he, rfl, rfl⟩)) h D rfl Fr.rf (fun _ => Or.inl) hI (fun z => absurd z (by decide))
  · exact fun h' f hI' _ => hq 2 0 S (Or.inr (Or.inr ⟨he, rfl, rfl⟩)) h' D rfl (f.up (fun _ z => z.elim)) (fun _ => Or.inl) hI' (fun z => absurd z (by decide))
/-! tearDown -/
theorem hhk_L_tearDown : hhOK (mow ML_tearDown) (mhh ML_tearDown) := show hhOK RL [(0, 9, 12, 21)] from (hhOK_c 52 (by decide +kernel) hhOK_nil)
theorem cX_L_tearDown_IOB {PX : String → Hp → Prop} {K : Nat → Ls → List Value → Hp → Nat × Nat → Prop} {ls : Ls} {b : Nat × Nat} {h : Hp} : cX ML_tearDown PX K 4 ls b IOB h = ∀ a, K 12 ls [.ref a] h b := cX_some (by rw [mhh_L_tearDown]; exact List.cons_ne_nil _ _) (by decide +kernel)
def ct_L_tearDown (G : GT) (D : WD) (S : SS) : Ct := fun As h Q _ => sR As fun cx r => sI r fun b r => sR r fun ou r => s0 r (CI G h D S ∧ WW S ∧ cx = D 0 0 ∧ kd h ou = 23 ∧ ln h ou = 1 ∧ ∀ kk vv T, OC_tearDown S b kk vv T → nxL G h D S ou Q kk vv T)
def ce_L_tearDown (G : GT) (D : WD) (S : SS) : CE := (1, yL_tearDown, ML_tearDown, 3, 11, 8, 48, ct_L_tearDown G D S)
set_option maxRecDepth 100000 in
set_option maxHeartbeats 4000000 in
theorem ok_L_tearDown (G : GT) (G : GT) (D : WD) (S : SS) (hW : WF S) : OKm G yL_tearDown ML_tearDown 11 8 48 (ct_L_tearDown G D S) := by
  refine mkOK (ini := false) (by decide) rfl (by first | exact fun _ => rfl | (intro hh; cases hh)) (fun As h Q QX hc => ?_)
  replace hc := sR_e hc; obtain ⟨cx, r, rfl, hc⟩ := hc
  replace hc := sI_e hc; obtain ⟨b, r, rfl, hc⟩ := hc
  replace hc := sR_e hc; obtain ⟨ou, r, rfl, hc⟩ := hc
  replace hc := s0_e hc; obtain ⟨rfl, hc⟩ := hc
  obtain ⟨hI, hw, rfl, ko, lo, hq⟩ := hc
  have hD := hI.cd
  have k0 : kd h (D 0 0) = 6 := hI.1.1.1
  refine ⟨Nat.le_of_ble_eq_true rfl, ?_⟩
  simp only [ent, entL, catN, List.length_cons, List.length_nil, List.replicate, List.cons_append, List.nil_append, reduceIte, Nat.reduceEqDiff,  Nat.reduceAdd, Nat.reduceSub, mnl_L_tearDown]
  refine wpW (cs := [(17, ce_X4_tearDown_t G D S)]) (stop := [7]) (n := 200) (env_cons (ceV (by decide +kernel) ⟨by decide, by decide, by decide +kernel⟩ (by decide) rfl (ok_X4_tearDown_t G G D S hW)) (env_nil0 hhk_L_tearDown)) ?_
  simp only [↓wpN_S, ↓step_u, ↓stC_s, stC_s, ↓stF_u, stF_u, ↓stepI, lenI, ↓kN_u, isS, ↓gI_0, ↓gI_S, ↓gL_0, ↓gL_S, ↓gD_0, ↓gD_S, ↓gR_0, ↓gR_S, ↓sI_c, ↓sL_c, ↓sD_c, ↓sR_c, ↓s1_r, ↓s1_i, ↓vR_r, ↓vR_n, ↓s0_n, s0_n, ↓oR_u, ↓sP_u, ↓sPa_0, ↓sPa_S, ↓lkC_c, ↓callK_u, ↓cQ_s, ↓cQ_n, putL, putW, clr, kil, catS, catN, refF, booF, finF, nF, nmOf_0, nmOf_1, nmOf_2, nmOf_3, nmOf_4, nmOf_5, nmOf_6, nmOf_50, nmOf_51, nmOf_52, ↓reduceIte, reduceIte, Bool.false_eq_true, eq_self, true_or, or_true, true_and, and_true, false_or, or_false, Nat.reduceAdd, Nat.reduceSub, Nat.reduceEqDiff, Nat.reduceLT, Nat.reduceLeDiff, reduceCtorEq, true_implies, List.length_cons, List.length_nil, List.replicate, List.cons_append, List.nil_append, mrt_L_tearDown, mhh_L_tearDown, mow_L_tearDown, mnl_L_tearDown, DL_tearDown_0, DL_tearDown_1, DL_tearDown_2, DL_tearDown_3, DL_tearDown_4, DL_tearDown_7, DL_tearDown_8, DL_tearDown_9, DL_tearDown_12, DL_tearDown_13, DL_tearDown_14, DL_tearDown_15, DL_tearDown_16, ce_X4_tearDown_t, ↓ct_X4_tearDown_t, ycl_X4_tearDown, nxc, nxr, cX_L_tearDown_IOB]
  simp only [k0, hI, hD, hw, nmOf_5, Nat.reduceSub, Nat.reduceLT, Nat.reduceEqDiff, ne_eq, not_false_eq_true, true_and, and_true]
  refine ⟨fun hv => ?_, fun he => ?_⟩
  · intro h' D' e f w hI'
    have f' : Fr h h' (fun a => WO D S a ∨ a = ou) := f.up (fun _ => Or.inl)
    have ko' : kd h' ou = 23 := (f' ou (by omega)).1.1.trans ko
    have lo' : ln h' ou = 1 := (f' ou (by omega)).1.2.trans lo
    refine Wp.z ?_
    refine wpW (cs := [(17, ce_X4_tearDown_t G D S)]) (stop := []) (n := 200) (env_cons (ceV (by decide +kernel) ⟨by decide, by decide, by decide +kernel⟩ (by decide) rfl (ok_X4_tearDown_t G G D S hW)) (env_nil0 hhk_L_tearDown)) ?_
    simp only [↓wpN_S, ↓step_u, ↓stC_s, stC_s, ↓stF_u, stF_u, ↓stepI, lenI, ↓kN_u, isS, ↓gI_0, ↓gI_S, ↓gL_0, ↓gL_S, ↓gD_0, ↓gD_S, ↓gR_0, ↓gR_S, ↓sI_c, ↓sL_c, ↓sD_c, ↓sR_c, ↓s1_r, ↓s1_i, ↓vR_r, ↓vR_n, ↓s0_n, s0_n, ↓oR_u, ↓sP_u, ↓sPa_0, ↓sPa_S, ↓lkC_c, ↓callK_u, ↓cQ_s, ↓cQ_n, putL, putW, clr, kil, catS, catN, refF, booF, finF, nF, nmOf_0, nmOf_1, nmOf_2, nmOf_3, nmOf_4, nmOf_5, nmOf_6, nmOf_50, nmOf_51, nmOf_52, ↓reduceIte, reduceIte, Bool.false_eq_true, eq_self, true_or, or_true, true_and, and_true, false_or, or_false, Nat.reduceAdd, Nat.reduceSub, Nat.reduceEqDiff, Nat.reduceLT, Nat.reduceLeDiff, reduceCtorEq, true_implies, List.length_cons, List.length_nil, List.replicate, List.cons_append, List.nil_append, mrt_L_tearDown, mhh_L_tearDown, mow_L_tearDown, mnl_L_tearDown, DL_tearDown_0, DL_tearDown_1, DL_tearDown_2, DL_tearDown_3, DL_tearDown_4, DL_tearDown_7, DL_tearDown_8, DL_tearDown_9, DL_tearDown_12, DL_tearDown_13, DL_tearDown_14, DL_tearDown_15, DL_tearDown_16, ce_X4_tearDown_t, ↓ct_X4_tearDown_t, ycl_X4_tearDown, nxc, nxr, cX_L_tearDown_IOB]
    simp (disch := omega) only [i32_lit, i32_neg, i32_add, i32_mul, i32_sub, i32_nI, i32_lt, i32_le, i32_eq, inR_i, i32_clamp, i32_div, i32_max, i32_min, ite_max, ite_min, b2i_0, b2i_1, b2i_01, i32_toInt, tn_i, Int.toNat_natCast, em_t, true_and, and_true, Int.reduceToNat, Int.reduceLE, Int.reduceLT, Int.reduceAdd, Int.reduceMul, Int.reduceSub, Int.reduceNeg, Int.reduceEq, true_implies, not_true_eq_false, false_implies, not_false_eq_true, ko', lo']
    repeat (refine And.intro (by first | omega | decide) ?_)
    exact hq 0 _ _ (Or.inl ⟨hv, rfl, rfl, rfl⟩) _ D' e (f'.tr (Fr.sL (Or.inr rfl))) w hI'.la (fun _ => ja_o)
  · exact fun _ => hq 1 0 S (Or.inr ⟨he, rfl, rfl⟩) h D rfl Fr.rf (fun _ => Or.inl) hI (fun z => absurd z (by decide))
/-! raise -/
theorem hhk_L_raise : hhOK (mow ML_raise) (mhh ML_raise) := show hhOK RL [(0, 10, 13, 21), (0, 10, 17, 13)] from (hhOK_c 52 (by decide +kernel) (hhOK_c 51 (by decide +kernel) hhOK_nil))
theorem cX_L_raise_IOB {PX : String → Hp → Prop} {K : Nat → Ls → List Value → Hp → Nat × Nat → Prop} {ls : Ls} {b : Nat × Nat} {h : Hp} : cX ML_raise PX K 5 ls b IOB h = ∀ a, K 13 ls [.ref a] h b := cX_some (by rw [mhh_L_raise]; exact List.cons_ne_nil _ _) (by decide +kernel)
theorem cX_L_raise_IAE {PX : String → Hp → Prop} {K : Nat → Ls → List Value → Hp → Nat × Nat → Prop} {ls : Ls} {b : Nat × Nat} {h : Hp} : cX ML_raise PX K 5 ls b IAE h = ∀ a, K 17 ls [.ref a] h b := cX_some (by rw [mhh_L_raise]; exact List.cons_ne_nil _ _) (by decide +kernel)
def ct_L_raise (G : GT) (D : WD) (S : SS) : Ct := fun As h Q _ => sR As fun cx r => sI r fun b r => sI r fun v r => sR r fun ou r => s0 r (CI G h D S ∧ WW S ∧ cx = D 0 0 ∧ kd h ou = 23 ∧ ln h ou = 1 ∧ ∀ kk vv T, OC_raise S b v kk vv T → nxL G h D S ou Q kk vv T)
def ce_L_raise (G : GT) (D : WD) (S : SS) : CE := (1, yL_raise, ML_raise, 4, 11, 8, 48, ct_L_raise G D S)
set_option maxRecDepth 100000 in
set_option maxHeartbeats 4000000 in
theorem ok_L_raise (G : GT) (G : GT) (D : WD) (S : SS) (hW : WF S) : OKm G yL_raise ML_raise 11 8 48 (ct_L_raise G D S) := by
  refine mkOK (ini := false) (by decide) rfl (by first | exact fun _ => rfl | (intro hh; cases hh)) (fun As h Q QX hc => ?_)
  replace hc := sR_e hc; obtain ⟨cx, r, rfl, hc⟩ := hc
  replace hc := sI_e hc; obtain ⟨b, r, rfl, hc⟩ := hc
  replace hc := sI_e hc; obtain ⟨v, r, rfl, hc⟩ := hc
  replace hc := sR_e hc; obtain ⟨ou, r, rfl, hc⟩ := hc
  replace hc := s0_e hc; obtain ⟨rfl, hc⟩ := hc
  obtain ⟨hI, hw, rfl, ko, lo, hq⟩ := hc
  have hD := hI.cd
  have k0 : kd h (D 0 0) = 6 := hI.1.1.1
  refine ⟨Nat.le_of_ble_eq_true rfl, ?_⟩
  simp only [ent, entL, catN, List.length_cons, List.length_nil, List.replicate, List.cons_append, List.nil_append, reduceIte, Nat.reduceEqDiff,  Nat.reduceAdd, Nat.reduceSub, mnl_L_raise]
  refine wpW (cs := [(23, ce_X4_raise_t G D S)]) (stop := [8]) (n := 200) (env_cons (ceV (by decide +kernel) ⟨by decide, by decide, by decide +kernel⟩ (by decide) rfl (ok_X4_raise_t G G D S hW)) (env_nil0 hhk_L_raise)) ?_
  simp only [↓wpN_S, ↓step_u, ↓stC_s, stC_s, ↓stF_u, stF_u, ↓stepI, lenI, ↓kN_u, isS, ↓gI_0, ↓gI_S, ↓gL_0, ↓gL_S, ↓gD_0, ↓gD_S, ↓gR_0, ↓gR_S, ↓sI_c, ↓sL_c, ↓sD_c, ↓sR_c, ↓s1_r, ↓s1_i, ↓vR_r, ↓vR_n, ↓s0_n, s0_n, ↓oR_u, ↓sP_u, ↓sPa_0, ↓sPa_S, ↓lkC_c, ↓callK_u, ↓cQ_s, ↓cQ_n, putL, putW, clr, kil, catS, catN, refF, booF, finF, nF, nmOf_0, nmOf_1, nmOf_2, nmOf_3, nmOf_4, nmOf_5, nmOf_6, nmOf_50, nmOf_51, nmOf_52, ↓reduceIte, reduceIte, Bool.false_eq_true, eq_self, true_or, or_true, true_and, and_true, false_or, or_false, Nat.reduceAdd, Nat.reduceSub, Nat.reduceEqDiff, Nat.reduceLT, Nat.reduceLeDiff, reduceCtorEq, true_implies, List.length_cons, List.length_nil, List.replicate, List.cons_append, List.nil_append, mrt_L_raise, mhh_L_raise, mow_L_raise, mnl_L_raise, DL_raise_0, DL_raise_1, DL_raise_2, DL_raise_3, DL_raise_4, DL_raise_5, DL_raise_8, DL_raise_9, DL_raise_10, DL_raise_13, DL_raise_15, DL_raise_16, DL_raise_17, DL_raise_19, DL_raise_20, DL_raise_21, DL_raise_22, ce_X4_raise_t, ↓ct_X4_raise_t, ycl_X4_raise, nxc, nxr, cX_L_raise_IOB, cX_L_raise_IAE]
  simp only [k0, hI, hD, hw, nmOf_5, Nat.reduceSub, Nat.reduceLT, Nat.reduceEqDiff, ne_eq, not_false_eq_true, true_and, and_true]
  refine ⟨fun hv => ?_, fun he => ?_, fun he => ?_⟩
  · intro h' D' e f w hI'
    have f' : Fr h h' (fun a => WO D S a ∨ a = ou) := f.up (fun _ => Or.inl)
    have ko' : kd h' ou = 23 := (f' ou (by omega)).1.1.trans ko
    have lo' : ln h' ou = 1 := (f' ou (by omega)).1.2.trans lo
    refine Wp.z ?_
    refine wpW (cs := [(23, ce_X4_raise_t G D S)]) (stop := []) (n := 200) (env_cons (ceV (by decide +kernel) ⟨by decide, by decide, by decide +kernel⟩ (by decide) rfl (ok_X4_raise_t G G D S hW)) (env_nil0 hhk_L_raise)) ?_
    simp only [↓wpN_S, ↓step_u, ↓stC_s, stC_s, ↓stF_u, stF_u, ↓stepI, lenI, ↓kN_u, isS, ↓gI_0, ↓gI_S, ↓gL_0, ↓gL_S, ↓gD_0, ↓gD_S, ↓gR_0, ↓gR_S, ↓sI_c, ↓sL_c, ↓sD_c, ↓sR_c, ↓s1_r, ↓s1_i, ↓vR_r, ↓vR_n, ↓s0_n, s0_n, ↓oR_u, ↓sP_u, ↓sPa_0, ↓sPa_S, ↓lkC_c, ↓callK_u, ↓cQ_s, ↓cQ_n, putL, putW, clr, kil, catS, catN, refF, booF, finF, nF, nmOf_0, nmOf_1, nmOf_2, nmOf_3, nmOf_4, nmOf_5, nmOf_6, nmOf_50, nmOf_51, nmOf_52, ↓reduceIte, reduceIte, Bool.false_eq_true, eq_self, true_or, or_true, true_and, and_true, false_or, or_false, Nat.reduceAdd, Nat.reduceSub, Nat.reduceEqDiff, Nat.reduceLT, Nat.reduceLeDiff, reduceCtorEq, true_implies, List.length_cons, List.length_nil, List.replicate, List.cons_append, List.nil_append, mrt_L_raise, mhh_L_raise, mow_L_raise, mnl_L_raise, DL_raise_0, DL_raise_1, DL_raise_2, DL_raise_3, DL_raise_4, DL_raise_5, DL_raise_8, DL_raise_9, DL_raise_10, DL_raise_13, DL_raise_15, DL_raise_16, DL_raise_17, DL_raise_19, DL_raise_20, DL_raise_21, DL_raise_22, ce_X4_raise_t, ↓ct_X4_raise_t, ycl_X4_raise, nxc, nxr, cX_L_raise_IOB, cX_L_raise_IAE]
    simp (disch := omega) only [i32_lit, i32_neg, i32_add, i32_mul, i32_sub, i32_nI, i32_lt, i32_le, i32_eq, inR_i, i32_clamp, i32_div, i32_max, i32_min, ite_max, ite_min, b2i_0, b2i_1, b2i_01, i32_toInt, tn_i, Int.toNat_natCast, em_t, true_and, and_true, Int.reduceToNat, Int.reduceLE, Int.reduceLT, Int.reduceAdd, Int.reduceMul, Int.reduceSub, Int.reduceNeg, Int.reduceEq, true_implies, not_true_eq_false, false_implies, not_false_eq_true, ko', lo']
    repeat (refine And.intro (by first | omega | decide) ?_)
    exact hq 0 _ _ (Or.inl ⟨hv, rfl, rfl, rfl⟩) _ D' e (f'.tr (Fr.sL (Or.inr rfl))) w hI'.la (fun _ => ja_o)
  · exact fun _ => hq 1 0 S (Or.inr (Or.inl ⟨he, rfl, rfl⟩)) h D rfl Fr.rf (fun _ => Or.inl) hI (fun z => absurd z (by decide))
  · exact fun _ => hq 2 0 S (Or.inr (Or.inr ⟨he, rfl, rfl⟩)) h D rfl Fr.rf (fun _ => Or.inl) hI (fun z => absurd z (by decide))
/-! setSun -/
theorem hhk_L_setSun : hhOK (mow ML_setSun) (mhh ML_setSun) := show hhOK RL [(0, 14, 17, 21), (0, 14, 21, 13)] from (hhOK_c 52 (by decide +kernel) (hhOK_c 51 (by decide +kernel) hhOK_nil))
theorem cX_L_setSun_IOB {PX : String → Hp → Prop} {K : Nat → Ls → List Value → Hp → Nat × Nat → Prop} {ls : Ls} {b : Nat × Nat} {h : Hp} : cX ML_setSun PX K 9 ls b IOB h = ∀ a, K 17 ls [.ref a] h b := cX_some (by rw [mhh_L_setSun]; exact List.cons_ne_nil _ _) (by decide +kernel)
theorem cX_L_setSun_IAE {PX : String → Hp → Prop} {K : Nat → Ls → List Value → Hp → Nat × Nat → Prop} {ls : Ls} {b : Nat × Nat} {h : Hp} : cX ML_setSun PX K 9 ls b IAE h = ∀ a, K 21 ls [.ref a] h b := cX_some (by rw [mhh_L_setSun]; exact List.cons_ne_nil _ _) (by decide +kernel)
def ct_L_setSun (G : GT) (D : WD) (S : SS) : Ct := fun As h Q _ => sR As fun cx r => sI r fun hr r => sI r fun x r => sI r fun y r => sI r fun l r => sR r fun ou r => s0 r (CI G h D S ∧ WW S ∧ cx = D 0 0 ∧ kd h ou = 23 ∧ ln h ou = 1 ∧ ∀ kk vv T, OC_setSun S hr x y l kk vv T → nxL G h D S ou Q kk vv T)
def ce_L_setSun (G : GT) (D : WD) (S : SS) : CE := (1, yL_setSun, ML_setSun, 6, 10, 8, 48, ct_L_setSun G D S)
set_option maxRecDepth 100000 in
set_option maxHeartbeats 4000000 in
theorem ok_L_setSun (G : GT) (G : GT) (D : WD) (S : SS) (hW : WF S) : OKm G yL_setSun ML_setSun 10 8 48 (ct_L_setSun G D S) := by
  refine mkOK (ini := false) (by decide) rfl (by first | exact fun _ => rfl | (intro hh; cases hh)) (fun As h Q QX hc => ?_)
  replace hc := sR_e hc; obtain ⟨cx, r, rfl, hc⟩ := hc
  replace hc := sI_e hc; obtain ⟨hr, r, rfl, hc⟩ := hc
  replace hc := sI_e hc; obtain ⟨x, r, rfl, hc⟩ := hc
  replace hc := sI_e hc; obtain ⟨y, r, rfl, hc⟩ := hc
  replace hc := sI_e hc; obtain ⟨l, r, rfl, hc⟩ := hc
  replace hc := sR_e hc; obtain ⟨ou, r, rfl, hc⟩ := hc
  replace hc := s0_e hc; obtain ⟨rfl, hc⟩ := hc
  obtain ⟨hI, hw, rfl, ko, lo, hq⟩ := hc
  have hD := hI.cd
  have k0 : kd h (D 0 0) = 6 := hI.1.1.1
  refine ⟨Nat.le_of_ble_eq_true rfl, ?_⟩
  simp only [ent, entL, catN, List.length_cons, List.length_nil, List.replicate, List.cons_append, List.nil_append, reduceIte, Nat.reduceEqDiff,  Nat.reduceAdd, Nat.reduceSub, mnl_L_setSun]
  refine wpW (cs := [(27, ce_X4_setSun_t G D S)]) (stop := [12]) (n := 200) (env_cons (ceV (by decide +kernel) ⟨by decide, by decide, by decide +kernel⟩ (by decide) rfl (ok_X4_setSun_t G G D S hW)) (env_nil0 hhk_L_setSun)) ?_
  simp only [↓wpN_S, ↓step_u, ↓stC_s, stC_s, ↓stF_u, stF_u, ↓stepI, lenI, ↓kN_u, isS, ↓gI_0, ↓gI_S, ↓gL_0, ↓gL_S, ↓gD_0, ↓gD_S, ↓gR_0, ↓gR_S, ↓sI_c, ↓sL_c, ↓sD_c, ↓sR_c, ↓s1_r, ↓s1_i, ↓vR_r, ↓vR_n, ↓s0_n, s0_n, ↓oR_u, ↓sP_u, ↓sPa_0, ↓sPa_S, ↓lkC_c, ↓callK_u, ↓cQ_s, ↓cQ_n, putL, putW, clr, kil, catS, catN, refF, booF, finF, nF, nmOf_0, nmOf_1, nmOf_2, nmOf_3, nmOf_4, nmOf_5, nmOf_6, nmOf_50, nmOf_51, nmOf_52, ↓reduceIte, reduceIte, Bool.false_eq_true, eq_self, true_or, or_true, true_and, and_true, false_or, or_false, Nat.reduceAdd, Nat.reduceSub, Nat.reduceEqDiff, Nat.reduceLT, Nat.reduceLeDiff, reduceCtorEq, true_implies, List.length_cons, List.length_nil, List.replicate, List.cons_append, List.nil_append, mrt_L_setSun, mhh_L_setSun, mow_L_setSun, mnl_L_setSun, DL_setSun_0, DL_setSun_2, DL_setSun_3, DL_setSun_4, DL_setSun_5, DL_setSun_6, DL_setSun_7, DL_setSun_9, DL_setSun_12, DL_setSun_13, DL_setSun_14, DL_setSun_17, DL_setSun_19, DL_setSun_20, DL_setSun_21, DL_setSun_23, DL_setSun_24, DL_setSun_25, DL_setSun_26, ce_X4_setSun_t, ↓ct_X4_setSun_t, ycl_X4_setSun, nxc, nxr, cX_L_setSun_IOB, cX_L_setSun_IAE]
  simp only [k0, hI, hD, hw, nmOf_5, Nat.reduceSub, Nat.reduceLT, Nat.reduceEqDiff, ne_eq, not_false_eq_true, true_and, and_true]
  refine ⟨fun hv => ?_, fun he => ?_, fun he => ?_⟩
  · intro h' D' e f w hI'
    have f' : Fr h h' (fun a => WO D S a ∨ a = ou) := f.up (fun _ => Or.inl)
    have ko' : kd h' ou = 23 := (f' ou (by omega)).1.1.trans ko
    have lo' : ln h' ou = 1 := (f' ou (by omega)).1.2.trans lo
    refine Wp.z ?_
    refine wpW (cs := [(27, ce_X4_setSun_t G D S)]) (stop := []) (n := 200) (env_cons (ceV (by decide +kernel) ⟨by decide, by decide, by decide +kernel⟩ (by decide) rfl (ok_X4_setSun_t G G D S hW)) (env_nil0 hhk_L_setSun)) ?_
    simp only [↓wpN_S, ↓step_u, ↓stC_s, stC_s, ↓stF_u, stF_u, ↓stepI, lenI, ↓kN_u, isS, ↓gI_0, ↓gI_S, ↓gL_0, ↓gL_S, ↓gD_0, ↓gD_S, ↓gR_0, ↓gR_S, ↓sI_c, ↓sL_c, ↓sD_c, ↓sR_c, ↓s1_r, ↓s1_i, ↓vR_r, ↓vR_n, ↓s0_n, s0_n, ↓oR_u, ↓sP_u, ↓sPa_0, ↓sPa_S, ↓lkC_c, ↓callK_u, ↓cQ_s, ↓cQ_n, putL, putW, clr, kil, catS, catN, refF, booF, finF, nF, nmOf_0, nmOf_1, nmOf_2, nmOf_3, nmOf_4, nmOf_5, nmOf_6, nmOf_50, nmOf_51, nmOf_52, ↓reduceIte, reduceIte, Bool.false_eq_true, eq_self, true_or, or_true, true_and, and_true, false_or, or_false, Nat.reduceAdd, Nat.reduceSub, Nat.reduceEqDiff, Nat.reduceLT, Nat.reduceLeDiff, reduceCtorEq, true_implies, List.length_cons, List.length_nil, List.replicate, List.cons_append, List.nil_append, mrt_L_setSun, mhh_L_setSun, mow_L_setSun, mnl_L_setSun, DL_setSun_0, DL_setSun_2, DL_setSun_3, DL_setSun_4, DL_setSun_5, DL_setSun_6, DL_setSun_7, DL_setSun_9, DL_setSun_12, DL_setSun_13, DL_setSun_14, DL_setSun_17, DL_setSun_19, DL_setSun_20, DL_setSun_21, DL_setSun_23, DL_setSun_24, DL_setSun_25, DL_setSun_26, ce_X4_setSun_t, ↓ct_X4_setSun_t, ycl_X4_setSun, nxc, nxr, cX_L_setSun_IOB, cX_L_setSun_IAE]
    simp (disch := omega) only [i32_lit, i32_neg, i32_add, i32_mul, i32_sub, i32_nI, i32_lt, i32_le, i32_eq, inR_i, i32_clamp, i32_div, i32_max, i32_min, ite_max, ite_min, b2i_0, b2i_1, b2i_01, i32_toInt, tn_i, Int.toNat_natCast, em_t, true_and, and_true, Int.reduceToNat, Int.reduceLE, Int.reduceLT, Int.reduceAdd, Int.reduceMul, Int.reduceSub, Int.reduceNeg, Int.reduceEq, true_implies, not_true_eq_false, false_implies, not_false_eq_true, ko', lo']
    repeat (refine And.intro (by first | omega | decide) ?_)
    exact hq 0 _ _ (Or.inl ⟨hv, rfl, rfl, rfl⟩) _ D' e (f'.tr (Fr.sL (Or.inr rfl))) w hI'.la (fun _ => ja_o)
  · exact fun _ => hq 1 0 S (Or.inr (Or.inl ⟨he, rfl, rfl⟩)) h D rfl Fr.rf (fun _ => Or.inl) hI (fun z => absurd z (by decide))
  · exact fun _ => hq 2 0 S (Or.inr (Or.inr ⟨he, rfl, rfl⟩)) h D rfl Fr.rf (fun _ => Or.inl) hI (fun z => absurd z (by decide))
/-! building -/
theorem hhk_L_building : hhOK (mow ML_building) (mhh ML_building) := show hhOK RL [(0, 10, 13, 21)] from (hhOK_c 52 (by decide +kernel) hhOK_nil)
theorem cX_L_building_IOB {PX : String → Hp → Prop} {K : Nat → Ls → List Value → Hp → Nat × Nat → Prop} {ls : Ls} {b : Nat × Nat} {h : Hp} : cX ML_building PX K 5 ls b IOB h = ∀ a, K 13 ls [.ref a] h b := cX_some (by rw [mhh_L_building]; exact List.cons_ne_nil _ _) (by decide +kernel)
def ct_L_building (G : GT) (D : WD) (S : SS) : Ct := fun As h Q _ => sR As fun cx r => sI r fun b r => sI r fun w r => sR r fun ou r => s0 r (CI G h D S ∧ WW S ∧ cx = D 0 0 ∧ kd h ou = 23 ∧ ln h ou = 1 ∧ ∀ kk vv T, OC_building S b w kk vv T → nxL G h D S ou Q kk vv T)
def ce_L_building (G : GT) (D : WD) (S : SS) : CE := (1, yL_building, ML_building, 4, 10, 4, 24, ct_L_building G D S)
set_option maxRecDepth 100000 in
set_option maxHeartbeats 4000000 in
theorem ok_L_building (G : GT) (G : GT) (D : WD) (S : SS) (hW : WF S) : OKm G yL_building ML_building 10 4 24 (ct_L_building G D S) := by
  refine mkOK (ini := false) (by decide) rfl (by first | exact fun _ => rfl | (intro hh; cases hh)) (fun As h Q QX hc => ?_)
  replace hc := sR_e hc; obtain ⟨cx, r, rfl, hc⟩ := hc
  replace hc := sI_e hc; obtain ⟨b, r, rfl, hc⟩ := hc
  replace hc := sI_e hc; obtain ⟨w, r, rfl, hc⟩ := hc
  replace hc := sR_e hc; obtain ⟨ou, r, rfl, hc⟩ := hc
  replace hc := s0_e hc; obtain ⟨rfl, hc⟩ := hc
  obtain ⟨hI, hw, rfl, ko, lo, hq⟩ := hc
  have hD := hI.cd
  have k0 : kd h (D 0 0) = 6 := hI.1.1.1
  refine ⟨Nat.le_of_ble_eq_true rfl, ?_⟩
  simp only [ent, entL, catN, List.length_cons, List.length_nil, List.replicate, List.cons_append, List.nil_append, reduceIte, Nat.reduceEqDiff,  Nat.reduceAdd, Nat.reduceSub, mnl_L_building]
  refine wpW (cs := [(31, ce_X4_building_t G D S)]) (stop := [8]) (n := 200) (env_cons (ceV (by decide +kernel) ⟨by decide, by decide, by decide +kernel⟩ (by decide) rfl (ok_X4_building_t G G D S hW)) (env_nil0 hhk_L_building)) ?_
  simp only [↓wpN_S, ↓step_u, ↓stC_s, stC_s, ↓stF_u, stF_u, ↓stepI, lenI, ↓kN_u, isS, ↓gI_0, ↓gI_S, ↓gL_0, ↓gL_S, ↓gD_0, ↓gD_S, ↓gR_0, ↓gR_S, ↓sI_c, ↓sL_c, ↓sD_c, ↓sR_c, ↓s1_r, ↓s1_i, ↓vR_r, ↓vR_n, ↓s0_n, s0_n, ↓oR_u, ↓sP_u, ↓sPa_0, ↓sPa_S, ↓lkC_c, ↓callK_u, ↓cQ_s, ↓cQ_n, putL, putW, clr, kil, catS, catN, refF, booF, finF, nF, nmOf_0, nmOf_1, nmOf_2, nmOf_3, nmOf_4, nmOf_5, nmOf_6, nmOf_50, nmOf_51, nmOf_52, ↓reduceIte, reduceIte, Bool.false_eq_true, eq_self, true_or, or_true, true_and, and_true, false_or, or_false, Nat.reduceAdd, Nat.reduceSub, Nat.reduceEqDiff, Nat.reduceLT, Nat.reduceLeDiff, reduceCtorEq, true_implies, List.length_cons, List.length_nil, List.replicate, List.cons_append, List.nil_append, mrt_L_building, mhh_L_building, mow_L_building, mnl_L_building, DL_building_0, DL_building_1, DL_building_2, DL_building_3, DL_building_4, DL_building_5, DL_building_8, DL_building_9, DL_building_10, DL_building_13, DL_building_15, DL_building_16, DL_building_17, DL_building_18, ce_X4_building_t, ↓ct_X4_building_t, ycl_X4_building, nxc, nxr, cX_L_building_IOB]
  simp only [k0, hI, hD, hw, nmOf_5, Nat.reduceSub, Nat.reduceLT, Nat.reduceEqDiff, ne_eq, not_false_eq_true, true_and, and_true]
  refine ⟨fun hv => ?_, fun he => ?_⟩
  · have f' : Fr h h (fun a => WO D S a ∨ a = ou) := Fr.rf
    have ko' : kd h ou = 23 := (f' ou (by omega)).1.1.trans ko
    have lo' : ln h ou = 1 := (f' ou (by omega)).1.2.trans lo
    refine Wp.z ?_
    refine wpW (cs := [(31, ce_X4_building_t G D S)]) (stop := []) (n := 200) (env_cons (ceV (by decide +kernel) ⟨by decide, by decide, by decide +kernel⟩ (by decide) rfl (ok_X4_building_t G G D S hW)) (env_nil0 hhk_L_building)) ?_
    simp only [↓wpN_S, ↓step_u, ↓stC_s, stC_s, ↓stF_u, stF_u, ↓stepI, lenI, ↓kN_u, isS, ↓gI_0, ↓gI_S, ↓gL_0, ↓gL_S, ↓gD_0, ↓gD_S, ↓gR_0, ↓gR_S, ↓sI_c, ↓sL_c, ↓sD_c, ↓sR_c, ↓s1_r, ↓s1_i, ↓vR_r, ↓vR_n, ↓s0_n, s0_n, ↓oR_u, ↓sP_u, ↓sPa_0, ↓sPa_S, ↓lkC_c, ↓callK_u, ↓cQ_s, ↓cQ_n, putL, putW, clr, kil, catS, catN, refF, booF, finF, nF, nmOf_0, nmOf_1, nmOf_2, nmOf_3, nmOf_4, nmOf_5, nmOf_6, nmOf_50, nmOf_51, nmOf_52, ↓reduceIte, reduceIte, Bool.false_eq_true, eq_self, true_or, or_true, true_and, and_true, false_or, or_false, Nat.reduceAdd, Nat.reduceSub, Nat.reduceEqDiff, Nat.reduceLT, Nat.reduceLeDiff, reduceCtorEq, true_implies, List.length_cons, List.length_nil, List.replicate, List.cons_append, List.nil_append, mrt_L_building, mhh_L_building, mow_L_building, mnl_L_building, DL_building_0, DL_building_1, DL_building_2, DL_building_3, DL_building_4, DL_building_5, DL_building_8, DL_building_9, DL_building_10, DL_building_13, DL_building_15, DL_building_16, DL_building_17, DL_building_18, ce_X4_building_t, ↓ct_X4_building_t, ycl_X4_building, nxc, nxr, cX_L_building_IOB]
    simp (disch := omega) only [i32_lit, i32_neg, i32_add, i32_mul, i32_sub, i32_nI, i32_lt, i32_le, i32_eq, inR_i, i32_clamp, i32_div, i32_max, i32_min, ite_max, ite_min, b2i_0, b2i_1, b2i_01, i32_toInt, tn_i, Int.toNat_natCast, em_t, true_and, and_true, Int.reduceToNat, Int.reduceLE, Int.reduceLT, Int.reduceAdd, Int.reduceMul, Int.reduceSub, Int.reduceNeg, Int.reduceEq, true_implies, not_true_eq_false, false_implies, not_false_eq_true, ko', lo']
    repeat (refine And.intro (by first | omega | decide) ?_)
    exact hq 0 _ _ (Or.inl ⟨hv, rfl, rfl, rfl⟩) _ D rfl (f'.tr (Fr.sL (Or.inr rfl))) (fun _ => Or.inl) hI.la (fun _ => ja_o)
  · exact fun _ => hq 1 0 S (Or.inr ⟨he, rfl, rfl⟩) h D rfl Fr.rf (fun _ => Or.inl) hI (fun z => absurd z (by decide))
/-! shade -/
theorem hhk_L_shade : hhOK (mow ML_shade) (mhh ML_shade) := show hhOK RL [(0, 12, 15, 21)] from (hhOK_c 52 (by decide +kernel) hhOK_nil)
theorem cX_L_shade_IOB {PX : String → Hp → Prop} {K : Nat → Ls → List Value → Hp → Nat × Nat → Prop} {ls : Ls} {b : Nat × Nat} {h : Hp} : cX ML_shade PX K 7 ls b IOB h = ∀ a, K 15 ls [.ref a] h b := cX_some (by rw [mhh_L_shade]; exact List.cons_ne_nil _ _) (by decide +kernel)
def ct_L_shade (G : GT) (D : WD) (S : SS) : Ct := fun As h Q _ => sR As fun cx r => sI r fun hr r => sI r fun x r => sI r fun y r => sR r fun ou r => s0 r (CI G h D S ∧ WW S ∧ cx = D 0 0 ∧ kd h ou = 23 ∧ ln h ou = 1 ∧ ∀ kk vv T, OC_shade S hr x y kk vv T → nxL G h D S ou Q kk vv T)
def ce_L_shade (G : GT) (D : WD) (S : SS) : CE := (1, yL_shade, ML_shade, 5, 11, 4, 24, ct_L_shade G D S)
set_option maxRecDepth 100000 in
set_option maxHeartbeats 4000000 in
theorem ok_L_shade (G : GT) (G : GT) (D : WD) (S : SS) (hW : WF S) : OKm G yL_shade ML_shade 11 4 24 (ct_L_shade G D S) := by
  refine mkOK (ini := false) (by decide) rfl (by first | exact fun _ => rfl | (intro hh; cases hh)) (fun As h Q QX hc => ?_)
  replace hc := sR_e hc; obtain ⟨cx, r, rfl, hc⟩ := hc
  replace hc := sI_e hc; obtain ⟨hr, r, rfl, hc⟩ := hc
  replace hc := sI_e hc; obtain ⟨x, r, rfl, hc⟩ := hc
  replace hc := sI_e hc; obtain ⟨y, r, rfl, hc⟩ := hc
  replace hc := sR_e hc; obtain ⟨ou, r, rfl, hc⟩ := hc
  replace hc := s0_e hc; obtain ⟨rfl, hc⟩ := hc
  obtain ⟨hI, hw, rfl, ko, lo, hq⟩ := hc
  have hD := hI.cd
  have k0 : kd h (D 0 0) = 6 := hI.1.1.1
  refine ⟨Nat.le_of_ble_eq_true rfl, ?_⟩
  simp only [ent, entL, catN, List.length_cons, List.length_nil, List.replicate, List.cons_append, List.nil_append, reduceIte, Nat.reduceEqDiff,  Nat.reduceAdd, Nat.reduceSub, mnl_L_shade]
  refine wpW (cs := [(34, ce_X4_shade_t G D S)]) (stop := [10]) (n := 200) (env_cons (ceV (by decide +kernel) ⟨by decide, by decide, by decide +kernel⟩ (by decide) rfl (ok_X4_shade_t G G D S hW)) (env_nil0 hhk_L_shade)) ?_
  simp only [↓wpN_S, ↓step_u, ↓stC_s, stC_s, ↓stF_u, stF_u, ↓stepI, lenI, ↓kN_u, isS, ↓gI_0, ↓gI_S, ↓gL_0, ↓gL_S, ↓gD_0, ↓gD_S, ↓gR_0, ↓gR_S, ↓sI_c, ↓sL_c, ↓sD_c, ↓sR_c, ↓s1_r, ↓s1_i, ↓vR_r, ↓vR_n, ↓s0_n, s0_n, ↓oR_u, ↓sP_u, ↓sPa_0, ↓sPa_S, ↓lkC_c, ↓callK_u, ↓cQ_s, ↓cQ_n, putL, putW, clr, kil, catS, catN, refF, booF, finF, nF, nmOf_0, nmOf_1, nmOf_2, nmOf_3, nmOf_4, nmOf_5, nmOf_6, nmOf_50, nmOf_51, nmOf_52, ↓reduceIte, reduceIte, Bool.false_eq_true, eq_self, true_or, or_true, true_and, and_true, false_or, or_false, Nat.reduceAdd, Nat.reduceSub, Nat.reduceEqDiff, Nat.reduceLT, Nat.reduceLeDiff, reduceCtorEq, true_implies, List.length_cons, List.length_nil, List.replicate, List.cons_append, List.nil_append, mrt_L_shade, mhh_L_shade, mow_L_shade, mnl_L_shade, DL_shade_0, DL_shade_2, DL_shade_3, DL_shade_4, DL_shade_5, DL_shade_6, DL_shade_7, DL_shade_10, DL_shade_11, DL_shade_12, DL_shade_15, DL_shade_17, DL_shade_18, DL_shade_19, DL_shade_20, ce_X4_shade_t, ↓ct_X4_shade_t, ycl_X4_shade, nxc, nxr, cX_L_shade_IOB]
  simp only [k0, hI, hD, hw, nmOf_5, Nat.reduceSub, Nat.reduceLT, Nat.reduceEqDiff, ne_eq, not_false_eq_true, true_and, and_true]
  refine ⟨fun hv => ?_, fun he => ?_⟩
  · intro h' f hI'
    have f' : Fr h h' (fun a => WO D S a ∨ a = ou) := f.up (fun a q => Or.inl (WK.wo a q))
    have ko' : kd h' ou = 23 := (f' ou (by omega)).1.1.trans ko
    have lo' : ln h' ou = 1 := (f' ou (by omega)).1.2.trans lo
    refine Wp.z ?_
    refine wpW (cs := [(34, ce_X4_shade_t G D S)]) (stop := []) (n := 200) (env_cons (ceV (by decide +kernel) ⟨by decide, by decide, by decide +kernel⟩ (by decide) rfl (ok_X4_shade_t G G D S hW)) (env_nil0 hhk_L_shade)) ?_
    simp only [↓wpN_S, ↓step_u, ↓stC_s, stC_s, ↓stF_u, stF_u, ↓stepI, lenI, ↓kN_u, isS, ↓gI_0, ↓gI_S, ↓gL_0, ↓gL_S, ↓gD_0, ↓gD_S, ↓gR_0, ↓gR_S, ↓sI_c, ↓sL_c, ↓sD_c, ↓sR_c, ↓s1_r, ↓s1_i, ↓vR_r, ↓vR_n, ↓s0_n, s0_n, ↓oR_u, ↓sP_u, ↓sPa_0, ↓sPa_S, ↓lkC_c, ↓callK_u, ↓cQ_s, ↓cQ_n, putL, putW, clr, kil, catS, catN, refF, booF, finF, nF, nmOf_0, nmOf_1, nmOf_2, nmOf_3, nmOf_4, nmOf_5, nmOf_6, nmOf_50, nmOf_51, nmOf_52, ↓reduceIte, reduceIte, Bool.false_eq_true, eq_self, true_or, or_true, true_and, and_true, false_or, or_false, Nat.reduceAdd, Nat.reduceSub, Nat.reduceEqDiff, Nat.reduceLT, Nat.reduceLeDiff, reduceCtorEq, true_implies, List.length_cons, List.length_nil, List.replicate, List.cons_append, List.nil_append, mrt_L_shade, mhh_L_shade, mow_L_shade, mnl_L_shade, DL_shade_0, DL_shade_2, DL_shade_3, DL_shade_4, DL_shade_5, DL_shade_6, DL_shade_7, DL_shade_10, DL_shade_11, DL_shade_12, DL_shade_15, DL_shade_17, DL_shade_18, DL_shade_19, DL_shade_20, ce_X4_shade_t, ↓ct_X4_shade_t, ycl_X4_shade, nxc, nxr, cX_L_shade_IOB]
    simp (disch := omega) only [i32_lit, i32_neg, i32_add, i32_mul, i32_sub, i32_nI, i32_lt, i32_le, i32_eq, inR_i, i32_clamp, i32_div, i32_max, i32_min, ite_max, ite_min, b2i_0, b2i_1, b2i_01, i32_toInt, tn_i, Int.toNat_natCast, em_t, true_and, and_true, Int.reduceToNat, Int.reduceLE, Int.reduceLT, Int.reduceAdd, Int.reduceMul, Int.reduceSub, Int.reduceNeg, Int.reduceEq, true_implies, not_true_eq_false, false_implies, not_false_eq_true, ko', lo']
    repeat (refine And.intro (by first | omega | decide) ?_)
    exact hq 0 _ _ (Or.inl ⟨hv, rfl, rfl, rfl⟩) _ D rfl (f'.tr (Fr.sL (Or.inr rfl))) (fun _ => Or.inl) hI'.la (fun _ => ja_o)
  · exact fun _ => hq 1 0 S (Or.inr ⟨he, rfl, rfl⟩) h D rfl Fr.rf (fun _ => Or.inl) hI (fun z => absurd z (by decide))
/-! shades -/
theorem hhk_L_shades : hhOK (mow ML_shades) (mhh ML_shades) := show hhOK RL [(0, 12, 15, 21)] from (hhOK_c 52 (by decide +kernel) hhOK_nil)
theorem cX_L_shades_IOB {PX : String → Hp → Prop} {K : Nat → Ls → List Value → Hp → Nat × Nat → Prop} {ls : Ls} {b : Nat × Nat} {h : Hp} : cX ML_shades PX K 7 ls b IOB h = ∀ a, K 15 ls [.ref a] h b := cX_some (by rw [mhh_L_shades]; exact List.cons_ne_nil _ _) (by decide +kernel)
def ct_L_shades (G : GT) (D : WD) (S : SS) : Ct := fun As h Q _ => sR As fun cx r => sI r fun hr r => sI r fun x r => sI r fun y r => sR r fun ou r => s0 r (CI G h D S ∧ WW S ∧ cx = D 0 0 ∧ kd h ou = 23 ∧ ln h ou = 1 ∧ ∀ kk vv T, OC_shades S hr x y kk vv T → nxL G h D S ou Q kk vv T)
def ce_L_shades (G : GT) (D : WD) (S : SS) : CE := (1, yL_shades, ML_shades, 5, 11, 4, 24, ct_L_shades G D S)
set_option maxRecDepth 100000 in
set_option maxHeartbeats 4000000 in
theorem ok_L_shades (G : GT) (G : GT) (D : WD) (S : SS) (hW : WF S) : OKm G yL_shades ML_shades 11 4 24 (ct_L_shades G D S) := by
  refine mkOK (ini := false) (by decide) rfl (by first | exact fun _ => rfl | (intro hh; cases hh)) (fun As h Q QX hc => ?_)
  replace hc := sR_e hc; obtain ⟨cx, r, rfl, hc⟩ := hc
  replace hc := sI_e hc; obtain ⟨hr, r, rfl, hc⟩ := hc
  replace hc := sI_e hc; obtain ⟨x, r, rfl, hc⟩ := hc
  replace hc := sI_e hc; obtain ⟨y, r, rfl, hc⟩ := hc
  replace hc := sR_e hc; obtain ⟨ou, r, rfl, hc⟩ := hc
  replace hc := s0_e hc; obtain ⟨rfl, hc⟩ := hc
  obtain ⟨hI, hw, rfl, ko, lo, hq⟩ := hc
  have hD := hI.cd
  have k0 : kd h (D 0 0) = 6 := hI.1.1.1
  refine ⟨Nat.le_of_ble_eq_true rfl, ?_⟩
  simp only [ent, entL, catN, List.length_cons, List.length_nil, List.replicate, List.cons_append, List.nil_append, reduceIte, Nat.reduceEqDiff,  Nat.reduceAdd, Nat.reduceSub, mnl_L_shades]
  refine wpW (cs := [(38, ce_X4_shades_t G D S)]) (stop := [10]) (n := 200) (env_cons (ceV (by decide +kernel) ⟨by decide, by decide, by decide +kernel⟩ (by decide) rfl (ok_X4_shades_t G G D S hW)) (env_nil0 hhk_L_shades)) ?_
  simp only [↓wpN_S, ↓step_u, ↓stC_s, stC_s, ↓stF_u, stF_u, ↓stepI, lenI, ↓kN_u, isS, ↓gI_0, ↓gI_S, ↓gL_0, ↓gL_S, ↓gD_0, ↓gD_S, ↓gR_0, ↓gR_S, ↓sI_c, ↓sL_c, ↓sD_c, ↓sR_c, ↓s1_r, ↓s1_i, ↓vR_r, ↓vR_n, ↓s0_n, s0_n, ↓oR_u, ↓sP_u, ↓sPa_0, ↓sPa_S, ↓lkC_c, ↓callK_u, ↓cQ_s, ↓cQ_n, putL, putW, clr, kil, catS, catN, refF, booF, finF, nF, nmOf_0, nmOf_1, nmOf_2, nmOf_3, nmOf_4, nmOf_5, nmOf_6, nmOf_50, nmOf_51, nmOf_52, ↓reduceIte, reduceIte, Bool.false_eq_true, eq_self, true_or, or_true, true_and, and_true, false_or, or_false, Nat.reduceAdd, Nat.reduceSub, Nat.reduceEqDiff, Nat.reduceLT, Nat.reduceLeDiff, reduceCtorEq, true_implies, List.length_cons, List.length_nil, List.replicate, List.cons_append, List.nil_append, mrt_L_shades, mhh_L_shades, mow_L_shades, mnl_L_shades, DL_shades_0, DL_shades_2, DL_shades_3, DL_shades_4, DL_shades_5, DL_shades_6, DL_shades_7, DL_shades_10, DL_shades_11, DL_shades_12, DL_shades_15, DL_shades_17, DL_shades_18, DL_shades_19, DL_shades_20, ce_X4_shades_t, ↓ct_X4_shades_t, ycl_X4_shades, nxc, nxr, cX_L_shades_IOB]
  simp only [k0, hI, hD, hw, nmOf_5, Nat.reduceSub, Nat.reduceLT, Nat.reduceEqDiff, ne_eq, not_false_eq_true, true_and, and_true]
  refine ⟨fun hv => ?_, fun he => ?_⟩
  · intro h' f hI'
    have f' : Fr h h' (fun a => WO D S a ∨ a = ou) := f.up (fun a q => Or.inl (WK.wo a q))
    have ko' : kd h' ou = 23 := (f' ou (by omega)).1.1.trans ko
    have lo' : ln h' ou = 1 := (f' ou (by omega)).1.2.trans lo
    refine Wp.z ?_
    refine wpW (cs := [(38, ce_X4_shades_t G D S)]) (stop := []) (n := 200) (env_cons (ceV (by decide +kernel) ⟨by decide, by decide, by decide +kernel⟩ (by decide) rfl (ok_X4_shades_t G G D S hW)) (env_nil0 hhk_L_shades)) ?_
    simp only [↓wpN_S, ↓step_u, ↓stC_s, stC_s, ↓stF_u, stF_u, ↓stepI, lenI, ↓kN_u, isS, ↓gI_0, ↓gI_S, ↓gL_0, ↓gL_S, ↓gD_0, ↓gD_S, ↓gR_0, ↓gR_S, ↓sI_c, ↓sL_c, ↓sD_c, ↓sR_c, ↓s1_r, ↓s1_i, ↓vR_r, ↓vR_n, ↓s0_n, s0_n, ↓oR_u, ↓sP_u, ↓sPa_0, ↓sPa_S, ↓lkC_c, ↓callK_u, ↓cQ_s, ↓cQ_n, putL, putW, clr, kil, catS, catN, refF, booF, finF, nF, nmOf_0, nmOf_1, nmOf_2, nmOf_3, nmOf_4, nmOf_5, nmOf_6, nmOf_50, nmOf_51, nmOf_52, ↓reduceIte, reduceIte, Bool.false_eq_true, eq_self, true_or, or_true, true_and, and_true, false_or, or_false, Nat.reduceAdd, Nat.reduceSub, Nat.reduceEqDiff, Nat.reduceLT, Nat.reduceLeDiff, reduceCtorEq, true_implies, List.length_cons, List.length_nil, List.replicate, List.cons_append, List.nil_append, mrt_L_shades, mhh_L_shades, mow_L_shades, mnl_L_shades, DL_shades_0, DL_shades_2, DL_shades_3, DL_shades_4, DL_shades_5, DL_shades_6, DL_shades_7, DL_shades_10, DL_shades_11, DL_shades_12, DL_shades_15, DL_shades_17, DL_shades_18, DL_shades_19, DL_shades_20, ce_X4_shades_t, ↓ct_X4_shades_t, ycl_X4_shades, nxc, nxr, cX_L_shades_IOB]
    simp (disch := omega) only [i32_lit, i32_neg, i32_add, i32_mul, i32_sub, i32_nI, i32_lt, i32_le, i32_eq, inR_i, i32_clamp, i32_div, i32_max, i32_min, ite_max, ite_min, b2i_0, b2i_1, b2i_01, i32_toInt, tn_i, Int.toNat_natCast, em_t, true_and, and_true, Int.reduceToNat, Int.reduceLE, Int.reduceLT, Int.reduceAdd, Int.reduceMul, Int.reduceSub, Int.reduceNeg, Int.reduceEq, true_implies, not_true_eq_false, false_implies, not_false_eq_true, ko', lo']
    repeat (refine And.intro (by first | omega | decide) ?_)
    exact hq 0 _ _ (Or.inl ⟨hv, rfl, rfl, rfl⟩) _ D rfl (f'.tr (Fr.sL (Or.inr rfl))) (fun _ => Or.inl) hI'.la (fun _ => ja_o)
  · exact fun _ => hq 1 0 S (Or.inr ⟨he, rfl, rfl⟩) h D rfl Fr.rf (fun _ => Or.inl) hI (fun z => absurd z (by decide))
