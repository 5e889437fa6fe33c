/-! ===== the reference: its world ===== -/
/-- the lengths of its rows, by their fields -/
def mLen : Nat → Nat
  | 5 => 84
  | 6 => 360
  | 7 => 36
  | 8 => 8
  | 9 => 16
  | _ => 3072
/-- the reference's object and its rows, at A 5 .. A 11 -/
def MA (h : Hp) (m : Nat) (A : Nat → Nat) : Prop := kd h m = 7 ∧ (∀ k, 5 ≤ k → k ≤ 11 → fr h 6 k m = some (A k) ∧ kd h (A k) = 21 ∧ ln h (A k) = mLen k) ∧ ∀ i j, 5 ≤ i → i ≤ 11 → 5 ≤ j → j ≤ 11 → A i = A j → i = j
/-- what they hold -/
def MD (h : Hp) (m : Nat) (A : Nat → Nat) (S : SS) : Prop := MA h m A ∧ fi h 6 1 m = i32 S.dy ∧ fi h 6 2 m = i32 S.ev ∧ fi h 6 3 m = i32 S.nb ∧ fi h 6 4 m = i32 S.nl ∧
  (∀ b k, b < S.nb → k < 7 → ia h (A 5) (7 * b + k) = i32 (S.bf b k)) ∧ (∀ l k, l < S.nl → k < 9 → ia h (A 6) (9 * l + k) = i32 (S.lf l k)) ∧ (∀ r k, r < 12 → k < 3 → ia h (A 7) (3 * r + k) = i32 (S.sn r k)) ∧
  (∀ o, o < 8 → ia h (A 8) o = i32 (S.gt o)) ∧ (∀ t, t < 16 → ia h (A 9) t = i32 (S.pd t))
/-- .. and its shades -/
def MC (h : Hp) (A : Nat → Nat) (S : SS) : Prop := ∀ r c, r < 12 → c < 256 → ia h (A 10) (256 * r + c) = i32 (bel S r c) ∧ ia h (A 11) (256 * r + c) = i32 (shd S r c)
/-! plain -/
def ct_X5_isIn : Ct := fun As h Q _ => sI As fun v r => sI r fun a r => sI r fun b r => s0 r (Q (some (.int (b2i (a ≤ v ∧ v ≤ b)))) h)
def ce_X5_isIn : CE := (1, yX5_isIn, MX5_isIn, 3, 0, 0, 0, ct_X5_isIn)
set_option maxRecDepth 100000 in
set_option maxHeartbeats 4000000 in
theorem ok_X5_isIn (G : GT) : OKm G yX5_isIn MX5_isIn 0 0 0 ct_X5_isIn := by
  refine mkOK (ini := false) (by decide) rfl (by first | exact fun _ => rfl | (intro hh; cases hh)) (fun As h Q QX hc => ?_)
  replace hc := sI_e hc; obtain ⟨v, r, rfl, hc⟩ := hc
  replace hc := sI_e hc; obtain ⟨a, r, rfl, hc⟩ := hc
  replace hc := sI_e hc; obtain ⟨b, r, rfl, hc⟩ := hc
  replace hc := s0_e hc; obtain ⟨rfl, hc⟩ := hc
  refine ⟨Nat.le_of_ble_eq_true rfl, ?_⟩
  simp only [ent, entL, catN, List.length_cons, List.length_nil, List.replicate, List.cons_append, List.nil_append, reduceIte, Nat.reduceEqDiff,  Nat.reduceAdd, Nat.reduceSub, mnl_X5_isIn]
  refine wpW (cs := []) (stop := []) (n := 200) (env_nil0 (env_hh rfl)) ?_
  simp only [↓wpN_S, ↓step_u, ↓stC_s, stC_s, ↓stF_u, stF_u, ↓stepI, lenI, ↓kN_u, isS, ↓gI_0, ↓gI_S, ↓gL_0, ↓gL_S, ↓gD_0, ↓gD_S, ↓gR_0, ↓gR_S, ↓sI_c, ↓sL_c, ↓sD_c, ↓sR_c, ↓s1_r, ↓s1_i, ↓vR_r, ↓vR_n, ↓s0_n, s0_n, ↓oR_u, ↓sP_u, ↓sPa_0, ↓sPa_S, ↓lkC_c, ↓callK_u, ↓cQ_s, ↓cQ_n, putL, putW, clr, kil, catS, catN, refF, booF, finF, nF, nmOf_0, nmOf_1, nmOf_2, nmOf_3, nmOf_4, nmOf_5, nmOf_6, nmOf_50, nmOf_51, nmOf_52, ↓reduceIte, reduceIte, Bool.false_eq_true, eq_self, true_or, or_true, true_and, and_true, false_or, or_false, Nat.reduceAdd, Nat.reduceSub, Nat.reduceEqDiff, Nat.reduceLT, Nat.reduceLeDiff, reduceCtorEq, true_implies, List.length_cons, List.length_nil, List.replicate, List.cons_append, List.nil_append, mrt_X5_isIn, mhh_X5_isIn, mow_X5_isIn, mnl_X5_isIn, DX5_isIn_0, DX5_isIn_1, DX5_isIn_2, DX5_isIn_5, DX5_isIn_6, DX5_isIn_7, DX5_isIn_10, DX5_isIn_11, DX5_isIn_14, DX5_isIn_15]
  refine ⟨fun h1 => ?_, fun h1 => ⟨fun h2 => ?_, fun h2 => ?_⟩⟩
  · rw [b2i_f (fun q => absurd h1 (Int32.not_lt.mpr q.1))] at hc; exact hc
  · rw [b2i_f (fun q => absurd h2 (Int32.not_lt.mpr q.2))] at hc; exact hc
  · rw [b2i_t ⟨Int32.not_lt.mp h1, Int32.not_lt.mp h2⟩] at hc; exact hc
def ct_X5_isHour : Ct := fun As h Q _ => sI As fun v r => s0 r (Q (some (.int (b2i (i32 0 ≤ v ∧ v ≤ i32 11)))) h)
def ce_X5_isHour : CE := (1, yX5_isHour, MX5_isHour, 1, 1, 0, 0, ct_X5_isHour)
set_option maxRecDepth 100000 in
set_option maxHeartbeats 4000000 in
theorem ok_X5_isHour (G : GT) : OKm G yX5_isHour MX5_isHour 1 0 0 ct_X5_isHour := by
  refine mkOK (ini := false) (by decide) rfl (by first | exact fun _ => rfl | (intro hh; cases hh)) (fun As h Q QX hc => ?_)
  replace hc := sI_e hc; obtain ⟨v, r, rfl, hc⟩ := hc
  replace hc := s0_e hc; obtain ⟨rfl, hc⟩ := hc
  refine ⟨Nat.le_of_ble_eq_true rfl, ?_⟩
  simp only [ent, entL, catN, List.length_cons, List.length_nil, List.replicate, List.cons_append, List.nil_append, reduceIte, Nat.reduceEqDiff,  Nat.reduceAdd, Nat.reduceSub, mnl_X5_isHour]
  refine wpW (cs := [(39, ce_X5_isIn)]) (stop := []) (n := 200) (env_cons (ceS (by decide +kernel) ⟨by decide, by decide, by decide +kernel⟩ (by decide) (ok_X5_isIn G)) (env_nil0 (env_hh rfl))) ?_
  simp only [↓wpN_S, ↓step_u, ↓stC_s, stC_s, ↓stF_u, stF_u, ↓stepI, lenI, ↓kN_u, isS, ↓gI_0, ↓gI_S, ↓gL_0, ↓gL_S, ↓gD_0, ↓gD_S, ↓gR_0, ↓gR_S, ↓sI_c, ↓sL_c, ↓sD_c, ↓sR_c, ↓s1_r, ↓s1_i, ↓vR_r, ↓vR_n, ↓s0_n, s0_n, ↓oR_u, ↓sP_u, ↓sPa_0, ↓sPa_S, ↓lkC_c, ↓callK_u, ↓cQ_s, ↓cQ_n, putL, putW, clr, kil, catS, catN, refF, booF, finF, nF, nmOf_0, nmOf_1, nmOf_2, nmOf_3, nmOf_4, nmOf_5, nmOf_6, nmOf_50, nmOf_51, nmOf_52, ↓reduceIte, reduceIte, Bool.false_eq_true, eq_self, true_or, or_true, true_and, and_true, false_or, or_false, Nat.reduceAdd, Nat.reduceSub, Nat.reduceEqDiff, Nat.reduceLT, Nat.reduceLeDiff, reduceCtorEq, true_implies, List.length_cons, List.length_nil, List.replicate, List.cons_append, List.nil_append, mrt_X5_isHour, mhh_X5_isHour, mow_X5_isHour, mnl_X5_isHour, DX5_isHour_0, DX5_isHour_1, DX5_isHour_2, DX5_isHour_4, DX5_isHour_7, ce_X5_isIn, ↓ct_X5_isIn, ycl_X5_isIn, cX_nil mhh_X5_isHour]
  exact ⟨Or.comm.mp (Or.comm.mp b2i_01), hc⟩
def ct_X5_thrown : Ct := fun As h Q _ => sR As fun m r => s0 r (kd h m = 7 ∧ Q (some (.int (fi h 6 0 m))) h)
def ce_X5_thrown : CE := (0, yX5_thrown, MX5_thrown, 0, 0, 0, 0, ct_X5_thrown)
set_option maxRecDepth 100000 in
set_option maxHeartbeats 4000000 in
theorem ok_X5_thrown (G : GT) : OKm G yX5_thrown MX5_thrown 0 0 0 ct_X5_thrown := by
  refine mkOK (ini := false) (by decide) rfl (by first | exact fun _ => rfl | (intro hh; cases hh)) (fun As h Q QX hc => ?_)
  replace hc := sR_e hc; obtain ⟨m, r, rfl, hc⟩ := hc
  replace hc := s0_e hc; obtain ⟨rfl, hc⟩ := hc
  obtain ⟨hk, hq⟩ := hc
  refine ⟨Nat.le_of_ble_eq_true rfl, ?_⟩
  simp only [ent, entL, catN, List.length_cons, List.length_nil, List.replicate, List.cons_append, List.nil_append, reduceIte, Nat.reduceEqDiff,  Nat.reduceAdd, Nat.reduceSub, mnl_X5_thrown]
  refine wpW (cs := []) (stop := []) (n := 200) (env_nil0 (env_hh rfl)) ?_
  simp only [↓wpN_S, ↓step_u, ↓stC_s, stC_s, ↓stF_u, stF_u, ↓stepI, lenI, ↓kN_u, isS, ↓gI_0, ↓gI_S, ↓gL_0, ↓gL_S, ↓gD_0, ↓gD_S, ↓gR_0, ↓gR_S, ↓sI_c, ↓sL_c, ↓sD_c, ↓sR_c, ↓s1_r, ↓s1_i, ↓vR_r, ↓vR_n, ↓s0_n, s0_n, ↓oR_u, ↓sP_u, ↓sPa_0, ↓sPa_S, ↓lkC_c, ↓callK_u, ↓cQ_s, ↓cQ_n, putL, putW, clr, kil, catS, catN, refF, booF, finF, nF, nmOf_0, nmOf_1, nmOf_2, nmOf_3, nmOf_4, nmOf_5, nmOf_6, nmOf_50, nmOf_51, nmOf_52, ↓reduceIte, reduceIte, Bool.false_eq_true, eq_self, true_or, or_true, true_and, and_true, false_or, or_false, Nat.reduceAdd, Nat.reduceSub, Nat.reduceEqDiff, Nat.reduceLT, Nat.reduceLeDiff, reduceCtorEq, true_implies, List.length_cons, List.length_nil, List.replicate, List.cons_append, List.nil_append, mrt_X5_thrown, mhh_X5_thrown, mow_X5_thrown, mnl_X5_thrown, DX5_thrown_0, DX5_thrown_1, DX5_thrown_4]
  simp [hk, hq]
def ct_X5_fail : Ct := fun As h Q _ => sR As fun m r => sI r fun v r => s0 r (kd h m = 7 ∧ Q (some (.int 0)) (setI h 6 0 m v))
def ce_X5_fail : CE := (0, yX5_fail, MX5_fail, 1, 0, 0, 0, ct_X5_fail)
set_option maxRecDepth 100000 in
set_option maxHeartbeats 4000000 in
theorem ok_X5_fail (G : GT) : OKm G yX5_fail MX5_fail 0 0 0 ct_X5_fail := by
  refine mkOK (ini := false) (by decide) rfl (by first | exact fun _ => rfl | (intro hh; cases hh)) (fun As h Q QX hc => ?_)
  replace hc := sR_e hc; obtain ⟨m, r, rfl, hc⟩ := hc
  replace hc := sI_e hc; obtain ⟨v, r, rfl, hc⟩ := hc
  replace hc := s0_e hc; obtain ⟨rfl, hc⟩ := hc
  obtain ⟨hk, hq⟩ := hc
  refine ⟨Nat.le_of_ble_eq_true rfl, ?_⟩
  simp only [ent, entL, catN, List.length_cons, List.length_nil, List.replicate, List.cons_append, List.nil_append, reduceIte, Nat.reduceEqDiff,  Nat.reduceAdd, Nat.reduceSub, mnl_X5_fail]
  refine wpW (cs := []) (stop := []) (n := 200) (env_nil0 (env_hh rfl)) ?_
  simp only [↓wpN_S, ↓step_u, ↓stC_s, stC_s, ↓stF_u, stF_u, ↓stepI, lenI, ↓kN_u, isS, ↓gI_0, ↓gI_S, ↓gL_0, ↓gL_S, ↓gD_0, ↓gD_S, ↓gR_0, ↓gR_S, ↓sI_c, ↓sL_c, ↓sD_c, ↓sR_c, ↓s1_r, ↓s1_i, ↓vR_r, ↓vR_n, ↓s0_n, s0_n, ↓oR_u, ↓sP_u, ↓sPa_0, ↓sPa_S, ↓lkC_c, ↓callK_u, ↓cQ_s, ↓cQ_n, putL, putW, clr, kil, catS, catN, refF, booF, finF, nF, nmOf_0, nmOf_1, nmOf_2, nmOf_3, nmOf_4, nmOf_5, nmOf_6, nmOf_50, nmOf_51, nmOf_52, ↓reduceIte, reduceIte, Bool.false_eq_true, eq_self, true_or, or_true, true_and, and_true, false_or, or_false, Nat.reduceAdd, Nat.reduceSub, Nat.reduceEqDiff, Nat.reduceLT, Nat.reduceLeDiff, reduceCtorEq, true_implies, List.length_cons, List.length_nil, List.replicate, List.cons_append, List.nil_append, mrt_X5_fail, mhh_X5_fail, mow_X5_fail, mnl_X5_fail, DX5_fail_0, DX5_fail_1, DX5_fail_2, DX5_fail_5, DX5_fail_6]
  simp [hk, hq]
def ct_X5_bu (A : Nat → Nat) (S : SS) : Ct := fun As h Q _ => sR As fun m r => sI r fun b r => sI r fun k r => s0 r (MD h m A S ∧ (0 ≤ b.toInt ∧ b.toInt < S.nb) ∧ (0 ≤ k.toInt ∧ k.toInt < 7) ∧ Q (some (.int (i32 (S.bf (tn b) (tn k))))) h)
def ce_X5_bu (A : Nat → Nat) (S : SS) : CE := (0, yX5_bu, MX5_bu, 2, 0, 0, 0, ct_X5_bu A S)
set_option maxRecDepth 100000 in
set_option maxHeartbeats 4000000 in
theorem ok_X5_bu (G : GT) (A : Nat → Nat) (S : SS) (hW : WF S) : OKm G yX5_bu MX5_bu 0 0 0 (ct_X5_bu A S) := by
  refine mkOK (ini := false) (by decide) rfl (by first | exact fun _ => rfl | (intro hh; cases hh)) (fun As h Q QX hc => ?_)
  replace hc := sR_e hc; obtain ⟨m, r, rfl, hc⟩ := hc
  replace hc := sI_e hc; obtain ⟨b, r, rfl, hc⟩ := hc
  replace hc := sI_e hc; obtain ⟨k, r, rfl, hc⟩ := hc
  replace hc := s0_e hc; obtain ⟨rfl, hc⟩ := hc
  obtain ⟨hM, hb, hkk, hq⟩ := hc
  have hnb := hW.1
  obtain ⟨bv, hbv, rfl⟩ := i32_all b
  obtain ⟨kv, hkv, rfl⟩ := i32_all k
  rw [i32_toInt hbv] at hb
  rw [i32_toInt hkv] at hkk
  obtain ⟨bn, rfl⟩ := Int.eq_ofNat_of_zero_le hb.1
  obtain ⟨kn, rfl⟩ := Int.eq_ofNat_of_zero_le hkk.1
  simp only [tn_i hbv, tn_i hkv, Int.toNat_natCast] at hq
  have hM0 := hM
  obtain ⟨⟨hk, hA, hJ⟩, fd, fe, fb, fl, hB, hL, hN, hG, hP⟩ := hM0
  obtain ⟨a5, k5, l5⟩ := hA 5 (by omega) (by omega)
  obtain ⟨a6, k6, l6⟩ := hA 6 (by omega) (by omega)
  obtain ⟨a7, k7, l7⟩ := hA 7 (by omega) (by omega)
  obtain ⟨a8, k8, l8⟩ := hA 8 (by omega) (by omega)
  obtain ⟨a9, k9, l9⟩ := hA 9 (by omega) (by omega)
  obtain ⟨a10, k10, l10⟩ := hA 10 (by omega) (by omega)
  obtain ⟨a11, k11, l11⟩ := hA 11 (by omega) (by omega)
  simp only [mLen] at l5 l6 l7 l8 l9 l10 l11
  refine ⟨Nat.le_of_ble_eq_true rfl, ?_⟩
  simp only [ent, entL, catN, List.length_cons, List.length_nil, List.replicate, List.cons_append, List.nil_append, reduceIte, Nat.reduceEqDiff,  Nat.reduceAdd, Nat.reduceSub, mnl_X5_bu]
  refine wpW (cs := []) (stop := []) (n := 200) (env_nil0 (env_hh rfl)) ?_
  simp only [↓wpN_S, ↓step_u, ↓stC_s, stC_s, ↓stF_u, stF_u, ↓stepI, lenI, ↓kN_u, isS, ↓gI_0, ↓gI_S, ↓gL_0, ↓gL_S, ↓gD_0, ↓gD_S, ↓gR_0, ↓gR_S, ↓sI_c, ↓sL_c, ↓sD_c, ↓sR_c, ↓s1_r, ↓s1_i, ↓vR_r, ↓vR_n, ↓s0_n, s0_n, ↓oR_u, ↓sP_u, ↓sPa_0, ↓sPa_S, ↓lkC_c, ↓callK_u, ↓cQ_s, ↓cQ_n, putL, putW, clr, kil, catS, catN, refF, booF, finF, nF, nmOf_0, nmOf_1, nmOf_2, nmOf_3, nmOf_4, nmOf_5, nmOf_6, nmOf_50, nmOf_51, nmOf_52, ↓reduceIte, reduceIte, Bool.false_eq_true, eq_self, true_or, or_true, true_and, and_true, false_or, or_false, Nat.reduceAdd, Nat.reduceSub, Nat.reduceEqDiff, Nat.reduceLT, Nat.reduceLeDiff, reduceCtorEq, true_implies, List.length_cons, List.length_nil, List.replicate, List.cons_append, List.nil_append, mrt_X5_bu, mhh_X5_bu, mow_X5_bu, mnl_X5_bu, DX5_bu_0, DX5_bu_1, DX5_bu_4, DX5_bu_6, DX5_bu_7, DX5_bu_8, DX5_bu_9, DX5_bu_10, DX5_bu_11]
  simp (disch := omega) only [i32_lit, i32_neg, i32_add, i32_mul, i32_sub, i32_nI, i32_lt, i32_le, i32_eq, inR_i, i32_clamp, i32_div, i32_max, i32_min, ite_max, ite_min, b2i_0, b2i_1, b2i_01, i32_toInt, tn_i, Int.toNat_natCast, em_t, true_and, and_true, Int.reduceToNat, Int.reduceLE, Int.reduceLT, Int.reduceAdd, Int.reduceMul, Int.reduceSub, Int.reduceNeg, Int.reduceEq, true_implies, not_true_eq_false, false_implies, not_false_eq_true, hM, hk, fd, fe, fb, fl, a5, k5, l5, a6, k6, l6, a7, k7, l7, a8, k8, l8, a9, k9, l9, a10, k10, l10, a11, k11, l11, true_and, and_true, Option.some.injEq, exists_eq_left', nmOf_0, nmOf_1, nmOf_2, nmOf_3, nmOf_4, nmOf_5, nmOf_6, Nat.add_sub_cancel, Nat.reduceSub, Nat.reduceLT, Nat.reduceEqDiff, ne_eq, not_false_eq_true]
  refine ⟨by omega, ?_⟩
  rw [show (7 * (bn : Int) + kn).toNat = 7 * bn + kn by omega, hB bn kn (by omega) (by omega)]
  exact hq
def ct_X5_get (A : Nat → Nat) (S : SS) : Ct := fun As h Q _ => sR As fun m r => sI r fun b r => sI r fun k r => s0 r (MD h m A S ∧ (0 ≤ b.toInt ∧ b.toInt < S.nl) ∧ (0 ≤ k.toInt ∧ k.toInt < 9) ∧ Q (some (.int (i32 (S.lf (tn b) (tn k))))) h)
def ce_X5_get (A : Nat → Nat) (S : SS) : CE := (0, yX5_get, MX5_get, 2, 0, 0, 0, ct_X5_get A S)
set_option maxRecDepth 100000 in
set_option maxHeartbeats 4000000 in
theorem ok_X5_get (G : GT) (A : Nat → Nat) (S : SS) (hW : WF S) : OKm G yX5_get MX5_get 0 0 0 (ct_X5_get A S) := by
  refine mkOK (ini := false) (by decide) rfl (by first | exact fun _ => rfl | (intro hh; cases hh)) (fun As h Q QX hc => ?_)
  replace hc := sR_e hc; obtain ⟨m, r, rfl, hc⟩ := hc
  replace hc := sI_e hc; obtain ⟨b, r, rfl, hc⟩ := hc
  replace hc := sI_e hc; obtain ⟨k, r, rfl, hc⟩ := hc
  replace hc := s0_e hc; obtain ⟨rfl, hc⟩ := hc
  obtain ⟨hM, hb, hkk, hq⟩ := hc
  have hnl := hW.2.1
  obtain ⟨bv, hbv, rfl⟩ := i32_all b
  obtain ⟨kv, hkv, rfl⟩ := i32_all k
  rw [i32_toInt hbv] at hb
  rw [i32_toInt hkv] at hkk
  obtain ⟨bn, rfl⟩ := Int.eq_ofNat_of_zero_le hb.1
  obtain ⟨kn, rfl⟩ := Int.eq_ofNat_of_zero_le hkk.1
  simp only [tn_i hbv, tn_i hkv, Int.toNat_natCast] at hq
  have hM0 := hM
  obtain ⟨⟨hk, hA, hJ⟩, fd, fe, fb, fl, hB, hL, hN, hG, hP⟩ := hM0
  obtain ⟨a5, k5, l5⟩ := hA 5 (by omega) (by omega)
  obtain ⟨a6, k6, l6⟩ := hA 6 (by omega) (by omega)
  obtain ⟨a7, k7, l7⟩ := hA 7 (by omega) (by omega)
  obtain ⟨a8, k8, l8⟩ := hA 8 (by omega) (by omega)
  obtain ⟨a9, k9, l9⟩ := hA 9 (by omega) (by omega)
  obtain ⟨a10, k10, l10⟩ := hA 10 (by omega) (by omega)
  obtain ⟨a11, k11, l11⟩ := hA 11 (by omega) (by omega)
  simp only [mLen] at l5 l6 l7 l8 l9 l10 l11
  refine ⟨Nat.le_of_ble_eq_true rfl, ?_⟩
  simp only [ent, entL, catN, List.length_cons, List.length_nil, List.replicate, List.cons_append, List.nil_append, reduceIte, Nat.reduceEqDiff,  Nat.reduceAdd, Nat.reduceSub, mnl_X5_get]
  refine wpW (cs := []) (stop := []) (n := 200) (env_nil0 (env_hh rfl)) ?_
  simp only [↓wpN_S, ↓step_u, ↓stC_s, stC_s, ↓stF_u, stF_u, ↓stepI, lenI, ↓kN_u, isS, ↓gI_0, ↓gI_S, ↓gL_0, ↓gL_S, ↓gD_0, ↓gD_S, ↓gR_0, ↓gR_S, ↓sI_c, ↓sL_c, ↓sD_c, ↓sR_c, ↓s1_r, ↓s1_i, ↓vR_r, ↓vR_n, ↓s0_n, s0_n, ↓oR_u, ↓sP_u, ↓sPa_0, ↓sPa_S, ↓lkC_c, ↓callK_u, ↓cQ_s, ↓cQ_n, putL, putW, clr, kil, catS, catN, refF, booF, finF, nF, nmOf_0, nmOf_1, nmOf_2, nmOf_3, nmOf_4, nmOf_5, nmOf_6, nmOf_50, nmOf_51, nmOf_52, ↓reduceIte, reduceIte, Bool.false_eq_true, eq_self, true_or, or_true, true_and, and_true, false_or, or_false, Nat.reduceAdd, Nat.reduceSub, Nat.reduceEqDiff, Nat.reduceLT, Nat.reduceLeDiff, reduceCtorEq, true_implies, List.length_cons, List.length_nil, List.replicate, List.cons_append, List.nil_append, mrt_X5_get, mhh_X5_get, mow_X5_get, mnl_X5_get, DX5_get_0, DX5_get_1, DX5_get_4, DX5_get_6, DX5_get_7, DX5_get_8, DX5_get_9, DX5_get_10, DX5_get_11]
  simp (disch := omega) only [i32_lit, i32_neg, i32_add, i32_mul, i32_sub, i32_nI, i32_lt, i32_le, i32_eq, inR_i, i32_clamp, i32_div, i32_max, i32_min, ite_max, ite_min, b2i_0, b2i_1, b2i_01, i32_toInt, tn_i, Int.toNat_natCast, em_t, true_and, and_true, Int.reduceToNat, Int.reduceLE, Int.reduceLT, Int.reduceAdd, Int.reduceMul, Int.reduceSub, Int.reduceNeg, Int.reduceEq, true_implies, not_true_eq_false, false_implies, not_false_eq_true, hM, hk, fd, fe, fb, fl, a5, k5, l5, a6, k6, l6, a7, k7, l7, a8, k8, l8, a9, k9, l9, a10, k10, l10, a11, k11, l11, true_and, and_true, Option.some.injEq, exists_eq_left', nmOf_0, nmOf_1, nmOf_2, nmOf_3, nmOf_4, nmOf_5, nmOf_6, Nat.add_sub_cancel, Nat.reduceSub, Nat.reduceLT, Nat.reduceEqDiff, ne_eq, not_false_eq_true]
  refine ⟨by omega, ?_⟩
  rw [show (9 * (bn : Int) + kn).toNat = 9 * bn + kn by omega, hL bn kn (by omega) (by omega)]
  exact hq
def ct_X5_isBuilding (A : Nat → Nat) (S : SS) : Ct := fun As h Q _ => sR As fun m r => sI r fun b r => s0 r (MD h m A S ∧ Q (some (.int (b2i (0 ≤ b.toInt ∧ b.toInt < S.nb)))) h)
def ce_X5_isBuilding (A : Nat → Nat) (S : SS) : CE := (0, yX5_isBuilding, MX5_isBuilding, 1, 1, 0, 0, ct_X5_isBuilding A S)
set_option maxRecDepth 100000 in
set_option maxHeartbeats 4000000 in
theorem ok_X5_isBuilding (G : GT) (A : Nat → Nat) (S : SS) (hW : WF S) : OKm G yX5_isBuilding MX5_isBuilding 1 0 0 (ct_X5_isBuilding A S) := by
  refine mkOK (ini := false) (by decide) rfl (by first | exact fun _ => rfl | (intro hh; cases hh)) (fun As h Q QX hc => ?_)
  replace hc := sR_e hc; obtain ⟨m, r, rfl, hc⟩ := hc
  replace hc := sI_e hc; obtain ⟨b, r, rfl, hc⟩ := hc
  replace hc := s0_e hc; obtain ⟨rfl, hc⟩ := hc
  obtain ⟨hM, hq⟩ := hc
  have hnb := hW.1
  obtain ⟨bv, hbv, rfl⟩ := i32_all b
  rw [i32_toInt hbv] at hq
  have hM0 := hM
  obtain ⟨⟨hk, hA, hJ⟩, fd, fe, fb, fl, hB, hL, hN, hG, hP⟩ := hM0
  obtain ⟨a5, k5, l5⟩ := hA 5 (by omega) (by omega)
  obtain ⟨a6, k6, l6⟩ := hA 6 (by omega) (by omega)
  obtain ⟨a7, k7, l7⟩ := hA 7 (by omega) (by omega)
  obtain ⟨a8, k8, l8⟩ := hA 8 (by omega) (by omega)
  obtain ⟨a9, k9, l9⟩ := hA 9 (by omega) (by omega)
  obtain ⟨a10, k10, l10⟩ := hA 10 (by omega) (by omega)
  obtain ⟨a11, k11, l11⟩ := hA 11 (by omega) (by omega)
  simp only [mLen] at l5 l6 l7 l8 l9 l10 l11
  refine ⟨Nat.le_of_ble_eq_true rfl, ?_⟩
  simp only [ent, entL, catN, List.length_cons, List.length_nil, List.replicate, List.cons_append, List.nil_append, reduceIte, Nat.reduceEqDiff,  Nat.reduceAdd, Nat.reduceSub, mnl_X5_isBuilding]
  refine wpW (cs := [(39, ce_X5_isIn)]) (stop := []) (n := 200) (env_cons (ceS (by decide +kernel) ⟨by decide, by decide, by decide +kernel⟩ (by decide) (ok_X5_isIn G)) (env_nil0 (env_hh rfl))) ?_
  simp only [↓wpN_S, ↓step_u, ↓stC_s, stC_s, ↓stF_u, stF_u, ↓stepI, lenI, ↓kN_u, isS, ↓gI_0, ↓gI_S, ↓gL_0, ↓gL_S, ↓gD_0, ↓gD_S, ↓gR_0, ↓gR_S, ↓sI_c, ↓sL_c, ↓sD_c, ↓sR_c, ↓s1_r, ↓s1_i, ↓vR_r, ↓vR_n, ↓s0_n, s0_n, ↓oR_u, ↓sP_u, ↓sPa_0, ↓sPa_S, ↓lkC_c, ↓callK_u, ↓cQ_s, ↓cQ_n, putL, putW, clr, kil, catS, catN, refF, booF, finF, nF, nmOf_0, nmOf_1, nmOf_2, nmOf_3, nmOf_4, nmOf_5, nmOf_6, nmOf_50, nmOf_51, nmOf_52, ↓reduceIte, reduceIte, Bool.false_eq_true, eq_self, true_or, or_true, true_and, and_true, false_or, or_false, Nat.reduceAdd, Nat.reduceSub, Nat.reduceEqDiff, Nat.reduceLT, Nat.reduceLeDiff, reduceCtorEq, true_implies, List.length_cons, List.length_nil, List.replicate, List.cons_append, List.nil_append, mrt_X5_isBuilding, mhh_X5_isBuilding, mow_X5_isBuilding, mnl_X5_isBuilding, DX5_isBuilding_0, DX5_isBuilding_1, DX5_isBuilding_2, DX5_isBuilding_3, DX5_isBuilding_6, DX5_isBuilding_7, DX5_isBuilding_8, DX5_isBuilding_11, ce_X5_isIn, ↓ct_X5_isIn, ycl_X5_isIn, cX_nil mhh_X5_isBuilding]
  simp (disch := omega) only [i32_lit, i32_neg, i32_add, i32_mul, i32_sub, i32_nI, i32_lt, i32_le, i32_eq, inR_i, i32_clamp, i32_div, i32_max, i32_min, ite_max, ite_min, b2i_0, b2i_1, b2i_01, i32_toInt, tn_i, Int.toNat_natCast, em_t, true_and, and_true, Int.reduceToNat, Int.reduceLE, Int.reduceLT, Int.reduceAdd, Int.reduceMul, Int.reduceSub, Int.reduceNeg, Int.reduceEq, true_implies, not_true_eq_false, false_implies, not_false_eq_true, hM, hk, fd, fe, fb, fl, a5, k5, l5, a6, k6, l6, a7, k7, l7, a8, k8, l8, a9, k9, l9, a10, k10, l10, a11, k11, l11, true_and, and_true, Option.some.injEq, exists_eq_left', nmOf_0, nmOf_1, nmOf_2, nmOf_3, nmOf_4, nmOf_5, nmOf_6, Nat.add_sub_cancel, Nat.reduceSub, Nat.reduceLT, Nat.reduceEqDiff, ne_eq, not_false_eq_true]
  rw [b2i_c (c' := 0 ≤ bv ∧ bv < S.nb) (by constructor <;> (rintro ⟨h1, h2⟩; omega))]
  exact hq
def ct_X5_stands (A : Nat → Nat) (S : SS) : Ct := fun As h Q _ => sR As fun m r => sI r fun b r => s0 r (MD h m A S ∧ Q (some (.int (b2i ((0 ≤ b.toInt ∧ b.toInt < S.nb) ∧ S.bf (tn b) 6 = 1)))) h)
def ce_X5_stands (A : Nat → Nat) (S : SS) : CE := (0, yX5_stands, MX5_stands, 1, 2, 0, 0, ct_X5_stands A S)
set_option maxRecDepth 100000 in
set_option maxHeartbeats 4000000 in
theorem ok_X5_stands (G : GT) (A : Nat → Nat) (S : SS) (hW : WF S) : OKm G yX5_stands MX5_stands 2 0 0 (ct_X5_stands A S) := by
  refine mkOK (ini := false) (by decide) rfl (by first | exact fun _ => rfl | (intro hh; cases hh)) (fun As h Q QX hc => ?_)
  replace hc := sR_e hc; obtain ⟨m, r, rfl, hc⟩ := hc
  replace hc := sI_e hc; obtain ⟨b, r, rfl, hc⟩ := hc
  replace hc := s0_e hc; obtain ⟨rfl, hc⟩ := hc
  obtain ⟨hM, hq⟩ := hc
  have hnb := hW.1
  have hWB := hW.2.2.1 (tn b)
  have hM0 := hM
  obtain ⟨⟨hk, hA, hJ⟩, fd, fe, fb, fl, hB, hL, hN, hG, hP⟩ := hM0
  obtain ⟨a5, k5, l5⟩ := hA 5 (by omega) (by omega)
  obtain ⟨a6, k6, l6⟩ := hA 6 (by omega) (by omega)
  obtain ⟨a7, k7, l7⟩ := hA 7 (by omega) (by omega)
  obtain ⟨a8, k8, l8⟩ := hA 8 (by omega) (by omega)
  obtain ⟨a9, k9, l9⟩ := hA 9 (by omega) (by omega)
  obtain ⟨a10, k10, l10⟩ := hA 10 (by omega) (by omega)
  obtain ⟨a11, k11, l11⟩ := hA 11 (by omega) (by omega)
  simp only [mLen] at l5 l6 l7 l8 l9 l10 l11
  refine ⟨Nat.le_of_ble_eq_true rfl, ?_⟩
  simp only [ent, entL, catN, List.length_cons, List.length_nil, List.replicate, List.cons_append, List.nil_append, reduceIte, Nat.reduceEqDiff,  Nat.reduceAdd, Nat.reduceSub, mnl_X5_stands]
  refine wpW (cs := [(46, ce_X5_isBuilding A S), (50, ce_X5_bu A S)]) (stop := []) (n := 200) (env_cons (ceV (by decide +kernel) ⟨by decide, by decide, by decide +kernel⟩ (by decide) rfl (ok_X5_isBuilding G A S hW)) (env_cons (ceV (by decide +kernel) ⟨by decide, by decide, by decide +kernel⟩ (by decide) rfl (ok_X5_bu G A S hW)) (env_nil0 (env_hh rfl)))) ?_
  simp only [↓wpN_S, ↓step_u, ↓stC_s, stC_s, ↓stF_u, stF_u, ↓stepI, lenI, ↓kN_u, isS, ↓gI_0, ↓gI_S, ↓gL_0, ↓gL_S, ↓gD_0, ↓gD_S, ↓gR_0, ↓gR_S, ↓sI_c, ↓sL_c, ↓sD_c, ↓sR_c, ↓s1_r, ↓s1_i, ↓vR_r, ↓vR_n, ↓s0_n, s0_n, ↓oR_u, ↓sP_u, ↓sPa_0, ↓sPa_S, ↓lkC_c, ↓callK_u, ↓cQ_s, ↓cQ_n, putL, putW, clr, kil, catS, catN, refF, booF, finF, nF, nmOf_0, nmOf_1, nmOf_2, nmOf_3, nmOf_4, nmOf_5, nmOf_6, nmOf_50, nmOf_51, nmOf_52, ↓reduceIte, reduceIte, Bool.false_eq_true, eq_self, true_or, or_true, true_and, and_true, false_or, or_false, Nat.reduceAdd, Nat.reduceSub, Nat.reduceEqDiff, Nat.reduceLT, Nat.reduceLeDiff, reduceCtorEq, true_implies, List.length_cons, List.length_nil, List.replicate, List.cons_append, List.nil_append, mrt_X5_stands, mhh_X5_stands, mow_X5_stands, mnl_X5_stands, DX5_stands_0, DX5_stands_1, DX5_stands_2, DX5_stands_5, DX5_stands_8, DX5_stands_9, DX5_stands_10, DX5_stands_12, DX5_stands_15, DX5_stands_16, DX5_stands_19, DX5_stands_20, DX5_stands_23, DX5_stands_24, ce_X5_isBuilding, ↓ct_X5_isBuilding, ycl_X5_isBuilding, ce_X5_bu, ↓ct_X5_bu, ycl_X5_bu, cX_nil mhh_X5_stands]
  simp (disch := omega) only [i32_lit, i32_neg, i32_add, i32_mul, i32_sub, i32_nI, i32_lt, i32_le, i32_eq, inR_i, i32_clamp, i32_div, i32_max, i32_min, ite_max, ite_min, b2i_0, b2i_1, b2i_01, i32_toInt, tn_i, Int.toNat_natCast, em_t, true_and, and_true, Int.reduceToNat, Int.reduceLE, Int.reduceLT, Int.reduceAdd, Int.reduceMul, Int.reduceSub, Int.reduceNeg, Int.reduceEq, true_implies, not_true_eq_false, false_implies, not_false_eq_true, hM, hk, fd, fe, fb, fl, a5, k5, l5, a6, k6, l6, a7, k7, l7, a8, k8, l8, a9, k9, l9, a10, k10, l10, a11, k11, l11, true_and, and_true, Option.some.injEq, exists_eq_left', nmOf_0, nmOf_1, nmOf_2, nmOf_3, nmOf_4, nmOf_5, nmOf_6, Nat.add_sub_cancel, Nat.reduceSub, Nat.reduceLT, Nat.reduceEqDiff, ne_eq, not_false_eq_true]
  refine ⟨fun h1 => Qb0 hq (fun q => h1 q.1), fun h1 => ?_⟩
  have h1 := Classical.not_not.mp h1
  have h2 := hWB (by unfold tn; omega)
  refine ⟨h1, ?_⟩
  simp (disch := omega) only [i32_lit, i32_neg, i32_add, i32_mul, i32_sub, i32_nI, i32_lt, i32_le, i32_eq, inR_i, i32_clamp, i32_div, i32_max, i32_min, ite_max, ite_min, b2i_0, b2i_1, b2i_01, i32_toInt, tn_i, Int.toNat_natCast, em_t, true_and, and_true, Int.reduceToNat, Int.reduceLE, Int.reduceLT, Int.reduceAdd, Int.reduceMul, Int.reduceSub, Int.reduceNeg, Int.reduceEq, true_implies, not_true_eq_false, false_implies, not_false_eq_true]
  exact ⟨fun h3 => Qb0 hq (fun q => h3 q.2), fun h3 => Qb1 hq ⟨h1, h3⟩⟩
/-- far enough from the ends of the int -/
def mid (x : Int32) : Prop := -1000 ≤ x.toInt ∧ x.toInt ≤ 1000
def ct_X5_covers (A : Nat → Nat) (S : SS) : Ct := fun As h Q _ => sR As fun m r => sI r fun b r => sI r fun x r => sI r fun y r => s0 r (MD h m A S ∧ (0 ≤ b.toInt ∧ b.toInt < S.nb) ∧ Q (some (.int (b2i (cov S (tn b) x.toInt y.toInt = true)))) h)
def ce_X5_covers (A : Nat → Nat) (S : SS) : CE := (0, yX5_covers, MX5_covers, 3, 3, 0, 0, ct_X5_covers A S)
set_option maxRecDepth 100000 in
set_option maxHeartbeats 4000000 in
theorem ok_X5_covers (G : GT) (A : Nat → Nat) (S : SS) (hW : WF S) : OKm G yX5_covers MX5_covers 3 0 0 (ct_X5_covers A S) := by
  refine mkOK (ini := false) (by decide) rfl (by first | exact fun _ => rfl | (intro hh; cases hh)) (fun As h Q QX hc => ?_)
  replace hc := sR_e hc; obtain ⟨m, r, rfl, hc⟩ := hc
  replace hc := sI_e hc; obtain ⟨b, r, rfl, hc⟩ := hc
  replace hc := sI_e hc; obtain ⟨x, r, rfl, hc⟩ := hc
  replace hc := sI_e hc; obtain ⟨y, r, rfl, hc⟩ := hc
  replace hc := s0_e hc; obtain ⟨rfl, hc⟩ := hc
  obtain ⟨hM, hb, hq⟩ := hc
  have hnb := hW.1
  have hWB := hW.2.2.1 (tn b) (by unfold tn; omega)
  obtain ⟨xv, hxv, rfl⟩ := i32_all x
  obtain ⟨yv, hyv, rfl⟩ := i32_all y
  rw [i32_toInt hxv, i32_toInt hyv] at hq
  unfold cov at hq
  simp only [decide_eq_true_eq] at hq
  have hM0 := hM
  obtain ⟨⟨hk, hA, hJ⟩, fd, fe, fb, fl, hB, hL, hN, hG, hP⟩ := hM0
  obtain ⟨a5, k5, l5⟩ := hA 5 (by omega) (by omega)
  obtain ⟨a6, k6, l6⟩ := hA 6 (by omega) (by omega)
  obtain ⟨a7, k7, l7⟩ := hA 7 (by omega) (by omega)
  obtain ⟨a8, k8, l8⟩ := hA 8 (by omega) (by omega)
  obtain ⟨a9, k9, l9⟩ := hA 9 (by omega) (by omega)
  obtain ⟨a10, k10, l10⟩ := hA 10 (by omega) (by omega)
  obtain ⟨a11, k11, l11⟩ := hA 11 (by omega) (by omega)
  simp only [mLen] at l5 l6 l7 l8 l9 l10 l11
  refine ⟨Nat.le_of_ble_eq_true rfl, ?_⟩
  simp only [ent, entL, catN, List.length_cons, List.length_nil, List.replicate, List.cons_append, List.nil_append, reduceIte, Nat.reduceEqDiff,  Nat.reduceAdd, Nat.reduceSub, mnl_X5_covers]
  refine wpW (cs := [(54, ce_X5_stands A S), (50, ce_X5_bu A S), (39, ce_X5_isIn)]) (stop := []) (n := 200) (env_cons (ceV (by decide +kernel) ⟨by decide, by decide, by decide +kernel⟩ (by decide) rfl (ok_X5_stands G A S hW)) (env_cons (ceV (by decide +kernel) ⟨by decide, by decide, by decide +kernel⟩ (by decide) rfl (ok_X5_bu G A S hW)) (env_cons (ceS (by decide +kernel) ⟨by decide, by decide, by decide +kernel⟩ (by decide) (ok_X5_isIn G)) (env_nil0 (env_hh rfl))))) ?_
  simp only [↓wpN_S, ↓step_u, ↓stC_s, stC_s, ↓stF_u, stF_u, ↓stepI, lenI, ↓kN_u, isS, ↓gI_0, ↓gI_S, ↓gL_0, ↓gL_S, ↓gD_0, ↓gD_S, ↓gR_0, ↓gR_S, ↓sI_c, ↓sL_c, ↓sD_c, ↓sR_c, ↓s1_r, ↓s1_i, ↓vR_r, ↓vR_n, ↓s0_n, s0_n, ↓oR_u, ↓sP_u, ↓sPa_0, ↓sPa_S, ↓lkC_c, ↓callK_u, ↓cQ_s, ↓cQ_n, putL, putW, clr, kil, catS, catN, refF, booF, finF, nF, nmOf_0, nmOf_1, nmOf_2, nmOf_3, nmOf_4, nmOf_5, nmOf_6, nmOf_50, nmOf_51, nmOf_52, ↓reduceIte, reduceIte, Bool.false_eq_true, eq_self, true_or, or_true, true_and, and_true, false_or, or_false, Nat.reduceAdd, Nat.reduceSub, Nat.reduceEqDiff, Nat.reduceLT, Nat.reduceLeDiff, reduceCtorEq, true_implies, List.length_cons, List.length_nil, List.replicate, List.cons_append, List.nil_append, mrt_X5_covers, mhh_X5_covers, mow_X5_covers, mnl_X5_covers, DX5_covers_0, DX5_covers_1, DX5_covers_2, DX5_covers_5, DX5_covers_8, DX5_covers_9, DX5_covers_10, DX5_covers_11, DX5_covers_12, DX5_covers_15, DX5_covers_16, DX5_covers_17, DX5_covers_18, DX5_covers_21, DX5_covers_22, DX5_covers_23, DX5_covers_24, DX5_covers_27, DX5_covers_28, DX5_covers_29, DX5_covers_30, DX5_covers_33, DX5_covers_36, DX5_covers_37, DX5_covers_38, DX5_covers_39, DX5_covers_40, DX5_covers_43, DX5_covers_44, DX5_covers_45, DX5_covers_46, DX5_covers_49, DX5_covers_50, DX5_covers_51, DX5_covers_52, DX5_covers_55, DX5_covers_56, DX5_covers_57, DX5_covers_58, DX5_covers_61, DX5_covers_64, DX5_covers_65, DX5_covers_68, DX5_covers_69, ce_X5_stands, ↓ct_X5_stands, ycl_X5_stands, ce_X5_bu, ↓ct_X5_bu, ycl_X5_bu, ce_X5_isIn, ↓ct_X5_isIn, ycl_X5_isIn, cX_nil mhh_X5_covers]
  simp (disch := omega) only [i32_lit, i32_neg, i32_add, i32_mul, i32_sub, i32_nI, i32_lt, i32_le, i32_eq, inR_i, i32_clamp, i32_div, i32_max, i32_min, ite_max, ite_min, b2i_0, b2i_1, b2i_01, i32_toInt, tn_i, Int.toNat_natCast, em_t, true_and, and_true, Int.reduceToNat, Int.reduceLE, Int.reduceLT, Int.reduceAdd, Int.reduceMul, Int.reduceSub, Int.reduceNeg, Int.reduceEq, true_implies, not_true_eq_false, false_implies, not_false_eq_true, hM, hk, fd, fe, fb, fl, a5, k5, l5, a6, k6, l6, a7, k7, l7, a8, k8, l8, a9, k9, l9, a10, k10, l10, a11, k11, l11, true_and, and_true, Option.some.injEq, exists_eq_left', nmOf_0, nmOf_1, nmOf_2, nmOf_3, nmOf_4, nmOf_5, nmOf_6, Nat.add_sub_cancel, Nat.reduceSub, Nat.reduceLT, Nat.reduceEqDiff, ne_eq, not_false_eq_true, hb]
  refine ⟨fun h1 => Qb0 hq (fun q => h1 q.1), fun h1 => ⟨fun h2 => Qb0 hq (fun q => h2 ⟨q.2.1, q.2.2.1⟩), fun h2 => ⟨fun h3 => Qb0 hq (fun q => h3 ⟨q.2.2.2.1, q.2.2.2.2⟩), fun h3 => ?_⟩⟩⟩
  have h1 := Classical.not_not.mp h1
  have h2 := Classical.not_not.mp h2
  have h3 := Classical.not_not.mp h3
  exact Qb1 hq ⟨h1, h2.1, h2.2, h3.1, h3.2⟩
theorem anyN_f {p : Nat → Bool} : ∀ n, (∀ i, i < n → p i = false) → anyN p n = false
  | 0, _ => rfl
  | n + 1, h => by unfold anyN; rw [anyN_f n (fun i hi => h i (by omega)), h n (by omega)]; rfl
theorem anyN_t {p : Nat → Bool} {i : Nat} : ∀ n, i < n → p i = true → anyN p n = true
  | 0, h, _ => by omega
  | n + 1, h, hp => by
    unfold anyN
    rcases Nat.lt_or_ge i n with q | q
    · rw [anyN_t n q hp]; rfl
    · rw [show n = i by omega, hp, Bool.or_true]
def ct_X5_coveredBy (A : Nat → Nat) (S : SS) : Ct := fun As h Q _ => sR As fun m r => sI r fun x r => sI r fun y r => s0 r (MD h m A S ∧ ∀ v : Int, (v = -1 ∧ isCov S x.toInt y.toInt = false) ∨ (0 ≤ v ∧ v < S.nb ∧ isCov S x.toInt y.toInt = true) → Q (some (.int (i32 v))) h)
def ce_X5_coveredBy (A : Nat → Nat) (S : SS) : CE := (0, yX5_coveredBy, MX5_coveredBy, 2, 4, 0, 0, ct_X5_coveredBy A S)
set_option maxRecDepth 100000 in
set_option maxHeartbeats 4000000 in
theorem lp_X5_coveredBy (G : GT) {A : Nat → Nat} {S : SS} (hW : WF S) {h : Hp} {m : Nat} {xv yv : Int} {Q : Option Value → Hp → Prop} {QX : String → Hp → Prop} (hxv : inB xv) (hyv : inB yv) (hM : MD h m A S) (hq : ∀ v : Int, (v = -1 ∧ isCov S xv yv = false) ∨ (0 ≤ v ∧ v < S.nb ∧ isCov S xv yv = true) → Q (some (.int (i32 v))) h) :
    ∀ k b : Nat, b + k = S.nb → (∀ i, i < b → cov S i xv yv = false) → Wp G MX5_coveredBy false 4 Q QX 2 [some (.ref m), some (.int (i32 xv)), some (.int (i32 yv)), some (.int (i32 b))] [] h (0, 0) := by
  have hnb := hW.1
  have hM0 := hM
  obtain ⟨⟨hk, hA, hJ⟩, fd, fe, fb, fl, hB, hL, hN, hG, hP⟩ := hM0
  obtain ⟨a5, k5, l5⟩ := hA 5 (by omega) (by omega)
  obtain ⟨a6, k6, l6⟩ := hA 6 (by omega) (by omega)
  obtain ⟨a7, k7, l7⟩ := hA 7 (by omega) (by omega)
  obtain ⟨a8, k8, l8⟩ := hA 8 (by omega) (by omega)
  obtain ⟨a9, k9, l9⟩ := hA 9 (by omega) (by omega)
  obtain ⟨a10, k10, l10⟩ := hA 10 (by omega) (by omega)
  obtain ⟨a11, k11, l11⟩ := hA 11 (by omega) (by omega)
  simp only [mLen] at l5 l6 l7 l8 l9 l10 l11
  intro k
  induction k with
  | zero =>
    intro b hb hf
    refine wpW (cs := [(57, ce_X5_covers A S)]) (stop := [2]) (n := 200) (env_cons (ceV (by decide +kernel) ⟨by decide, by decide, by decide +kernel⟩ (by decide) rfl (ok_X5_covers G A S hW)) (env_nil0 (env_hh rfl))) ?_
    simp only [↓wpN_S, ↓step_u, ↓stC_s, stC_s, ↓stF_u, stF_u, ↓stepI, lenI, ↓kN_u, isS, ↓gI_0, ↓gI_S, ↓gL_0, ↓gL_S, ↓gD_0, ↓gD_S, ↓gR_0, ↓gR_S, ↓sI_c, ↓sL_c, ↓sD_c, ↓sR_c, ↓s1_r, ↓s1_i, ↓vR_r, ↓vR_n, ↓s0_n, s0_n, ↓oR_u, ↓sP_u, ↓sPa_0, ↓sPa_S, ↓lkC_c, ↓callK_u, ↓cQ_s, ↓cQ_n, putL, putW, clr, kil, catS, catN, refF, booF, finF, nF, nmOf_0, nmOf_1, nmOf_2, nmOf_3, nmOf_4, nmOf_5, nmOf_6, nmOf_50, nmOf_51, nmOf_52, ↓reduceIte, reduceIte, Bool.false_eq_true, eq_self, true_or, or_true, true_and, and_true, false_or, or_false, Nat.reduceAdd, Nat.reduceSub, Nat.reduceEqDiff, Nat.reduceLT, Nat.reduceLeDiff, reduceCtorEq, true_implies, List.length_cons, List.length_nil, List.replicate, List.cons_append, List.nil_append, mrt_X5_coveredBy, mhh_X5_coveredBy, mow_X5_coveredBy, mnl_X5_coveredBy, DX5_coveredBy_0, DX5_coveredBy_1, DX5_coveredBy_2, DX5_coveredBy_3, DX5_coveredBy_4, DX5_coveredBy_7, DX5_coveredBy_10, DX5_coveredBy_11, DX5_coveredBy_12, DX5_coveredBy_13, DX5_coveredBy_14, DX5_coveredBy_17, DX5_coveredBy_20, DX5_coveredBy_21, DX5_coveredBy_22, DX5_coveredBy_25, DX5_coveredBy_28, DX5_coveredBy_29, ce_X5_covers, ↓ct_X5_covers, ycl_X5_covers, cX_nil mhh_X5_coveredBy]
    simp (disch := omega) only [i32_lit, i32_neg, i32_add, i32_mul, i32_sub, i32_nI, i32_lt, i32_le, i32_eq, inR_i, i32_clamp, i32_div, i32_max, i32_min, ite_max, ite_min, b2i_0, b2i_1, b2i_01, i32_toInt, tn_i, Int.toNat_natCast, em_t, true_and, and_true, Int.reduceToNat, Int.reduceLE, Int.reduceLT, Int.reduceAdd, Int.reduceMul, Int.reduceSub, Int.reduceNeg, Int.reduceEq, true_implies, not_true_eq_false, false_implies, not_false_eq_true, hM, hk, fd, fe, fb, fl, a5, k5, l5, a6, k6, l6, a7, k7, l7, a8, k8, l8, a9, k9, l9, a10, k10, l10, a11, k11, l11, true_and, and_true, Option.some.injEq, exists_eq_left', nmOf_0, nmOf_1, nmOf_2, nmOf_3, nmOf_4, nmOf_5, nmOf_6, Nat.add_sub_cancel, Nat.reduceSub, Nat.reduceLT, Nat.reduceEqDiff, ne_eq, not_false_eq_true]
    refine ⟨fun _ => hq (-1) (Or.inl ⟨rfl, anyN_f _ (fun i hi => hf i (by omega))⟩), fun h1 => by omega⟩
  | succ k ih =>
    intro b hb hf
    refine wpW (cs := [(57, ce_X5_covers A S)]) (stop := [2]) (n := 200) (env_cons (ceV (by decide +kernel) ⟨by decide, by decide, by decide +kernel⟩ (by decide) rfl (ok_X5_covers G A S hW)) (env_nil0 (env_hh rfl))) ?_
    simp only [↓wpN_S, ↓step_u, ↓stC_s, stC_s, ↓stF_u, stF_u, ↓stepI, lenI, ↓kN_u, isS, ↓gI_0, ↓gI_S, ↓gL_0, ↓gL_S, ↓gD_0, ↓gD_S, ↓gR_0, ↓gR_S, ↓sI_c, ↓sL_c, ↓sD_c, ↓sR_c, ↓s1_r, ↓s1_i, ↓vR_r, ↓vR_n, ↓s0_n, s0_n, ↓oR_u, ↓sP_u, ↓sPa_0, ↓sPa_S, ↓lkC_c, ↓callK_u, ↓cQ_s, ↓cQ_n, putL, putW, clr, kil, catS, catN, refF, booF, finF, nF, nmOf_0, nmOf_1, nmOf_2, nmOf_3, nmOf_4, nmOf_5, nmOf_6, nmOf_50, nmOf_51, nmOf_52, ↓reduceIte, reduceIte, Bool.false_eq_true, eq_self, true_or, or_true, true_and, and_true, false_or, or_false, Nat.reduceAdd, Nat.reduceSub, Nat.reduceEqDiff, Nat.reduceLT, Nat.reduceLeDiff, reduceCtorEq, true_implies, List.length_cons, List.length_nil, List.replicate, List.cons_append, List.nil_append, mrt_X5_coveredBy, mhh_X5_coveredBy, mow_X5_coveredBy, mnl_X5_coveredBy, DX5_coveredBy_0, DX5_coveredBy_1, DX5_coveredBy_2, DX5_coveredBy_3, DX5_coveredBy_4, DX5_coveredBy_7, DX5_coveredBy_10, DX5_coveredBy_11, DX5_coveredBy_12, DX5_coveredBy_13, DX5_coveredBy_14, DX5_coveredBy_17, DX5_coveredBy_20, DX5_coveredBy_21, DX5_coveredBy_22, DX5_coveredBy_25, DX5_coveredBy_28, DX5_coveredBy_29, ce_X5_covers, ↓ct_X5_covers, ycl_X5_covers, cX_nil mhh_X5_coveredBy]
    simp (disch := omega) only [i32_lit, i32_neg, i32_add, i32_mul, i32_sub, i32_nI, i32_lt, i32_le, i32_eq, inR_i, i32_clamp, i32_div, i32_max, i32_min, ite_max, ite_min, b2i_0, b2i_1, b2i_01, i32_toInt, tn_i, Int.toNat_natCast, em_t, true_and, and_true, Int.reduceToNat, Int.reduceLE, Int.reduceLT, Int.reduceAdd, Int.reduceMul, Int.reduceSub, Int.reduceNeg, Int.reduceEq, true_implies, not_true_eq_false, false_implies, not_false_eq_true, hM, hk, fd, fe, fb, fl, a5, k5, l5, a6, k6, l6, a7, k7, l7, a8, k8, l8, a9, k9, l9, a10, k10, l10, a11, k11, l11, true_and, and_true, Option.some.injEq, exists_eq_left', nmOf_0, nmOf_1, nmOf_2, nmOf_3, nmOf_4, nmOf_5, nmOf_6, Nat.add_sub_cancel, Nat.reduceSub, Nat.reduceLT, Nat.reduceEqDiff, ne_eq, not_false_eq_true]
    refine ⟨fun h1 => by omega, fun h1 => ⟨by omega, fun h2 => ?_, fun h2 => ?_⟩⟩
    · have h3 : cov S b xv yv = false := by simpa using h2
      rw [show (b : Int) + 1 = ((b + 1 : Nat) : Int) by omega]
      exact ih (b + 1) (by omega) (fun i hi => by rcases Nat.lt_or_ge i b with q | q; exact hf i q; rw [show i = b by omega]; exact h3)
    · have h3 : cov S b xv yv = true := by simpa using h2
      exact hq b (Or.inr ⟨by omega, by omega, anyN_t _ (by omega) h3⟩)
set_option maxRecDepth 100000 in
set_option maxHeartbeats 4000000 in
theorem ok_X5_coveredBy (G : GT) (A : Nat → Nat) (S : SS) (hW : WF S) : OKm G yX5_coveredBy MX5_coveredBy 4 0 0 (ct_X5_coveredBy A S) := by
  refine mkOK (ini := false) (by decide) rfl (by first | exact fun _ => rfl | (intro hh; cases hh)) (fun As h Q QX hc => ?_)
  replace hc := sR_e hc; obtain ⟨m, r, rfl, hc⟩ := hc
  replace hc := sI_e hc; obtain ⟨x, r, rfl, hc⟩ := hc
  replace hc := sI_e hc; obtain ⟨y, r, rfl, hc⟩ := hc
  replace hc := s0_e hc; obtain ⟨rfl, hc⟩ := hc
  obtain ⟨hM, hq⟩ := hc
  obtain ⟨xv, hxv, rfl⟩ := i32_all x
  obtain ⟨yv, hyv, rfl⟩ := i32_all y
  rw [i32_toInt hxv, i32_toInt hyv] at hq
  refine ⟨Nat.le_of_ble_eq_true rfl, ?_⟩
  simp only [ent, entL, catN, List.length_cons, List.length_nil, List.replicate, List.cons_append, List.nil_append, reduceIte, Nat.reduceEqDiff,  Nat.reduceAdd, Nat.reduceSub, mnl_X5_coveredBy]
  refine wpW (cs := [(57, ce_X5_covers A S)]) (stop := [2]) (n := 200) (env_cons (ceV (by decide +kernel) ⟨by decide, by decide, by decide +kernel⟩ (by decide) rfl (ok_X5_covers G A S hW)) (env_nil0 (env_hh rfl))) ?_
  simp only [↓wpN_S, ↓step_u, ↓stC_s, stC_s, ↓stF_u, stF_u, ↓stepI, lenI, ↓kN_u, isS, ↓gI_0, ↓gI_S, ↓gL_0, ↓gL_S, ↓gD_0, ↓gD_S, ↓gR_0, ↓gR_S, ↓sI_c, ↓sL_c, ↓sD_c, ↓sR_c, ↓s1_r, ↓s1_i, ↓vR_r, ↓vR_n, ↓s0_n, s0_n, ↓oR_u, ↓sP_u, ↓sPa_0, ↓sPa_S, ↓lkC_c, ↓callK_u, ↓cQ_s, ↓cQ_n, putL, putW, clr, kil, catS, catN, refF, booF, finF, nF, nmOf_0, nmOf_1, nmOf_2, nmOf_3, nmOf_4, nmOf_5, nmOf_6, nmOf_50, nmOf_51, nmOf_52, ↓reduceIte, reduceIte, Bool.false_eq_true, eq_self, true_or, or_true, true_and, and_true, false_or, or_false, Nat.reduceAdd, Nat.reduceSub, Nat.reduceEqDiff, Nat.reduceLT, Nat.reduceLeDiff, reduceCtorEq, true_implies, List.length_cons, List.length_nil, List.replicate, List.cons_append, List.nil_append, mrt_X5_coveredBy, mhh_X5_coveredBy, mow_X5_coveredBy, mnl_X5_coveredBy, DX5_coveredBy_0, DX5_coveredBy_1, DX5_coveredBy_2, DX5_coveredBy_3, DX5_coveredBy_4, DX5_coveredBy_7, DX5_coveredBy_10, DX5_coveredBy_11, DX5_coveredBy_12, DX5_coveredBy_13, DX5_coveredBy_14, DX5_coveredBy_17, DX5_coveredBy_20, DX5_coveredBy_21, DX5_coveredBy_22, DX5_coveredBy_25, DX5_coveredBy_28, DX5_coveredBy_29, ce_X5_covers, ↓ct_X5_covers, ycl_X5_covers, cX_nil mhh_X5_coveredBy]
  exact lp_X5_coveredBy G hW hxv hyv hM hq S.nb 0 (by omega) (fun i hi => by omega)
