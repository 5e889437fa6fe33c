/-! ===== the reference: its world ===== -/
/-- the lengths of its rows, by their fields -/
def mLen : Nat → Nat
  | 5 => 84
  | 6 => 360
  | 7 => 36
  | 8 => 8
  | 9 => 16
  | _ => 3072
/-- the reference's object and its rows, at A 5 .. A 11 -/
def MA (h : Hp) (m : Nat) (A : Nat → Nat) : Prop := kd h m = 7 ∧ (∀ k, 5 ≤ k → k ≤ 11 → fr h 6 k m = some (A k) ∧ kd h (A k) = 21 ∧ ln h (A k) = mLen k) ∧ ∀ i j, 5 ≤ i → i ≤ 11 → 5 ≤ j → j ≤ 11 → A i = A j → i = j
/-- what they hold -/
def MD (h : Hp) (m : Nat) (A : Nat → Nat) (S : SS) : Prop := MA h m A ∧ fi h 6 1 m = i32 S.dy ∧ fi h 6 2 m = i32 S.ev ∧ fi h 6 3 m = i32 S.nb ∧ fi h 6 4 m = i32 S.nl ∧
  (∀ b k, b < S.nb → k < 7 → ia h (A 5) (7 * b + k) = i32 (S.bf b k)) ∧ (∀ l k, l < S.nl → k < 9 → ia h (A 6) (9 * l + k) = i32 (S.lf l k)) ∧ (∀ r k, r < 12 → k < 3 → ia h (A 7) (3 * r + k) = i32 (S.sn r k)) ∧
  (∀ o, o < 8 → ia h (A 8) o = i32 (S.gt o)) ∧ (∀ t, t < 16 → ia h (A 9) t = i32 (S.pd t))
/-- .. and its shades -/
def MC (h : Hp) (A : Nat → Nat) (S : SS) : Prop := ∀ r c, r < 12 → c < 256 → ia h (A 10) (256 * r + c) = i32 (bel S r c) ∧ ia h (A 11) (256 * r + c) = i32 (shd S r c)
/-! plain -/
def ct_X5_isIn : Ct := fun As h Q _ => sI As fun v r => sI r fun a r => sI r fun b r => s0 r (Q (some (.int (b2i (a ≤ v ∧ v ≤ b)))) h)
def ce_X5_isIn : CE := (1, yX5_isIn, MX5_isIn, 3, 0, 0, 0, ct_X5_isIn)
theorem ok_X5_isIn (G : GT) : OKm G yX5_isIn MX5_isIn 0 0 0 ct_X5_isIn := by
  refine mkOK (ini := false) (by decide) rfl (by first | exact fun _ => rfl | (intro hh; cases hh)) (fun As h Q QX hc => ?_)
  replace hc := sI_e hc; obtain ⟨v, r, rfl, hc⟩ := hc
  replace hc := sI_e hc; obtain ⟨a, r, rfl, hc⟩ := hc
  replace hc := sI_e hc; obtain ⟨b, r, rfl, hc⟩ := hc
  replace hc := s0_e hc; obtain ⟨rfl, hc⟩ := hc
  refine ⟨Nat.le_of_ble_eq_true rfl, ?_⟩
  simp only [ent, entL, catN, List.length_cons, List.length_nil, List.replicate, List.cons_append, List.nil_append, reduceIte, Nat.reduceEqDiff,  Nat.reduceAdd, Nat.reduceSub, mnl_X5_isIn]
  refine wpW (cs := []) (stop := []) (n := 60) (env_nil0 (env_hh rfl)) ?_
  simp only [↓wpN_S, ↓step_u, ↓stC_s, stC_s, ↓stF_u, stF_u, ↓stepI, lenI, ↓kN_u, isS, ↓gI_0, ↓gI_S, ↓gL_0, ↓gL_S, ↓gD_0, ↓gD_S, ↓gR_0, ↓gR_S, ↓sI_c, ↓sL_c, ↓sD_c, ↓sR_c, ↓s1_r, ↓s1_i, ↓vR_r, ↓vR_n, ↓s0_n, s0_n, ↓oR_u, ↓sP_u, ↓sPa_0, ↓sPa_S, ↓lkC_c, ↓callK_u, ↓cQ_s, ↓cQ_n, putL, putW, clr, kil, catS, catN, refF, booF, finF, nF, nmOf, ↓reduceIte, reduceIte, Bool.false_eq_true, eq_self, true_or, or_true, true_and, and_true, false_or, or_false, Nat.reduceAdd, Nat.reduceSub, Nat.reduceEqDiff, Nat.reduceLT, Nat.reduceLeDiff, reduceCtorEq, true_implies, List.length_cons, List.length_nil, List.replicate, List.cons_append, List.nil_append, mrt_X5_isIn, mhh_X5_isIn, mow_X5_isIn, mnl_X5_isIn, DX5_isIn_0, DX5_isIn_1, DX5_isIn_2, DX5_isIn_5, DX5_isIn_6, DX5_isIn_7, DX5_isIn_10, DX5_isIn_11, DX5_isIn_14, DX5_isIn_15]
  refine ⟨fun h1 => ?_, fun h1 => ⟨fun h2 => ?_, fun h2 => ?_⟩⟩
  · rw [b2i_f (fun q => absurd h1 (Int32.not_lt.mpr q.1))] at hc; exact hc
  · rw [b2i_f (fun q => absurd h2 (Int32.not_lt.mpr q.2))] at hc; exact hc
  · rw [b2i_t ⟨Int32.not_lt.mp h1, Int32.not_lt.mp h2⟩] at hc; exact hc
def ct_X5_isHour : Ct := fun As h Q _ => sI As fun v r => s0 r (Q (some (.int (b2i (i32 0 ≤ v ∧ v ≤ i32 11)))) h)
def ce_X5_isHour : CE := (1, yX5_isHour, MX5_isHour, 1, 1, 0, 0, ct_X5_isHour)
theorem ok_X5_isHour (G : GT) : OKm G yX5_isHour MX5_isHour 1 0 0 ct_X5_isHour := by
  refine mkOK (ini := false) (by decide) rfl (by first | exact fun _ => rfl | (intro hh; cases hh)) (fun As h Q QX hc => ?_)
  replace hc := sI_e hc; obtain ⟨v, r, rfl, hc⟩ := hc
  replace hc := s0_e hc; obtain ⟨rfl, hc⟩ := hc
  refine ⟨Nat.le_of_ble_eq_true rfl, ?_⟩
  simp only [ent, entL, catN, List.length_cons, List.length_nil, List.replicate, List.cons_append, List.nil_append, reduceIte, Nat.reduceEqDiff,  Nat.reduceAdd, Nat.reduceSub, mnl_X5_isHour]
  refine wpW (cs := [(39, ce_X5_isIn)]) (stop := []) (n := 60) (env_cons (ceS (by decide +kernel) ⟨by decide, by decide, by decide +kernel⟩ (by decide) (ok_X5_isIn G)) (env_nil0 (env_hh rfl))) ?_
  simp only [↓wpN_S, ↓step_u, ↓stC_s, stC_s, ↓stF_u, stF_u, ↓stepI, lenI, ↓kN_u, isS, ↓gI_0, ↓gI_S, ↓gL_0, ↓gL_S, ↓gD_0, ↓gD_S, ↓gR_0, ↓gR_S, ↓sI_c, ↓sL_c, ↓sD_c, ↓sR_c, ↓s1_r, ↓s1_i, ↓vR_r, ↓vR_n, ↓s0_n, s0_n, ↓oR_u, ↓sP_u, ↓sPa_0, ↓sPa_S, ↓lkC_c, ↓callK_u, ↓cQ_s, ↓cQ_n, putL, putW, clr, kil, catS, catN, refF, booF, finF, nF, nmOf, ↓reduceIte, reduceIte, Bool.false_eq_true, eq_self, true_or, or_true, true_and, and_true, false_or, or_false, Nat.reduceAdd, Nat.reduceSub, Nat.reduceEqDiff, Nat.reduceLT, Nat.reduceLeDiff, reduceCtorEq, true_implies, List.length_cons, List.length_nil, List.replicate, List.cons_append, List.nil_append, mrt_X5_isHour, mhh_X5_isHour, mow_X5_isHour, mnl_X5_isHour, DX5_isHour_0, DX5_isHour_1, DX5_isHour_2, DX5_isHour_4, DX5_isHour_7, ce_X5_isIn, ↓ct_X5_isIn, ycl_X5_isIn, cX_nil mhh_X5_isHour]
  exact ⟨Or.comm.mp (Or.comm.mp b2i_01), hc⟩
def ct_X5_thrown : Ct := fun As h Q _ => sR As fun m r => s0 r (kd h m = 7 ∧ Q (some (.int (fi h 6 0 m))) h)
def ce_X5_thrown : CE := (0, yX5_thrown, MX5_thrown, 0, 0, 0, 0, ct_X5_thrown)
theorem ok_X5_thrown (G : GT) : OKm G yX5_thrown MX5_thrown 0 0 0 ct_X5_thrown := by
  refine mkOK (ini := false) (by decide) rfl (by first | exact fun _ => rfl | (intro hh; cases hh)) (fun As h Q QX hc => ?_)
  replace hc := sR_e hc; obtain ⟨m, r, rfl, hc⟩ := hc
  replace hc := s0_e hc; obtain ⟨rfl, hc⟩ := hc
  obtain ⟨hk, hq⟩ := hc
  refine ⟨Nat.le_of_ble_eq_true rfl, ?_⟩
  simp only [ent, entL, catN, List.length_cons, List.length_nil, List.replicate, List.cons_append, List.nil_append, reduceIte, Nat.reduceEqDiff,  Nat.reduceAdd, Nat.reduceSub, mnl_X5_thrown]
  refine wpW (cs := []) (stop := []) (n := 60) (env_nil0 (env_hh rfl)) ?_
  simp only [↓wpN_S, ↓step_u, ↓stC_s, stC_s, ↓stF_u, stF_u, ↓stepI, lenI, ↓kN_u, isS, ↓gI_0, ↓gI_S, ↓gL_0, ↓gL_S, ↓gD_0, ↓gD_S, ↓gR_0, ↓gR_S, ↓sI_c, ↓sL_c, ↓sD_c, ↓sR_c, ↓s1_r, ↓s1_i, ↓vR_r, ↓vR_n, ↓s0_n, s0_n, ↓oR_u, ↓sP_u, ↓sPa_0, ↓sPa_S, ↓lkC_c, ↓callK_u, ↓cQ_s, ↓cQ_n, putL, putW, clr, kil, catS, catN, refF, booF, finF, nF, nmOf, ↓reduceIte, reduceIte, Bool.false_eq_true, eq_self, true_or, or_true, true_and, and_true, false_or, or_false, Nat.reduceAdd, Nat.reduceSub, Nat.reduceEqDiff, Nat.reduceLT, Nat.reduceLeDiff, reduceCtorEq, true_implies, List.length_cons, List.length_nil, List.replicate, List.cons_append, List.nil_append, mrt_X5_thrown, mhh_X5_thrown, mow_X5_thrown, mnl_X5_thrown, DX5_thrown_0, DX5_thrown_1, DX5_thrown_4]
  simp [hk, hq]
def ct_X5_fail : Ct := fun As h Q _ => sR As fun m r => sI r fun v r => s0 r (kd h m = 7 ∧ Q (some (.int 0)) (setI h 6 0 m v))
def ce_X5_fail : CE := (0, yX5_fail, MX5_fail, 1, 0, 0, 0, ct_X5_fail)
theorem ok_X5_fail (G : GT) : OKm G yX5_fail MX5_fail 0 0 0 ct_X5_fail := by
  refine mkOK (ini := false) (by decide) rfl (by first | exact fun _ => rfl | (intro hh; cases hh)) (fun As h Q QX hc => ?_)
  replace hc := sR_e hc; obtain ⟨m, r, rfl, hc⟩ := hc
  replace hc := sI_e hc; obtain ⟨v, r, rfl, hc⟩ := hc
  replace hc := s0_e hc; obtain ⟨rfl, hc⟩ := hc
  obtain ⟨hk, hq⟩ := hc
  refine ⟨Nat.le_of_ble_eq_true rfl, ?_⟩
  simp only [ent, entL, catN, List.length_cons, List.length_nil, List.replicate, List.cons_append, List.nil_append, reduceIte, Nat.reduceEqDiff,  Nat.reduceAdd, Nat.reduceSub, mnl_X5_fail]
  refine wpW (cs := []) (stop := []) (n := 60) (env_nil0 (env_hh rfl)) ?_
  simp only [↓wpN_S, ↓step_u, ↓stC_s, stC_s, ↓stF_u, stF_u, ↓stepI, lenI, ↓kN_u, isS, ↓gI_0, ↓gI_S, ↓gL_0, ↓gL_S, ↓gD_0, ↓gD_S, ↓gR_0, ↓gR_S, ↓sI_c, ↓sL_c, ↓sD_c, ↓sR_c, ↓s1_r, ↓s1_i, ↓vR_r, ↓vR_n, ↓s0_n, s0_n, ↓oR_u, ↓sP_u, ↓sPa_0, ↓sPa_S, ↓lkC_c, ↓callK_u, ↓cQ_s, ↓cQ_n, putL, putW, clr, kil, catS, catN, refF, booF, finF, nF, nmOf, ↓reduceIte, reduceIte, Bool.false_eq_true, eq_self, true_or, or_true, true_and, and_true, false_or, or_false, Nat.reduceAdd, Nat.reduceSub, Nat.reduceEqDiff, Nat.reduceLT, Nat.reduceLeDiff, reduceCtorEq, true_implies, List.length_cons, List.length_nil, List.replicate, List.cons_append, List.nil_append, mrt_X5_fail, mhh_X5_fail, mow_X5_fail, mnl_X5_fail, DX5_fail_0, DX5_fail_1, DX5_fail_2, DX5_fail_5, DX5_fail_6]
  simp [hk, hq]
def ct_X5_bu : Ct := fun As h Q _ => sR As fun m r => sI r fun b r => sI r fun k r => s0 r (∃ A S bn kn, MD h m A S ∧ WF S ∧ b = i32 (bn : Nat) ∧ k = i32 (kn : Nat) ∧ bn < S.nb ∧ kn < 7 ∧ Q (some (.int (i32 (S.bf bn kn)))) h)
def ce_X5_bu : CE := (0, yX5_bu, MX5_bu, 2, 0, 0, 0, ct_X5_bu)
theorem ok_X5_bu (G : GT) : OKm G yX5_bu MX5_bu 0 0 0 ct_X5_bu := by
  refine mkOK (ini := false) (by decide) rfl (by first | exact fun _ => rfl | (intro hh; cases hh)) (fun As h Q QX hc => ?_)
  replace hc := sR_e hc; obtain ⟨m, r, rfl, hc⟩ := hc
  replace hc := sI_e hc; obtain ⟨b, r, rfl, hc⟩ := hc
  replace hc := sI_e hc; obtain ⟨k, r, rfl, hc⟩ := hc
  replace hc := s0_e hc; obtain ⟨rfl, hc⟩ := hc
  obtain ⟨A, S, bn, kn, hM, hW, rfl, rfl, h1, h2, hq⟩ := hc
  have hnb := hW.1
  obtain ⟨⟨hk, hA, -⟩, -, -, -, -, hB, -⟩ := hM
  obtain ⟨e1, e2, e3⟩ := hA 5 (by omega) (by omega)
  refine ⟨Nat.le_of_ble_eq_true rfl, ?_⟩
  simp only [ent, entL, catN, List.length_cons, List.length_nil, List.replicate, List.cons_append, List.nil_append, reduceIte, Nat.reduceEqDiff,  Nat.reduceAdd, Nat.reduceSub, mnl_X5_bu]
  refine wpW (cs := []) (stop := []) (n := 60) (env_nil0 (env_hh rfl)) ?_
  simp only [↓wpN_S, ↓step_u, ↓stC_s, stC_s, ↓stF_u, stF_u, ↓stepI, lenI, ↓kN_u, isS, ↓gI_0, ↓gI_S, ↓gL_0, ↓gL_S, ↓gD_0, ↓gD_S, ↓gR_0, ↓gR_S, ↓sI_c, ↓sL_c, ↓sD_c, ↓sR_c, ↓s1_r, ↓s1_i, ↓vR_r, ↓vR_n, ↓s0_n, s0_n, ↓oR_u, ↓sP_u, ↓sPa_0, ↓sPa_S, ↓lkC_c, ↓callK_u, ↓cQ_s, ↓cQ_n, putL, putW, clr, kil, catS, catN, refF, booF, finF, nF, nmOf, ↓reduceIte, reduceIte, Bool.false_eq_true, eq_self, true_or, or_true, true_and, and_true, false_or, or_false, Nat.reduceAdd, Nat.reduceSub, Nat.reduceEqDiff, Nat.reduceLT, Nat.reduceLeDiff, reduceCtorEq, true_implies, List.length_cons, List.length_nil, List.replicate, List.cons_append, List.nil_append, mrt_X5_bu, mhh_X5_bu, mow_X5_bu, mnl_X5_bu, DX5_bu_0, DX5_bu_1, DX5_bu_4, DX5_bu_6, DX5_bu_7, DX5_bu_8, DX5_bu_9, DX5_bu_10, DX5_bu_11]
  simp only [hk, e1, e2, e3, true_and, mLen, Option.some.injEq, exists_eq_left']
  simp (disch := omega) only [i32_lit, i32_neg, i32_add, i32_mul, i32_sub, i32_nI, i32_lt, i32_le, i32_eq, inR_i, i32_clamp, b2i_0, b2i_1, b2i_01]
  refine ⟨by omega, ?_⟩
  rw [show (7 * (bn : Int) + kn).toNat = 7 * bn + kn by omega, hB bn kn h1 h2]
  exact hq
