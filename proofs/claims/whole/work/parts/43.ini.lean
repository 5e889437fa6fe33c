/-! ===== the reference: its constructor ===== -/
def sun0 (r : Nat) : Nat → Int
  | 0 => if r < 5 then -1 else if r < 7 then 0 else 1
  | 1 => if r = 5 ∨ r = 6 then -1 else 0
  | _ => if r < 5 then 5 - r else if r < 7 then 1 else r - 6
/-- the first n hours have their sun -/
def SI (n : Nat) : SS := (0, 0, fun _ _ => 0, fun _ _ => 0, fun r k => if r < n then sun0 r k else 0, fun _ => 0, fun _ => 0, 0, 0)
theorem WF_SI (n : Nat) : WF (SI n) := by
  refine ⟨by show 0 ≤ 12; omega, by show 0 ≤ 40; omega, fun b hb => absurd hb (Nat.not_lt_zero b), fun b hb => absurd hb (Nat.not_lt_zero b), fun r hr => ?_, by show (0 : Int) ≤ 0; omega, by show (0 : Int) ≤ 1000; omega, fun b1 b2 x y h => absurd h (Nat.not_lt_zero b1)⟩
  have e : ∀ k, (SI n).sn r k = if r < n then sun0 r k else 0 := fun k => rfl
  simp only [e]
  by_cases h : r < n
  · simp only [h, if_true, sun0]
    by_cases h1 : r < 5
    · simp only [h1, if_true, show ¬ (r = 5 ∨ r = 6) by omega, if_false]; omega
    · by_cases h2 : r < 7
      · simp only [h1, h2, if_true, show (r = 5 ∨ r = 6) by omega, if_false]; omega
      · simp only [h1, h2, show ¬ (r = 5 ∨ r = 6) by omega, if_false]; omega
  · simp only [h, if_false]; omega
theorem bel_SI (n r c : Nat) : bel (SI n) r c = -1 := rfl
theorem shd_SI (n r c : Nat) : shd (SI n) r c = 0 := rfl
theorem MD_SI {h : Hp} {m n : Nat} {A : Nat → Nat} (hM : MD h m A (SI n)) : MD (setIA (setIA (setIA h (A 7) (3 * n) (i32 (sun0 n 0))) (A 7) (3 * n + 1) (i32 (sun0 n 1))) (A 7) (3 * n + 2) (i32 (sun0 n 2))) m A (SI (n + 1)) := by
  obtain ⟨⟨hk', hA, hJ⟩, fd, fe, fb, fl, hB, hL, hN, hG, hP⟩ := hM
  have n6 : ∀ i, 5 ≤ i → i ≤ 11 → i ≠ 7 → A i ≠ A 7 := fun i h1 h2 h3 h4 => h3 (hJ i 7 h1 h2 (by omega) (by omega) h4)
  refine ⟨⟨hk', hA, hJ⟩, fd, fe, fb, fl, fun b q hb => absurd hb (Nat.not_lt_zero b), fun b q hb => absurd hb (Nat.not_lt_zero b), fun r q hr hq => ?_, fun o ho => ?_, fun t ht => ?_⟩
  · have e : ∀ j, (SI j).sn r q = if r < j then sun0 r q else 0 := fun k => rfl
    have hN' := hN r q hr hq
    rw [e] at hN' ⊢
    simp only [ia_setIA, true_and]
    by_cases z : r = n
    · subst z
      rw [if_pos (Nat.lt_succ_self r)]
      rcases (show q = 0 ∨ q = 1 ∨ q = 2 by omega) with rfl | rfl | rfl
      · rw [if_neg (by omega), if_neg (by omega), if_pos (by omega)]
      · rw [if_neg (by omega), if_pos (by omega)]
      · rw [if_pos (by omega)]
    · rw [if_neg (by omega), if_neg (by omega), if_neg (by omega), hN']
      by_cases y : r < n
      · rw [if_pos y, if_pos (show r < n + 1 by omega)]
      · rw [if_neg y, if_neg (show ¬ r < n + 1 by omega)]
  · have q := n6 8 (by omega) (by omega) (by omega)
    simp only [ia_setIA, q, false_and, if_false]
    exact hG o ho
  · have q := n6 9 (by omega) (by omega) (by omega)
    simp only [ia_setIA, q, false_and, if_false]
    exact hP t ht
/-- the rows 5 .. n - 1 are made -/
def MAk (h g : Hp) (m : Nat) (A : Nat → Nat) (n : Nat) : Prop := kd g m = 7 ∧ kd h m = 7 ∧ Fr h g (fun a => a = m) ∧ (∀ c k, fi g c k m = fi h c k m) ∧ (∀ k, 5 ≤ k → k < n → fr g 6 k m = some (A k) ∧ kd g (A k) = 21 ∧ ln g (A k) = mLen k ∧ kd h (A k) = 0 ∧ ∀ i, ia g (A k) i = 0) ∧ ∀ i j, 5 ≤ i → i < n → 5 ≤ j → j < n → A i = A j → i = j
theorem MAk.s {h g : Hp} {m n a : Nat} {A : Nat → Nat} (f : MAk h g m A n) (h0 : kd g a = 0) (hn : 5 ≤ n) : MAk h (setR (newA g a 21 (mLen n)) 6 n m (some a)) m (fun k => if k = n then a else A k) (n + 1) := by
  obtain ⟨f1, f0, f2, f3, f4, f5⟩ := f
  have em : m ≠ a := fun z => by rw [← z, f1] at h0; cases h0
  have ea : ∀ k, 5 ≤ k → k < n → A k ≠ a := fun k h1 h2 z => by have := (f4 k h1 h2).2.1; rw [z, h0] at this; cases this
  have hh : kd h a = 0 := by
    rcases Nat.eq_zero_or_pos (kd h a) with q | q
    · exact q
    · have := (f2 a (by omega)).1.1; omega
  refine ⟨?_, f0, (f2.tr (Fr.nA h0)).tr (Fr.sR rfl), f3, fun k h1 h2 => ?_, fun i j h1 h2 h3 h4 h5 => ?_⟩
  · rw [kd_setR, kd_newA, if_neg em]; exact f1
  · by_cases z : k = n
    · subst z
      simp [fr_setR, kd_setR, kd_newA, ln_setR, ln_newA, ia_setR, ia_newA, hh]
    · obtain ⟨g1, g2, g3, g4, g5⟩ := f4 k h1 (by omega)
      have e := ea k h1 (by omega)
      simp only [z, if_false, fr_setR, kd_setR, kd_newA, ln_setR, ln_newA, ia_setR, ia_newA, e, false_and, and_false, fr_newA]
      exact ⟨g1, g2, g3, g4, g5⟩
  · simp only at h5
    by_cases z1 : i = n <;> by_cases z2 : j = n
    · omega
    · rw [if_pos z1, if_neg z2] at h5; exact absurd h5.symm (ea j h3 (by omega))
    · rw [if_neg z1, if_pos z2] at h5; exact absurd h5 (ea i h1 (by omega))
    · rw [if_neg z1, if_neg z2] at h5; exact f5 i j h1 (by omega) h3 (by omega) h5
def ct_X5_init : Ct := fun As h Q _ => sR As fun m r => s0 r (kd h m = 7 ∧ (∀ k, k ≤ 4 → fi h 6 k m = i32 0) ∧ ∀ h' A, Fr h h' (fun a => a = m) → (∀ k, 5 ≤ k → k ≤ 11 → kd h (A k) = 0) → fi h' 6 0 m = i32 0 → MD h' m A (SI 12) → MC h' A (SI 12) → Q none h')
def ce_X5_init : CE := (2, yX5_init, MX5_init, 0, 6, 7, 6648, ct_X5_init)
set_option maxRecDepth 100000 in
set_option maxHeartbeats 4000000 in
theorem lp_X5_init160 (G : GT) {A : Nat → Nat} {S : SS} (hW : WF S) {h : Hp} {m n : Nat} {Q : Option Value → Hp → Prop} {QX : String → Hp → Prop} (hn : n < 12) (hM : MD h m A S)
    (hz : ∀ h', MFr h h' A → MCr h' A S n 256 → MO h h' A n → Wp G MX5_init true 6 Q QX 65 [some (.ref m), some (.int (i32 (n + 1)))] [] h' (0, 0)) :
    Wp G MX5_init true 6 Q QX 160 [some (.ref m), some (.int (i32 n))] [] h (0, 0) := by
  have hM0 := hM
  obtain ⟨⟨hk, hA, hJ⟩, fd, fe, fb, fl, hB, hL, hN, hG, hP⟩ := hM0
  obtain ⟨a5, k5, l5⟩ := hA 5 (by omega) (by omega)
  obtain ⟨a6, k6, l6⟩ := hA 6 (by omega) (by omega)
  obtain ⟨a7, k7, l7⟩ := hA 7 (by omega) (by omega)
  obtain ⟨a8, k8, l8⟩ := hA 8 (by omega) (by omega)
  obtain ⟨a9, k9, l9⟩ := hA 9 (by omega) (by omega)
  obtain ⟨a10, k10, l10⟩ := hA 10 (by omega) (by omega)
  obtain ⟨a11, k11, l11⟩ := hA 11 (by omega) (by omega)
  simp only [mLen] at l5 l6 l7 l8 l9 l10 l11
  refine wpW (cs := [(1, ce_obj), (31, ce_X5_cast A S)]) (stop := [65]) (n := 200) (env_cons (ce_objOK (by decide +kernel)) (env_cons (ceV (by decide +kernel) ⟨by decide, by decide, by decide +kernel⟩ (by decide) rfl (ok_X5_cast G A S hW)) (env_nil0 (env_hh rfl)))) ?_
  simp only [↓wpN_S, ↓step_u, ↓stC_s, stC_s, ↓stF_u, stF_u, ↓stepI, lenI, ↓kN_u, isS, ↓gI_0, ↓gI_S, ↓gL_0, ↓gL_S, ↓gD_0, ↓gD_S, ↓gR_0, ↓gR_S, ↓sI_c, ↓sL_c, ↓sD_c, ↓sR_c, ↓s1_r, ↓s1_i, ↓vR_r, ↓vR_n, ↓s0_n, s0_n, ↓oR_u, ↓sP_u, ↓sPa_0, ↓sPa_S, ↓lkC_c, ↓callK_u, ↓cQ_s, ↓cQ_n, putL, putW, clr, kil, catS, catN, refF, booF, finF, nF, nmOf_0, nmOf_1, nmOf_2, nmOf_3, nmOf_4, nmOf_5, nmOf_6, nmOf_50, nmOf_51, nmOf_52, ↓reduceIte, reduceIte, Bool.false_eq_true, eq_self, true_or, or_true, true_and, and_true, false_or, or_false, Nat.reduceAdd, Nat.reduceSub, Nat.reduceEqDiff, Nat.reduceLT, Nat.reduceLeDiff, reduceCtorEq, true_implies, List.length_cons, List.length_nil, List.replicate, List.cons_append, List.nil_append, mrt_X5_init, mhh_X5_init, mow_X5_init, mnl_X5_init, DX5_init_0, DX5_init_1, DX5_init_4, DX5_init_5, DX5_init_7, DX5_init_9, DX5_init_12, DX5_init_13, DX5_init_16, DX5_init_18, DX5_init_21, DX5_init_22, DX5_init_24, DX5_init_26, DX5_init_29, DX5_init_30, DX5_init_32, DX5_init_34, DX5_init_37, DX5_init_38, DX5_init_40, DX5_init_42, DX5_init_45, DX5_init_46, DX5_init_49, DX5_init_51, DX5_init_54, DX5_init_55, DX5_init_58, DX5_init_60, DX5_init_63, DX5_init_64, DX5_init_65, DX5_init_66, DX5_init_68, DX5_init_71, DX5_init_72, DX5_init_75, DX5_init_76, DX5_init_77, DX5_init_78, DX5_init_79, DX5_init_80, DX5_init_83, DX5_init_84, DX5_init_87, DX5_init_88, DX5_init_90, DX5_init_93, DX5_init_94, DX5_init_97, DX5_init_98, DX5_init_99, DX5_init_100, DX5_init_103, DX5_init_104, DX5_init_105, DX5_init_106, DX5_init_107, DX5_init_108, DX5_init_109, DX5_init_110, DX5_init_113, DX5_init_114, DX5_init_116, DX5_init_119, DX5_init_120, DX5_init_123, DX5_init_124, DX5_init_125, DX5_init_126, DX5_init_129, DX5_init_130, DX5_init_131, DX5_init_132, DX5_init_133, DX5_init_134, DX5_init_135, DX5_init_136, DX5_init_139, DX5_init_140, DX5_init_141, DX5_init_142, DX5_init_145, DX5_init_146, DX5_init_148, DX5_init_151, DX5_init_152, DX5_init_155, DX5_init_156, DX5_init_158, DX5_init_159, DX5_init_160, DX5_init_161, DX5_init_162, DX5_init_165, DX5_init_168, DX5_init_171, ce_obj, ce_X5_cast, ↓ct_X5_cast, ycl_X5_cast, cX_nil mhh_X5_init]
  simp (disch := omega) only [i32_lit, i32_neg, i32_add, i32_mul, i32_sub, i32_nI, i32_lt, i32_le, i32_eq, inR_i, i32_clamp, i32_div, i32_max, i32_min, ite_max, ite_min, b2i_0, b2i_1, b2i_01, i32_toInt, tn_i, Int.toNat_natCast, em_t, true_and, and_true, Int.reduceToNat, Int.reduceLE, Int.reduceLT, Int.reduceAdd, Int.reduceMul, Int.reduceSub, Int.reduceNeg, Int.reduceEq, true_implies, not_true_eq_false, false_implies, not_false_eq_true, hM, hk, fd, fe, fb, fl, a5, k5, l5, a6, k6, l6, a7, k7, l7, a8, k8, l8, a9, k9, l9, a10, k10, l10, a11, k11, l11, true_and, and_true, Option.some.injEq, exists_eq_left', nmOf_0, nmOf_1, nmOf_2, nmOf_3, nmOf_4, nmOf_5, nmOf_6, Nat.add_sub_cancel, Nat.reduceSub, Nat.reduceLT, Nat.reduceEqDiff, ne_eq, not_false_eq_true]
  exact ⟨by omega, hz⟩
set_option maxRecDepth 100000 in
set_option maxHeartbeats 4000000 in
theorem lp_X5_init65 (G : GT) {A : Nat → Nat} {h0 : Hp} {m : Nat} {Q : Option Value → Hp → Prop} {QX : String → Hp → Prop} (hq : ∀ h', Fr h0 h' (fun a => a = m ∨ ∃ k, (5 ≤ k ∧ k ≤ 11) ∧ a = A k) → fi h' 6 0 m = i32 0 → MD h' m A (SI 12) → MC h' A (SI 12) → Q none h') :
    ∀ k n : Nat, n + k = 12 → ∀ h, Fr h0 h (WM m A) → fi h 6 0 m = i32 0 → MD h m A (SI n) → (∀ j, j < n → MCr h A (SI n) j 256) → Wp G MX5_init true 6 Q QX 65 [some (.ref m), some (.int (i32 n))] [] h (0, 0) := by
  intro k
  induction k with
  | zero =>
    intro n hn h f1 f2 hM hC
    have e : n = 12 := by omega
    subst e
    obtain ⟨S, hSe⟩ : ∃ S : SS, S = SI 12 := ⟨_, rfl⟩
    have hW : WF S := hSe ▸ WF_SI 12
    refine wpW (cs := [(1, ce_obj), (31, ce_X5_cast A S)]) (stop := [65]) (n := 200) (env_cons (ce_objOK (by decide +kernel)) (env_cons (ceV (by decide +kernel) ⟨by decide, by decide, by decide +kernel⟩ (by decide) rfl (ok_X5_cast G A S hW)) (env_nil0 (env_hh rfl)))) ?_
    simp only [↓wpN_S, ↓step_u, ↓stC_s, stC_s, ↓stF_u, stF_u, ↓stepI, lenI, ↓kN_u, isS, ↓gI_0, ↓gI_S, ↓gL_0, ↓gL_S, ↓gD_0, ↓gD_S, ↓gR_0, ↓gR_S, ↓sI_c, ↓sL_c, ↓sD_c, ↓sR_c, ↓s1_r, ↓s1_i, ↓vR_r, ↓vR_n, ↓s0_n, s0_n, ↓oR_u, ↓sP_u, ↓sPa_0, ↓sPa_S, ↓lkC_c, ↓callK_u, ↓cQ_s, ↓cQ_n, putL, putW, clr, kil, catS, catN, refF, booF, finF, nF, nmOf_0, nmOf_1, nmOf_2, nmOf_3, nmOf_4, nmOf_5, nmOf_6, nmOf_50, nmOf_51, nmOf_52, ↓reduceIte, reduceIte, Bool.false_eq_true, eq_self, true_or, or_true, true_and, and_true, false_or, or_false, Nat.reduceAdd, Nat.reduceSub, Nat.reduceEqDiff, Nat.reduceLT, Nat.reduceLeDiff, reduceCtorEq, true_implies, List.length_cons, List.length_nil, List.replicate, List.cons_append, List.nil_append, mrt_X5_init, mhh_X5_init, mow_X5_init, mnl_X5_init, DX5_init_0, DX5_init_1, DX5_init_4, DX5_init_5, DX5_init_7, DX5_init_9, DX5_init_12, DX5_init_13, DX5_init_16, DX5_init_18, DX5_init_21, DX5_init_22, DX5_init_24, DX5_init_26, DX5_init_29, DX5_init_30, DX5_init_32, DX5_init_34, DX5_init_37, DX5_init_38, DX5_init_40, DX5_init_42, DX5_init_45, DX5_init_46, DX5_init_49, DX5_init_51, DX5_init_54, DX5_init_55, DX5_init_58, DX5_init_60, DX5_init_63, DX5_init_64, DX5_init_65, DX5_init_66, DX5_init_68, DX5_init_71, DX5_init_72, DX5_init_75, DX5_init_76, DX5_init_77, DX5_init_78, DX5_init_79, DX5_init_80, DX5_init_83, DX5_init_84, DX5_init_87, DX5_init_88, DX5_init_90, DX5_init_93, DX5_init_94, DX5_init_97, DX5_init_98, DX5_init_99, DX5_init_100, DX5_init_103, DX5_init_104, DX5_init_105, DX5_init_106, DX5_init_107, DX5_init_108, DX5_init_109, DX5_init_110, DX5_init_113, DX5_init_114, DX5_init_116, DX5_init_119, DX5_init_120, DX5_init_123, DX5_init_124, DX5_init_125, DX5_init_126, DX5_init_129, DX5_init_130, DX5_init_131, DX5_init_132, DX5_init_133, DX5_init_134, DX5_init_135, DX5_init_136, DX5_init_139, DX5_init_140, DX5_init_141, DX5_init_142, DX5_init_145, DX5_init_146, DX5_init_148, DX5_init_151, DX5_init_152, DX5_init_155, DX5_init_156, DX5_init_158, DX5_init_159, DX5_init_160, DX5_init_161, DX5_init_162, DX5_init_165, DX5_init_168, DX5_init_171, ce_obj, ce_X5_cast, ↓ct_X5_cast, ycl_X5_cast, cX_nil mhh_X5_init]
    simp (disch := omega) only [i32_lit, i32_neg, i32_add, i32_mul, i32_sub, i32_nI, i32_lt, i32_le, i32_eq, inR_i, i32_clamp, i32_div, i32_max, i32_min, ite_max, ite_min, b2i_0, b2i_1, b2i_01, i32_toInt, tn_i, Int.toNat_natCast, em_t, true_and, and_true, Int.reduceToNat, Int.reduceLE, Int.reduceLT, Int.reduceAdd, Int.reduceMul, Int.reduceSub, Int.reduceNeg, Int.reduceEq, true_implies, not_true_eq_false, false_implies, not_false_eq_true]
    exact ⟨fun _ => hq h f1 f2 hM (fun r c hr hc => hC r hr c hc), fun h2 => by omega⟩
  | succ k ih =>
    intro n hn h f1 f2 hM hC
    obtain ⟨S, hSe⟩ : ∃ S : SS, S = SI n := ⟨_, rfl⟩
    have hW : WF S := hSe ▸ WF_SI n
    have h160 : Wp G MX5_init true 6 Q QX 159 [some (.ref m), some (.int (i32 n))] [.int (i32 (sun0 n 2)), .int (i32 (3 * n + 2)), .ref (A 7)] (setIA (setIA h (A 7) (3 * n) (i32 (sun0 n 0))) (A 7) (3 * n + 1) (i32 (sun0 n 1))) (0, 0) := by
      have m1 := MD_SI hM
      have hr := lp_X5_init160 (Q := Q) (QX := QX) G (WF_SI (n + 1)) (show n < 12 by omega) m1 (fun h' g1 g2 g3 => by
        rw [show (n : Int) + 1 = ((n + 1 : Nat) : Int) by omega]
        refine ih (n + 1) (by omega) h' (((f1.tr (Fr.sA (WM.r (by omega)))).tr (Fr.sA (WM.r (by omega)))).tr (Fr.sA (WM.r (by omega))) |>.tr g1.fr) ((g1.2.1 _ _ _).trans f2) (g1.md m1) (fun j hj i hi => ?_)
        rcases Nat.lt_or_ge j n with q | q
        · have e := g3 (256 * j + i) (Or.inl (by omega))
          rw [e.1, e.2]
          obtain ⟨⟨-, -, hJ⟩, -⟩ := hM
          have n10 : A 10 ≠ A 7 := fun z => by have := hJ 10 7 (by omega) (by omega) (by omega) (by omega) z; omega
          have n11 : A 11 ≠ A 7 := fun z => by have := hJ 11 7 (by omega) (by omega) (by omega) (by omega) z; omega
          simp only [ia_setIA, n10, n11, false_and, if_false]
          exact hC j q i hi
        · have e : j = n := by omega
          subst e
          exact g2 i hi)
      have hM0 := hM
      obtain ⟨⟨hk, hA, hJ⟩, fd, fe, fb, fl, hB, hL, hN, hG, hP⟩ := hM0
      obtain ⟨a5, k5, l5⟩ := hA 5 (by omega) (by omega)
      obtain ⟨a6, k6, l6⟩ := hA 6 (by omega) (by omega)
      obtain ⟨a7, k7, l7⟩ := hA 7 (by omega) (by omega)
      obtain ⟨a8, k8, l8⟩ := hA 8 (by omega) (by omega)
      obtain ⟨a9, k9, l9⟩ := hA 9 (by omega) (by omega)
      obtain ⟨a10, k10, l10⟩ := hA 10 (by omega) (by omega)
      obtain ⟨a11, k11, l11⟩ := hA 11 (by omega) (by omega)
      simp only [mLen] at l5 l6 l7 l8 l9 l10 l11
      refine wpW (cs := [(1, ce_obj), (31, ce_X5_cast A S)]) (stop := [160]) (n := 200) (env_cons (ce_objOK (by decide +kernel)) (env_cons (ceV (by decide +kernel) ⟨by decide, by decide, by decide +kernel⟩ (by decide) rfl (ok_X5_cast G A S hW)) (env_nil0 (env_hh rfl)))) ?_
      simp only [↓wpN_S, ↓step_u, ↓stC_s, stC_s, ↓stF_u, stF_u, ↓stepI, lenI, ↓kN_u, isS, ↓gI_0, ↓gI_S, ↓gL_0, ↓gL_S, ↓gD_0, ↓gD_S, ↓gR_0, ↓gR_S, ↓sI_c, ↓sL_c, ↓sD_c, ↓sR_c, ↓s1_r, ↓s1_i, ↓vR_r, ↓vR_n, ↓s0_n, s0_n, ↓oR_u, ↓sP_u, ↓sPa_0, ↓sPa_S, ↓lkC_c, ↓callK_u, ↓cQ_s, ↓cQ_n, putL, putW, clr, kil, catS, catN, refF, booF, finF, nF, nmOf_0, nmOf_1, nmOf_2, nmOf_3, nmOf_4, nmOf_5, nmOf_6, nmOf_50, nmOf_51, nmOf_52, ↓reduceIte, reduceIte, Bool.false_eq_true, eq_self, true_or, or_true, true_and, and_true, false_or, or_false, Nat.reduceAdd, Nat.reduceSub, Nat.reduceEqDiff, Nat.reduceLT, Nat.reduceLeDiff, reduceCtorEq, true_implies, List.length_cons, List.length_nil, List.replicate, List.cons_append, List.nil_append, mrt_X5_init, mhh_X5_init, mow_X5_init, mnl_X5_init, DX5_init_0, DX5_init_1, DX5_init_4, DX5_init_5, DX5_init_7, DX5_init_9, DX5_init_12, DX5_init_13, DX5_init_16, DX5_init_18, DX5_init_21, DX5_init_22, DX5_init_24, DX5_init_26, DX5_init_29, DX5_init_30, DX5_init_32, DX5_init_34, DX5_init_37, DX5_init_38, DX5_init_40, DX5_init_42, DX5_init_45, DX5_init_46, DX5_init_49, DX5_init_51, DX5_init_54, DX5_init_55, DX5_init_58, DX5_init_60, DX5_init_63, DX5_init_64, DX5_init_65, DX5_init_66, DX5_init_68, DX5_init_71, DX5_init_72, DX5_init_75, DX5_init_76, DX5_init_77, DX5_init_78, DX5_init_79, DX5_init_80, DX5_init_83, DX5_init_84, DX5_init_87, DX5_init_88, DX5_init_90, DX5_init_93, DX5_init_94, DX5_init_97, DX5_init_98, DX5_init_99, DX5_init_100, DX5_init_103, DX5_init_104, DX5_init_105, DX5_init_106, DX5_init_107, DX5_init_108, DX5_init_109, DX5_init_110, DX5_init_113, DX5_init_114, DX5_init_116, DX5_init_119, DX5_init_120, DX5_init_123, DX5_init_124, DX5_init_125, DX5_init_126, DX5_init_129, DX5_init_130, DX5_init_131, DX5_init_132, DX5_init_133, DX5_init_134, DX5_init_135, DX5_init_136, DX5_init_139, DX5_init_140, DX5_init_141, DX5_init_142, DX5_init_145, DX5_init_146, DX5_init_148, DX5_init_151, DX5_init_152, DX5_init_155, DX5_init_156, DX5_init_158, DX5_init_159, DX5_init_160, DX5_init_161, DX5_init_162, DX5_init_165, DX5_init_168, DX5_init_171, ce_obj, ce_X5_cast, ↓ct_X5_cast, ycl_X5_cast, cX_nil mhh_X5_init]
      simp (disch := omega) only [i32_lit, i32_neg, i32_add, i32_mul, i32_sub, i32_nI, i32_lt, i32_le, i32_eq, inR_i, i32_clamp, i32_div, i32_max, i32_min, ite_max, ite_min, b2i_0, b2i_1, b2i_01, i32_toInt, tn_i, Int.toNat_natCast, em_t, true_and, and_true, Int.reduceToNat, Int.reduceLE, Int.reduceLT, Int.reduceAdd, Int.reduceMul, Int.reduceSub, Int.reduceNeg, Int.reduceEq, true_implies, not_true_eq_false, false_implies, not_false_eq_true, hM, hk, fd, fe, fb, fl, a5, k5, l5, a6, k6, l6, a7, k7, l7, a8, k8, l8, a9, k9, l9, a10, k10, l10, a11, k11, l11, true_and, and_true, Option.some.injEq, exists_eq_left', nmOf_0, nmOf_1, nmOf_2, nmOf_3, nmOf_4, nmOf_5, nmOf_6, Nat.add_sub_cancel, Nat.reduceSub, Nat.reduceLT, Nat.reduceEqDiff, ne_eq, not_false_eq_true, kd_setI, fi_setI, fr_setI, ln_setI, ia_setI, ja_setI, ra_setI, kd_setR, fi_setR, fr_setR, ln_setR, ia_setR, ja_setR, ra_setR, kd_setIA, fi_setIA, fr_setIA, ln_setIA, ia_setIA, ja_setIA, ra_setIA, kd_setLA, fi_setLA, fr_setLA, ln_setLA, ia_setLA, ja_setLA, ra_setLA, kd_setRA, fi_setRA, fr_setRA, ln_setRA, ia_setRA, ja_setRA, ra_setRA, kd_cpRA, fi_cpRA, fr_cpRA, ln_cpRA, ia_cpRA, ja_cpRA, ra_cpRA, kd_cpIA, fi_cpIA, fr_cpIA, ln_cpIA, ia_cpIA, ja_cpIA, ra_cpIA, kd_newO, fi_newO, fr_newO, ln_newO, ia_newO, ja_newO, ra_newO, kd_newA, fi_newA, fr_newA, ln_newA, ia_newA, ja_newA, ra_newA]
      refine ⟨by omega, ?_⟩
      rw [show (3 * (n : Int) + 2).toNat = 3 * n + 2 by omega]
      exact hr
    have h124 : Wp G MX5_init true 6 Q QX 124 [some (.ref m), some (.int (i32 n))] [.int (i32 (sun0 n 1)), .int (i32 (3 * n + 1)), .ref (A 7)] (setIA h (A 7) (3 * n) (i32 (sun0 n 0))) (0, 0) := by
      have hM0 := hM
      obtain ⟨⟨hk, hA, hJ⟩, fd, fe, fb, fl, hB, hL, hN, hG, hP⟩ := hM0
      obtain ⟨a5, k5, l5⟩ := hA 5 (by omega) (by omega)
      obtain ⟨a6, k6, l6⟩ := hA 6 (by omega) (by omega)
      obtain ⟨a7, k7, l7⟩ := hA 7 (by omega) (by omega)
      obtain ⟨a8, k8, l8⟩ := hA 8 (by omega) (by omega)
      obtain ⟨a9, k9, l9⟩ := hA 9 (by omega) (by omega)
      obtain ⟨a10, k10, l10⟩ := hA 10 (by omega) (by omega)
      obtain ⟨a11, k11, l11⟩ := hA 11 (by omega) (by omega)
      simp only [mLen] at l5 l6 l7 l8 l9 l10 l11
      refine wpW (cs := [(1, ce_obj), (31, ce_X5_cast A S)]) (stop := [159]) (n := 200) (env_cons (ce_objOK (by decide +kernel)) (env_cons (ceV (by decide +kernel) ⟨by decide, by decide, by decide +kernel⟩ (by decide) rfl (ok_X5_cast G A S hW)) (env_nil0 (env_hh rfl)))) ?_
      simp only [↓wpN_S, ↓step_u, ↓stC_s, stC_s, ↓stF_u, stF_u, ↓stepI, lenI, ↓kN_u, isS, ↓gI_0, ↓gI_S, ↓gL_0, ↓gL_S, ↓gD_0, ↓gD_S, ↓gR_0, ↓gR_S, ↓sI_c, ↓sL_c, ↓sD_c, ↓sR_c, ↓s1_r, ↓s1_i, ↓vR_r, ↓vR_n, ↓s0_n, s0_n, ↓oR_u, ↓sP_u, ↓sPa_0, ↓sPa_S, ↓lkC_c, ↓callK_u, ↓cQ_s, ↓cQ_n, putL, putW, clr, kil, catS, catN, refF, booF, finF, nF, nmOf_0, nmOf_1, nmOf_2, nmOf_3, nmOf_4, nmOf_5, nmOf_6, nmOf_50, nmOf_51, nmOf_52, ↓reduceIte, reduceIte, Bool.false_eq_true, eq_self, true_or, or_true, true_and, and_true, false_or, or_false, Nat.reduceAdd, Nat.reduceSub, Nat.reduceEqDiff, Nat.reduceLT, Nat.reduceLeDiff, reduceCtorEq, true_implies, List.length_cons, List.length_nil, List.replicate, List.cons_append, List.nil_append, mrt_X5_init, mhh_X5_init, mow_X5_init, mnl_X5_init, DX5_init_0, DX5_init_1, DX5_init_4, DX5_init_5, DX5_init_7, DX5_init_9, DX5_init_12, DX5_init_13, DX5_init_16, DX5_init_18, DX5_init_21, DX5_init_22, DX5_init_24, DX5_init_26, DX5_init_29, DX5_init_30, DX5_init_32, DX5_init_34, DX5_init_37, DX5_init_38, DX5_init_40, DX5_init_42, DX5_init_45, DX5_init_46, DX5_init_49, DX5_init_51, DX5_init_54, DX5_init_55, DX5_init_58, DX5_init_60, DX5_init_63, DX5_init_64, DX5_init_65, DX5_init_66, DX5_init_68, DX5_init_71, DX5_init_72, DX5_init_75, DX5_init_76, DX5_init_77, DX5_init_78, DX5_init_79, DX5_init_80, DX5_init_83, DX5_init_84, DX5_init_87, DX5_init_88, DX5_init_90, DX5_init_93, DX5_init_94, DX5_init_97, DX5_init_98, DX5_init_99, DX5_init_100, DX5_init_103, DX5_init_104, DX5_init_105, DX5_init_106, DX5_init_107, DX5_init_108, DX5_init_109, DX5_init_110, DX5_init_113, DX5_init_114, DX5_init_116, DX5_init_119, DX5_init_120, DX5_init_123, DX5_init_124, DX5_init_125, DX5_init_126, DX5_init_129, DX5_init_130, DX5_init_131, DX5_init_132, DX5_init_133, DX5_init_134, DX5_init_135, DX5_init_136, DX5_init_139, DX5_init_140, DX5_init_141, DX5_init_142, DX5_init_145, DX5_init_146, DX5_init_148, DX5_init_151, DX5_init_152, DX5_init_155, DX5_init_156, DX5_init_158, DX5_init_159, DX5_init_160, DX5_init_161, DX5_init_162, DX5_init_165, DX5_init_168, DX5_init_171, ce_obj, ce_X5_cast, ↓ct_X5_cast, ycl_X5_cast, cX_nil mhh_X5_init]
      simp (disch := omega) only [i32_lit, i32_neg, i32_add, i32_mul, i32_sub, i32_nI, i32_lt, i32_le, i32_eq, inR_i, i32_clamp, i32_div, i32_max, i32_min, ite_max, ite_min, b2i_0, b2i_1, b2i_01, i32_toInt, tn_i, Int.toNat_natCast, em_t, true_and, and_true, Int.reduceToNat, Int.reduceLE, Int.reduceLT, Int.reduceAdd, Int.reduceMul, Int.reduceSub, Int.reduceNeg, Int.reduceEq, true_implies, not_true_eq_false, false_implies, not_false_eq_true, hM, hk, fd, fe, fb, fl, a5, k5, l5, a6, k6, l6, a7, k7, l7, a8, k8, l8, a9, k9, l9, a10, k10, l10, a11, k11, l11, true_and, and_true, Option.some.injEq, exists_eq_left', nmOf_0, nmOf_1, nmOf_2, nmOf_3, nmOf_4, nmOf_5, nmOf_6, Nat.add_sub_cancel, Nat.reduceSub, Nat.reduceLT, Nat.reduceEqDiff, ne_eq, not_false_eq_true, kd_setI, fi_setI, fr_setI, ln_setI, ia_setI, ja_setI, ra_setI, kd_setR, fi_setR, fr_setR, ln_setR, ia_setR, ja_setR, ra_setR, kd_setIA, fi_setIA, fr_setIA, ln_setIA, ia_setIA, ja_setIA, ra_setIA, kd_setLA, fi_setLA, fr_setLA, ln_setLA, ia_setLA, ja_setLA, ra_setLA, kd_setRA, fi_setRA, fr_setRA, ln_setRA, ia_setRA, ja_setRA, ra_setRA, kd_cpRA, fi_cpRA, fr_cpRA, ln_cpRA, ia_cpRA, ja_cpRA, ra_cpRA, kd_cpIA, fi_cpIA, fr_cpIA, ln_cpIA, ia_cpIA, ja_cpIA, ra_cpIA, kd_newO, fi_newO, fr_newO, ln_newO, ia_newO, ja_newO, ra_newO, kd_newA, fi_newA, fr_newA, ln_newA, ia_newA, ja_newA, ra_newA]
      rw [show (3 * (n : Int) + 1).toNat = 3 * n + 1 by omega]
      refine ⟨by omega, fun h1 => ⟨fun h2 => ?_, fun h2 => ?_⟩, fun h1 => ?_⟩
      · rw [show sun0 n 2 = n - 6 by simp only [sun0]; rw [if_neg (by omega), if_neg (by omega)]] at h160
        exact h160
      · rw [show sun0 n 2 = 1 by simp only [sun0]; rw [if_neg (by omega), if_pos (by omega)]] at h160
        exact h160
      · rw [show sun0 n 2 = 5 - n by simp only [sun0]; rw [if_pos (by omega)]] at h160
        exact h160
    have h98 : Wp G MX5_init true 6 Q QX 98 [some (.ref m), some (.int (i32 n))] [.int (i32 (sun0 n 0)), .int (i32 (3 * n)), .ref (A 7)] h (0, 0) := by
      have hM0 := hM
      obtain ⟨⟨hk, hA, hJ⟩, fd, fe, fb, fl, hB, hL, hN, hG, hP⟩ := hM0
      obtain ⟨a5, k5, l5⟩ := hA 5 (by omega) (by omega)
      obtain ⟨a6, k6, l6⟩ := hA 6 (by omega) (by omega)
      obtain ⟨a7, k7, l7⟩ := hA 7 (by omega) (by omega)
      obtain ⟨a8, k8, l8⟩ := hA 8 (by omega) (by omega)
      obtain ⟨a9, k9, l9⟩ := hA 9 (by omega) (by omega)
      obtain ⟨a10, k10, l10⟩ := hA 10 (by omega) (by omega)
      obtain ⟨a11, k11, l11⟩ := hA 11 (by omega) (by omega)
      simp only [mLen] at l5 l6 l7 l8 l9 l10 l11
      refine wpW (cs := [(1, ce_obj), (31, ce_X5_cast A S)]) (stop := [124]) (n := 200) (env_cons (ce_objOK (by decide +kernel)) (env_cons (ceV (by decide +kernel) ⟨by decide, by decide, by decide +kernel⟩ (by decide) rfl (ok_X5_cast G A S hW)) (env_nil0 (env_hh rfl)))) ?_
      simp only [↓wpN_S, ↓step_u, ↓stC_s, stC_s, ↓stF_u, stF_u, ↓stepI, lenI, ↓kN_u, isS, ↓gI_0, ↓gI_S, ↓gL_0, ↓gL_S, ↓gD_0, ↓gD_S, ↓gR_0, ↓gR_S, ↓sI_c, ↓sL_c, ↓sD_c, ↓sR_c, ↓s1_r, ↓s1_i, ↓vR_r, ↓vR_n, ↓s0_n, s0_n, ↓oR_u, ↓sP_u, ↓sPa_0, ↓sPa_S, ↓lkC_c, ↓callK_u, ↓cQ_s, ↓cQ_n, putL, putW, clr, kil, catS, catN, refF, booF, finF, nF, nmOf_0, nmOf_1, nmOf_2, nmOf_3, nmOf_4, nmOf_5, nmOf_6, nmOf_50, nmOf_51, nmOf_52, ↓reduceIte, reduceIte, Bool.false_eq_true, eq_self, true_or, or_true, true_and, and_true, false_or, or_false, Nat.reduceAdd, Nat.reduceSub, Nat.reduceEqDiff, Nat.reduceLT, Nat.reduceLeDiff, reduceCtorEq, true_implies, List.length_cons, List.length_nil, List.replicate, List.cons_append, List.nil_append, mrt_X5_init, mhh_X5_init, mow_X5_init, mnl_X5_init, DX5_init_0, DX5_init_1, DX5_init_4, DX5_init_5, DX5_init_7, DX5_init_9, DX5_init_12, DX5_init_13, DX5_init_16, DX5_init_18, DX5_init_21, DX5_init_22, DX5_init_24, DX5_init_26, DX5_init_29, DX5_init_30, DX5_init_32, DX5_init_34, DX5_init_37, DX5_init_38, DX5_init_40, DX5_init_42, DX5_init_45, DX5_init_46, DX5_init_49, DX5_init_51, DX5_init_54, DX5_init_55, DX5_init_58, DX5_init_60, DX5_init_63, DX5_init_64, DX5_init_65, DX5_init_66, DX5_init_68, DX5_init_71, DX5_init_72, DX5_init_75, DX5_init_76, DX5_init_77, DX5_init_78, DX5_init_79, DX5_init_80, DX5_init_83, DX5_init_84, DX5_init_87, DX5_init_88, DX5_init_90, DX5_init_93, DX5_init_94, DX5_init_97, DX5_init_98, DX5_init_99, DX5_init_100, DX5_init_103, DX5_init_104, DX5_init_105, DX5_init_106, DX5_init_107, DX5_init_108, DX5_init_109, DX5_init_110, DX5_init_113, DX5_init_114, DX5_init_116, DX5_init_119, DX5_init_120, DX5_init_123, DX5_init_124, DX5_init_125, DX5_init_126, DX5_init_129, DX5_init_130, DX5_init_131, DX5_init_132, DX5_init_133, DX5_init_134, DX5_init_135, DX5_init_136, DX5_init_139, DX5_init_140, DX5_init_141, DX5_init_142, DX5_init_145, DX5_init_146, DX5_init_148, DX5_init_151, DX5_init_152, DX5_init_155, DX5_init_156, DX5_init_158, DX5_init_159, DX5_init_160, DX5_init_161, DX5_init_162, DX5_init_165, DX5_init_168, DX5_init_171, ce_obj, ce_X5_cast, ↓ct_X5_cast, ycl_X5_cast, cX_nil mhh_X5_init]
      simp (disch := omega) only [i32_lit, i32_neg, i32_add, i32_mul, i32_sub, i32_nI, i32_lt, i32_le, i32_eq, inR_i, i32_clamp, i32_div, i32_max, i32_min, ite_max, ite_min, b2i_0, b2i_1, b2i_01, i32_toInt, tn_i, Int.toNat_natCast, em_t, true_and, and_true, Int.reduceToNat, Int.reduceLE, Int.reduceLT, Int.reduceAdd, Int.reduceMul, Int.reduceSub, Int.reduceNeg, Int.reduceEq, true_implies, not_true_eq_false, false_implies, not_false_eq_true, hM, hk, fd, fe, fb, fl, a5, k5, l5, a6, k6, l6, a7, k7, l7, a8, k8, l8, a9, k9, l9, a10, k10, l10, a11, k11, l11, true_and, and_true, Option.some.injEq, exists_eq_left', nmOf_0, nmOf_1, nmOf_2, nmOf_3, nmOf_4, nmOf_5, nmOf_6, Nat.add_sub_cancel, Nat.reduceSub, Nat.reduceLT, Nat.reduceEqDiff, ne_eq, not_false_eq_true, kd_setI, fi_setI, fr_setI, ln_setI, ia_setI, ja_setI, ra_setI, kd_setR, fi_setR, fr_setR, ln_setR, ia_setR, ja_setR, ra_setR, kd_setIA, fi_setIA, fr_setIA, ln_setIA, ia_setIA, ja_setIA, ra_setIA, kd_setLA, fi_setLA, fr_setLA, ln_setLA, ia_setLA, ja_setLA, ra_setLA, kd_setRA, fi_setRA, fr_setRA, ln_setRA, ia_setRA, ja_setRA, ra_setRA, kd_cpRA, fi_cpRA, fr_cpRA, ln_cpRA, ia_cpRA, ja_cpRA, ra_cpRA, kd_cpIA, fi_cpIA, fr_cpIA, ln_cpIA, ia_cpIA, ja_cpIA, ra_cpIA, kd_newO, fi_newO, fr_newO, ln_newO, ia_newO, ja_newO, ra_newO, kd_newA, fi_newA, fr_newA, ln_newA, ia_newA, ja_newA, ra_newA]
      rw [show (3 * (n : Int)).toNat = 3 * n by omega]
      refine ⟨by omega, fun h1 => ?_, fun h1 => ⟨fun h2 => ?_, fun h2 => ?_⟩⟩
      · rw [show sun0 n 1 = -1 by simp only [sun0]; rw [if_pos (by omega)]] at h124
        exact h124
      · rw [show sun0 n 1 = 0 by simp only [sun0]; rw [if_neg (by omega)]] at h124
        exact h124
      · rw [show sun0 n 1 = -1 by simp only [sun0]; rw [if_pos (by omega)]] at h124
        exact h124
    have hM0 := hM
    obtain ⟨⟨hk, hA, hJ⟩, fd, fe, fb, fl, hB, hL, hN, hG, hP⟩ := hM0
    obtain ⟨a5, k5, l5⟩ := hA 5 (by omega) (by omega)
    obtain ⟨a6, k6, l6⟩ := hA 6 (by omega) (by omega)
    obtain ⟨a7, k7, l7⟩ := hA 7 (by omega) (by omega)
    obtain ⟨a8, k8, l8⟩ := hA 8 (by omega) (by omega)
    obtain ⟨a9, k9, l9⟩ := hA 9 (by omega) (by omega)
    obtain ⟨a10, k10, l10⟩ := hA 10 (by omega) (by omega)
    obtain ⟨a11, k11, l11⟩ := hA 11 (by omega) (by omega)
    simp only [mLen] at l5 l6 l7 l8 l9 l10 l11
    refine wpW (cs := [(1, ce_obj), (31, ce_X5_cast A S)]) (stop := [65, 98]) (n := 200) (env_cons (ce_objOK (by decide +kernel)) (env_cons (ceV (by decide +kernel) ⟨by decide, by decide, by decide +kernel⟩ (by decide) rfl (ok_X5_cast G A S hW)) (env_nil0 (env_hh rfl)))) ?_
    simp only [↓wpN_S, ↓step_u, ↓stC_s, stC_s, ↓stF_u, stF_u, ↓stepI, lenI, ↓kN_u, isS, ↓gI_0, ↓gI_S, ↓gL_0, ↓gL_S, ↓gD_0, ↓gD_S, ↓gR_0, ↓gR_S, ↓sI_c, ↓sL_c, ↓sD_c, ↓sR_c, ↓s1_r, ↓s1_i, ↓vR_r, ↓vR_n, ↓s0_n, s0_n, ↓oR_u, ↓sP_u, ↓sPa_0, ↓sPa_S, ↓lkC_c, ↓callK_u, ↓cQ_s, ↓cQ_n, putL, putW, clr, kil, catS, catN, refF, booF, finF, nF, nmOf_0, nmOf_1, nmOf_2, nmOf_3, nmOf_4, nmOf_5, nmOf_6, nmOf_50, nmOf_51, nmOf_52, ↓reduceIte, reduceIte, Bool.false_eq_true, eq_self, true_or, or_true, true_and, and_true, false_or, or_false, Nat.reduceAdd, Nat.reduceSub, Nat.reduceEqDiff, Nat.reduceLT, Nat.reduceLeDiff, reduceCtorEq, true_implies, List.length_cons, List.length_nil, List.replicate, List.cons_append, List.nil_append, mrt_X5_init, mhh_X5_init, mow_X5_init, mnl_X5_init, DX5_init_0, DX5_init_1, DX5_init_4, DX5_init_5, DX5_init_7, DX5_init_9, DX5_init_12, DX5_init_13, DX5_init_16, DX5_init_18, DX5_init_21, DX5_init_22, DX5_init_24, DX5_init_26, DX5_init_29, DX5_init_30, DX5_init_32, DX5_init_34, DX5_init_37, DX5_init_38, DX5_init_40, DX5_init_42, DX5_init_45, DX5_init_46, DX5_init_49, DX5_init_51, DX5_init_54, DX5_init_55, DX5_init_58, DX5_init_60, DX5_init_63, DX5_init_64, DX5_init_65, DX5_init_66, DX5_init_68, DX5_init_71, DX5_init_72, DX5_init_75, DX5_init_76, DX5_init_77, DX5_init_78, DX5_init_79, DX5_init_80, DX5_init_83, DX5_init_84, DX5_init_87, DX5_init_88, DX5_init_90, DX5_init_93, DX5_init_94, DX5_init_97, DX5_init_98, DX5_init_99, DX5_init_100, DX5_init_103, DX5_init_104, DX5_init_105, DX5_init_106, DX5_init_107, DX5_init_108, DX5_init_109, DX5_init_110, DX5_init_113, DX5_init_114, DX5_init_116, DX5_init_119, DX5_init_120, DX5_init_123, DX5_init_124, DX5_init_125, DX5_init_126, DX5_init_129, DX5_init_130, DX5_init_131, DX5_init_132, DX5_init_133, DX5_init_134, DX5_init_135, DX5_init_136, DX5_init_139, DX5_init_140, DX5_init_141, DX5_init_142, DX5_init_145, DX5_init_146, DX5_init_148, DX5_init_151, DX5_init_152, DX5_init_155, DX5_init_156, DX5_init_158, DX5_init_159, DX5_init_160, DX5_init_161, DX5_init_162, DX5_init_165, DX5_init_168, DX5_init_171, ce_obj, ce_X5_cast, ↓ct_X5_cast, ycl_X5_cast, cX_nil mhh_X5_init]
    simp (disch := omega) only [i32_lit, i32_neg, i32_add, i32_mul, i32_sub, i32_nI, i32_lt, i32_le, i32_eq, inR_i, i32_clamp, i32_div, i32_max, i32_min, ite_max, ite_min, b2i_0, b2i_1, b2i_01, i32_toInt, tn_i, Int.toNat_natCast, em_t, true_and, and_true, Int.reduceToNat, Int.reduceLE, Int.reduceLT, Int.reduceAdd, Int.reduceMul, Int.reduceSub, Int.reduceNeg, Int.reduceEq, true_implies, not_true_eq_false, false_implies, not_false_eq_true, hM, hk, fd, fe, fb, fl, a5, k5, l5, a6, k6, l6, a7, k7, l7, a8, k8, l8, a9, k9, l9, a10, k10, l10, a11, k11, l11, true_and, and_true, Option.some.injEq, exists_eq_left', nmOf_0, nmOf_1, nmOf_2, nmOf_3, nmOf_4, nmOf_5, nmOf_6, Nat.add_sub_cancel, Nat.reduceSub, Nat.reduceLT, Nat.reduceEqDiff, ne_eq, not_false_eq_true]
    refine ⟨fun h1 => by omega, fun _ => ⟨fun h1 => ⟨fun h2 => ?_, fun h2 => ?_⟩, fun h1 => ?_⟩⟩
    · rw [show sun0 n 0 = 1 by simp only [sun0]; rw [if_neg (by omega), if_neg (by omega)]] at h98
      exact h98
    · rw [show sun0 n 0 = 0 by simp only [sun0]; rw [if_neg (by omega), if_pos (by omega)]] at h98
      exact h98
    · rw [show sun0 n 0 = -1 by simp only [sun0]; rw [if_pos (by omega)]] at h98
      exact h98
set_option maxRecDepth 100000 in
set_option maxHeartbeats 4000000 in
theorem ok_X5_init (G : GT) : OKm G yX5_init MX5_init 6 7 6648 ct_X5_init := by
  refine mkOK (ini := true) (by decide) rfl (by first | exact fun _ => rfl | (intro hh; cases hh)) (fun As h Q QX hc => ?_)
  replace hc := sR_e hc; obtain ⟨m, r, rfl, hc⟩ := hc
  replace hc := s0_e hc; obtain ⟨rfl, hc⟩ := hc
  obtain ⟨hk, hf, hq⟩ := hc
  have q5 : MAk h h m (fun _ => 0) 5 := ⟨hk, hk, Fr.rf, fun _ _ => rfl, fun k h1 h2 => by omega, fun i j h1 h2 => by omega⟩
  obtain ⟨S, hSe⟩ : ∃ S : SS, S = SI 0 := ⟨_, rfl⟩
  have hW : WF S := hSe ▸ WF_SI 0
  obtain ⟨A, hAe⟩ : ∃ A : Nat → Nat, A = fun _ => 0 := ⟨_, rfl⟩
  refine ⟨Nat.le_of_ble_eq_true rfl, ?_⟩
  simp only [ent, entL, catN, List.length_cons, List.length_nil, List.replicate, List.cons_append, List.nil_append, reduceIte, Nat.reduceEqDiff,  Nat.reduceAdd, Nat.reduceSub, mnl_X5_init]
  refine wpW (cs := [(1, ce_obj), (31, ce_X5_cast A S)]) (stop := [9]) (n := 200) (env_cons (ce_objOK (by decide +kernel)) (env_cons (ceV (by decide +kernel) ⟨by decide, by decide, by decide +kernel⟩ (by decide) rfl (ok_X5_cast G A S hW)) (env_nil0 (env_hh rfl)))) ?_
  simp only [↓wpN_S, ↓step_u, ↓stC_s, stC_s, ↓stF_u, stF_u, ↓stepI, lenI, ↓kN_u, isS, ↓gI_0, ↓gI_S, ↓gL_0, ↓gL_S, ↓gD_0, ↓gD_S, ↓gR_0, ↓gR_S, ↓sI_c, ↓sL_c, ↓sD_c, ↓sR_c, ↓s1_r, ↓s1_i, ↓vR_r, ↓vR_n, ↓s0_n, s0_n, ↓oR_u, ↓sP_u, ↓sPa_0, ↓sPa_S, ↓lkC_c, ↓callK_u, ↓cQ_s, ↓cQ_n, putL, putW, clr, kil, catS, catN, refF, booF, finF, nF, nmOf_0, nmOf_1, nmOf_2, nmOf_3, nmOf_4, nmOf_5, nmOf_6, nmOf_50, nmOf_51, nmOf_52, ↓reduceIte, reduceIte, Bool.false_eq_true, eq_self, true_or, or_true, true_and, and_true, false_or, or_false, Nat.reduceAdd, Nat.reduceSub, Nat.reduceEqDiff, Nat.reduceLT, Nat.reduceLeDiff, reduceCtorEq, true_implies, List.length_cons, List.length_nil, List.replicate, List.cons_append, List.nil_append, mrt_X5_init, mhh_X5_init, mow_X5_init, mnl_X5_init, DX5_init_0, DX5_init_1, DX5_init_4, DX5_init_5, DX5_init_7, DX5_init_9, DX5_init_12, DX5_init_13, DX5_init_16, DX5_init_18, DX5_init_21, DX5_init_22, DX5_init_24, DX5_init_26, DX5_init_29, DX5_init_30, DX5_init_32, DX5_init_34, DX5_init_37, DX5_init_38, DX5_init_40, DX5_init_42, DX5_init_45, DX5_init_46, DX5_init_49, DX5_init_51, DX5_init_54, DX5_init_55, DX5_init_58, DX5_init_60, DX5_init_63, DX5_init_64, DX5_init_65, DX5_init_66, DX5_init_68, DX5_init_71, DX5_init_72, DX5_init_75, DX5_init_76, DX5_init_77, DX5_init_78, DX5_init_79, DX5_init_80, DX5_init_83, DX5_init_84, DX5_init_87, DX5_init_88, DX5_init_90, DX5_init_93, DX5_init_94, DX5_init_97, DX5_init_98, DX5_init_99, DX5_init_100, DX5_init_103, DX5_init_104, DX5_init_105, DX5_init_106, DX5_init_107, DX5_init_108, DX5_init_109, DX5_init_110, DX5_init_113, DX5_init_114, DX5_init_116, DX5_init_119, DX5_init_120, DX5_init_123, DX5_init_124, DX5_init_125, DX5_init_126, DX5_init_129, DX5_init_130, DX5_init_131, DX5_init_132, DX5_init_133, DX5_init_134, DX5_init_135, DX5_init_136, DX5_init_139, DX5_init_140, DX5_init_141, DX5_init_142, DX5_init_145, DX5_init_146, DX5_init_148, DX5_init_151, DX5_init_152, DX5_init_155, DX5_init_156, DX5_init_158, DX5_init_159, DX5_init_160, DX5_init_161, DX5_init_162, DX5_init_165, DX5_init_168, DX5_init_171, ce_obj, ce_X5_cast, ↓ct_X5_cast, ycl_X5_cast, cX_nil mhh_X5_init]
  obtain ⟨g5, hg5⟩ : ∃ g, g = h := ⟨_, rfl⟩
  rw [← hg5]
  replace q5 : MAk h g5 m (fun _ => 0) 5 := hg5 ▸ q5
  refine ⟨by decide, by decide, by decide, fun a5 z5 _ => ?_⟩
  rw [show Int32.toNatClampNeg 84 = 84 by decide]
  have q6 := q5.s z5 (by omega)
  have km5 : kd (newA g5 a5 21 84) m = 7 := q6.1
  refine wpW (cs := [(1, ce_obj), (31, ce_X5_cast A S)]) (stop := [18]) (n := 200) (env_cons (ce_objOK (by decide +kernel)) (env_cons (ceV (by decide +kernel) ⟨by decide, by decide, by decide +kernel⟩ (by decide) rfl (ok_X5_cast G A S hW)) (env_nil0 (env_hh rfl)))) ?_
  simp only [↓wpN_S, ↓step_u, ↓stC_s, stC_s, ↓stF_u, stF_u, ↓stepI, lenI, ↓kN_u, isS, ↓gI_0, ↓gI_S, ↓gL_0, ↓gL_S, ↓gD_0, ↓gD_S, ↓gR_0, ↓gR_S, ↓sI_c, ↓sL_c, ↓sD_c, ↓sR_c, ↓s1_r, ↓s1_i, ↓vR_r, ↓vR_n, ↓s0_n, s0_n, ↓oR_u, ↓sP_u, ↓sPa_0, ↓sPa_S, ↓lkC_c, ↓callK_u, ↓cQ_s, ↓cQ_n, putL, putW, clr, kil, catS, catN, refF, booF, finF, nF, nmOf_0, nmOf_1, nmOf_2, nmOf_3, nmOf_4, nmOf_5, nmOf_6, nmOf_50, nmOf_51, nmOf_52, ↓reduceIte, reduceIte, Bool.false_eq_true, eq_self, true_or, or_true, true_and, and_true, false_or, or_false, Nat.reduceAdd, Nat.reduceSub, Nat.reduceEqDiff, Nat.reduceLT, Nat.reduceLeDiff, reduceCtorEq, true_implies, List.length_cons, List.length_nil, List.replicate, List.cons_append, List.nil_append, mrt_X5_init, mhh_X5_init, mow_X5_init, mnl_X5_init, DX5_init_0, DX5_init_1, DX5_init_4, DX5_init_5, DX5_init_7, DX5_init_9, DX5_init_12, DX5_init_13, DX5_init_16, DX5_init_18, DX5_init_21, DX5_init_22, DX5_init_24, DX5_init_26, DX5_init_29, DX5_init_30, DX5_init_32, DX5_init_34, DX5_init_37, DX5_init_38, DX5_init_40, DX5_init_42, DX5_init_45, DX5_init_46, DX5_init_49, DX5_init_51, DX5_init_54, DX5_init_55, DX5_init_58, DX5_init_60, DX5_init_63, DX5_init_64, DX5_init_65, DX5_init_66, DX5_init_68, DX5_init_71, DX5_init_72, DX5_init_75, DX5_init_76, DX5_init_77, DX5_init_78, DX5_init_79, DX5_init_80, DX5_init_83, DX5_init_84, DX5_init_87, DX5_init_88, DX5_init_90, DX5_init_93, DX5_init_94, DX5_init_97, DX5_init_98, DX5_init_99, DX5_init_100, DX5_init_103, DX5_init_104, DX5_init_105, DX5_init_106, DX5_init_107, DX5_init_108, DX5_init_109, DX5_init_110, DX5_init_113, DX5_init_114, DX5_init_116, DX5_init_119, DX5_init_120, DX5_init_123, DX5_init_124, DX5_init_125, DX5_init_126, DX5_init_129, DX5_init_130, DX5_init_131, DX5_init_132, DX5_init_133, DX5_init_134, DX5_init_135, DX5_init_136, DX5_init_139, DX5_init_140, DX5_init_141, DX5_init_142, DX5_init_145, DX5_init_146, DX5_init_148, DX5_init_151, DX5_init_152, DX5_init_155, DX5_init_156, DX5_init_158, DX5_init_159, DX5_init_160, DX5_init_161, DX5_init_162, DX5_init_165, DX5_init_168, DX5_init_171, ce_obj, ce_X5_cast, ↓ct_X5_cast, ycl_X5_cast, cX_nil mhh_X5_init]
  simp only [km5, Nat.reduceEqDiff, Nat.reduceLT, Nat.reduceAdd, true_and, false_implies, implies_true, and_true, nmOf_6]
  obtain ⟨g6, hg6⟩ : ∃ g, g = setR (newA g5 a5 21 84) 6 5 m (some a5) := ⟨_, rfl⟩
  rw [← hg6]
  replace q6 : MAk h g6 m _ 6 := hg6 ▸ q6
  refine ⟨by decide, by decide, by decide, fun a6 z6 _ => ?_⟩
  rw [show Int32.toNatClampNeg 360 = 360 by decide]
  have q7 := q6.s z6 (by omega)
  have km6 : kd (newA g6 a6 21 360) m = 7 := q7.1
  refine wpW (cs := [(1, ce_obj), (31, ce_X5_cast A S)]) (stop := [26]) (n := 200) (env_cons (ce_objOK (by decide +kernel)) (env_cons (ceV (by decide +kernel) ⟨by decide, by decide, by decide +kernel⟩ (by decide) rfl (ok_X5_cast G A S hW)) (env_nil0 (env_hh rfl)))) ?_
  simp only [↓wpN_S, ↓step_u, ↓stC_s, stC_s, ↓stF_u, stF_u, ↓stepI, lenI, ↓kN_u, isS, ↓gI_0, ↓gI_S, ↓gL_0, ↓gL_S, ↓gD_0, ↓gD_S, ↓gR_0, ↓gR_S, ↓sI_c, ↓sL_c, ↓sD_c, ↓sR_c, ↓s1_r, ↓s1_i, ↓vR_r, ↓vR_n, ↓s0_n, s0_n, ↓oR_u, ↓sP_u, ↓sPa_0, ↓sPa_S, ↓lkC_c, ↓callK_u, ↓cQ_s, ↓cQ_n, putL, putW, clr, kil, catS, catN, refF, booF, finF, nF, nmOf_0, nmOf_1, nmOf_2, nmOf_3, nmOf_4, nmOf_5, nmOf_6, nmOf_50, nmOf_51, nmOf_52, ↓reduceIte, reduceIte, Bool.false_eq_true, eq_self, true_or, or_true, true_and, and_true, false_or, or_false, Nat.reduceAdd, Nat.reduceSub, Nat.reduceEqDiff, Nat.reduceLT, Nat.reduceLeDiff, reduceCtorEq, true_implies, List.length_cons, List.length_nil, List.replicate, List.cons_append, List.nil_append, mrt_X5_init, mhh_X5_init, mow_X5_init, mnl_X5_init, DX5_init_0, DX5_init_1, DX5_init_4, DX5_init_5, DX5_init_7, DX5_init_9, DX5_init_12, DX5_init_13, DX5_init_16, DX5_init_18, DX5_init_21, DX5_init_22, DX5_init_24, DX5_init_26, DX5_init_29, DX5_init_30, DX5_init_32, DX5_init_34, DX5_init_37, DX5_init_38, DX5_init_40, DX5_init_42, DX5_init_45, DX5_init_46, DX5_init_49, DX5_init_51, DX5_init_54, DX5_init_55, DX5_init_58, DX5_init_60, DX5_init_63, DX5_init_64, DX5_init_65, DX5_init_66, DX5_init_68, DX5_init_71, DX5_init_72, DX5_init_75, DX5_init_76, DX5_init_77, DX5_init_78, DX5_init_79, DX5_init_80, DX5_init_83, DX5_init_84, DX5_init_87, DX5_init_88, DX5_init_90, DX5_init_93, DX5_init_94, DX5_init_97, DX5_init_98, DX5_init_99, DX5_init_100, DX5_init_103, DX5_init_104, DX5_init_105, DX5_init_106, DX5_init_107, DX5_init_108, DX5_init_109, DX5_init_110, DX5_init_113, DX5_init_114, DX5_init_116, DX5_init_119, DX5_init_120, DX5_init_123, DX5_init_124, DX5_init_125, DX5_init_126, DX5_init_129, DX5_init_130, DX5_init_131, DX5_init_132, DX5_init_133, DX5_init_134, DX5_init_135, DX5_init_136, DX5_init_139, DX5_init_140, DX5_init_141, DX5_init_142, DX5_init_145, DX5_init_146, DX5_init_148, DX5_init_151, DX5_init_152, DX5_init_155, DX5_init_156, DX5_init_158, DX5_init_159, DX5_init_160, DX5_init_161, DX5_init_162, DX5_init_165, DX5_init_168, DX5_init_171, ce_obj, ce_X5_cast, ↓ct_X5_cast, ycl_X5_cast, cX_nil mhh_X5_init]
  simp only [km6, Nat.reduceEqDiff, Nat.reduceLT, Nat.reduceAdd, true_and, false_implies, implies_true, and_true, nmOf_6]
  obtain ⟨g7, hg7⟩ : ∃ g, g = setR (newA g6 a6 21 360) 6 6 m (some a6) := ⟨_, rfl⟩
  rw [← hg7]
  replace q7 : MAk h g7 m _ 7 := hg7 ▸ q7
  refine ⟨by decide, by decide, by decide, fun a7 z7 _ => ?_⟩
  rw [show Int32.toNatClampNeg 36 = 36 by decide]
  have q8 := q7.s z7 (by omega)
  have km7 : kd (newA g7 a7 21 36) m = 7 := q8.1
  refine wpW (cs := [(1, ce_obj), (31, ce_X5_cast A S)]) (stop := [34]) (n := 200) (env_cons (ce_objOK (by decide +kernel)) (env_cons (ceV (by decide +kernel) ⟨by decide, by decide, by decide +kernel⟩ (by decide) rfl (ok_X5_cast G A S hW)) (env_nil0 (env_hh rfl)))) ?_
  simp only [↓wpN_S, ↓step_u, ↓stC_s, stC_s, ↓stF_u, stF_u, ↓stepI, lenI, ↓kN_u, isS, ↓gI_0, ↓gI_S, ↓gL_0, ↓gL_S, ↓gD_0, ↓gD_S, ↓gR_0, ↓gR_S, ↓sI_c, ↓sL_c, ↓sD_c, ↓sR_c, ↓s1_r, ↓s1_i, ↓vR_r, ↓vR_n, ↓s0_n, s0_n, ↓oR_u, ↓sP_u, ↓sPa_0, ↓sPa_S, ↓lkC_c, ↓callK_u, ↓cQ_s, ↓cQ_n, putL, putW, clr, kil, catS, catN, refF, booF, finF, nF, nmOf_0, nmOf_1, nmOf_2, nmOf_3, nmOf_4, nmOf_5, nmOf_6, nmOf_50, nmOf_51, nmOf_52, ↓reduceIte, reduceIte, Bool.false_eq_true, eq_self, true_or, or_true, true_and, and_true, false_or, or_false, Nat.reduceAdd, Nat.reduceSub, Nat.reduceEqDiff, Nat.reduceLT, Nat.reduceLeDiff, reduceCtorEq, true_implies, List.length_cons, List.length_nil, List.replicate, List.cons_append, List.nil_append, mrt_X5_init, mhh_X5_init, mow_X5_init, mnl_X5_init, DX5_init_0, DX5_init_1, DX5_init_4, DX5_init_5, DX5_init_7, DX5_init_9, DX5_init_12, DX5_init_13, DX5_init_16, DX5_init_18, DX5_init_21, DX5_init_22, DX5_init_24, DX5_init_26, DX5_init_29, DX5_init_30, DX5_init_32, DX5_init_34, DX5_init_37, DX5_init_38, DX5_init_40, DX5_init_42, DX5_init_45, DX5_init_46, DX5_init_49, DX5_init_51, DX5_init_54, DX5_init_55, DX5_init_58, DX5_init_60, DX5_init_63, DX5_init_64, DX5_init_65, DX5_init_66, DX5_init_68, DX5_init_71, DX5_init_72, DX5_init_75, DX5_init_76, DX5_init_77, DX5_init_78, DX5_init_79, DX5_init_80, DX5_init_83, DX5_init_84, DX5_init_87, DX5_init_88, DX5_init_90, DX5_init_93, DX5_init_94, DX5_init_97, DX5_init_98, DX5_init_99, DX5_init_100, DX5_init_103, DX5_init_104, DX5_init_105, DX5_init_106, DX5_init_107, DX5_init_108, DX5_init_109, DX5_init_110, DX5_init_113, DX5_init_114, DX5_init_116, DX5_init_119, DX5_init_120, DX5_init_123, DX5_init_124, DX5_init_125, DX5_init_126, DX5_init_129, DX5_init_130, DX5_init_131, DX5_init_132, DX5_init_133, DX5_init_134, DX5_init_135, DX5_init_136, DX5_init_139, DX5_init_140, DX5_init_141, DX5_init_142, DX5_init_145, DX5_init_146, DX5_init_148, DX5_init_151, DX5_init_152, DX5_init_155, DX5_init_156, DX5_init_158, DX5_init_159, DX5_init_160, DX5_init_161, DX5_init_162, DX5_init_165, DX5_init_168, DX5_init_171, ce_obj, ce_X5_cast, ↓ct_X5_cast, ycl_X5_cast, cX_nil mhh_X5_init]
  simp only [km7, Nat.reduceEqDiff, Nat.reduceLT, Nat.reduceAdd, true_and, false_implies, implies_true, and_true, nmOf_6]
  obtain ⟨g8, hg8⟩ : ∃ g, g = setR (newA g7 a7 21 36) 6 7 m (some a7) := ⟨_, rfl⟩
  rw [← hg8]
  replace q8 : MAk h g8 m _ 8 := hg8 ▸ q8
  refine ⟨by decide, by decide, by decide, fun a8 z8 _ => ?_⟩
  rw [show Int32.toNatClampNeg 8 = 8 by decide]
  have q9 := q8.s z8 (by omega)
  have km8 : kd (newA g8 a8 21 8) m = 7 := q9.1
  refine wpW (cs := [(1, ce_obj), (31, ce_X5_cast A S)]) (stop := [42]) (n := 200) (env_cons (ce_objOK (by decide +kernel)) (env_cons (ceV (by decide +kernel) ⟨by decide, by decide, by decide +kernel⟩ (by decide) rfl (ok_X5_cast G A S hW)) (env_nil0 (env_hh rfl)))) ?_
  simp only [↓wpN_S, ↓step_u, ↓stC_s, stC_s, ↓stF_u, stF_u, ↓stepI, lenI, ↓kN_u, isS, ↓gI_0, ↓gI_S, ↓gL_0, ↓gL_S, ↓gD_0, ↓gD_S, ↓gR_0, ↓gR_S, ↓sI_c, ↓sL_c, ↓sD_c, ↓sR_c, ↓s1_r, ↓s1_i, ↓vR_r, ↓vR_n, ↓s0_n, s0_n, ↓oR_u, ↓sP_u, ↓sPa_0, ↓sPa_S, ↓lkC_c, ↓callK_u, ↓cQ_s, ↓cQ_n, putL, putW, clr, kil, catS, catN, refF, booF, finF, nF, nmOf_0, nmOf_1, nmOf_2, nmOf_3, nmOf_4, nmOf_5, nmOf_6, nmOf_50, nmOf_51, nmOf_52, ↓reduceIte, reduceIte, Bool.false_eq_true, eq_self, true_or, or_true, true_and, and_true, false_or, or_false, Nat.reduceAdd, Nat.reduceSub, Nat.reduceEqDiff, Nat.reduceLT, Nat.reduceLeDiff, reduceCtorEq, true_implies, List.length_cons, List.length_nil, List.replicate, List.cons_append, List.nil_append, mrt_X5_init, mhh_X5_init, mow_X5_init, mnl_X5_init, DX5_init_0, DX5_init_1, DX5_init_4, DX5_init_5, DX5_init_7, DX5_init_9, DX5_init_12, DX5_init_13, DX5_init_16, DX5_init_18, DX5_init_21, DX5_init_22, DX5_init_24, DX5_init_26, DX5_init_29, DX5_init_30, DX5_init_32, DX5_init_34, DX5_init_37, DX5_init_38, DX5_init_40, DX5_init_42, DX5_init_45, DX5_init_46, DX5_init_49, DX5_init_51, DX5_init_54, DX5_init_55, DX5_init_58, DX5_init_60, DX5_init_63, DX5_init_64, DX5_init_65, DX5_init_66, DX5_init_68, DX5_init_71, DX5_init_72, DX5_init_75, DX5_init_76, DX5_init_77, DX5_init_78, DX5_init_79, DX5_init_80, DX5_init_83, DX5_init_84, DX5_init_87, DX5_init_88, DX5_init_90, DX5_init_93, DX5_init_94, DX5_init_97, DX5_init_98, DX5_init_99, DX5_init_100, DX5_init_103, DX5_init_104, DX5_init_105, DX5_init_106, DX5_init_107, DX5_init_108, DX5_init_109, DX5_init_110, DX5_init_113, DX5_init_114, DX5_init_116, DX5_init_119, DX5_init_120, DX5_init_123, DX5_init_124, DX5_init_125, DX5_init_126, DX5_init_129, DX5_init_130, DX5_init_131, DX5_init_132, DX5_init_133, DX5_init_134, DX5_init_135, DX5_init_136, DX5_init_139, DX5_init_140, DX5_init_141, DX5_init_142, DX5_init_145, DX5_init_146, DX5_init_148, DX5_init_151, DX5_init_152, DX5_init_155, DX5_init_156, DX5_init_158, DX5_init_159, DX5_init_160, DX5_init_161, DX5_init_162, DX5_init_165, DX5_init_168, DX5_init_171, ce_obj, ce_X5_cast, ↓ct_X5_cast, ycl_X5_cast, cX_nil mhh_X5_init]
  simp only [km8, Nat.reduceEqDiff, Nat.reduceLT, Nat.reduceAdd, true_and, false_implies, implies_true, and_true, nmOf_6]
  obtain ⟨g9, hg9⟩ : ∃ g, g = setR (newA g8 a8 21 8) 6 8 m (some a8) := ⟨_, rfl⟩
  rw [← hg9]
  replace q9 : MAk h g9 m _ 9 := hg9 ▸ q9
  refine ⟨by decide, by decide, by decide, fun a9 z9 _ => ?_⟩
  rw [show Int32.toNatClampNeg 16 = 16 by decide]
  have q10 := q9.s z9 (by omega)
  have km9 : kd (newA g9 a9 21 16) m = 7 := q10.1
  refine wpW (cs := [(1, ce_obj), (31, ce_X5_cast A S)]) (stop := [51]) (n := 200) (env_cons (ce_objOK (by decide +kernel)) (env_cons (ceV (by decide +kernel) ⟨by decide, by decide, by decide +kernel⟩ (by decide) rfl (ok_X5_cast G A S hW)) (env_nil0 (env_hh rfl)))) ?_
  simp only [↓wpN_S, ↓step_u, ↓stC_s, stC_s, ↓stF_u, stF_u, ↓stepI, lenI, ↓kN_u, isS, ↓gI_0, ↓gI_S, ↓gL_0, ↓gL_S, ↓gD_0, ↓gD_S, ↓gR_0, ↓gR_S, ↓sI_c, ↓sL_c, ↓sD_c, ↓sR_c, ↓s1_r, ↓s1_i, ↓vR_r, ↓vR_n, ↓s0_n, s0_n, ↓oR_u, ↓sP_u, ↓sPa_0, ↓sPa_S, ↓lkC_c, ↓callK_u, ↓cQ_s, ↓cQ_n, putL, putW, clr, kil, catS, catN, refF, booF, finF, nF, nmOf_0, nmOf_1, nmOf_2, nmOf_3, nmOf_4, nmOf_5, nmOf_6, nmOf_50, nmOf_51, nmOf_52, ↓reduceIte, reduceIte, Bool.false_eq_true, eq_self, true_or, or_true, true_and, and_true, false_or, or_false, Nat.reduceAdd, Nat.reduceSub, Nat.reduceEqDiff, Nat.reduceLT, Nat.reduceLeDiff, reduceCtorEq, true_implies, List.length_cons, List.length_nil, List.replicate, List.cons_append, List.nil_append, mrt_X5_init, mhh_X5_init, mow_X5_init, mnl_X5_init, DX5_init_0, DX5_init_1, DX5_init_4, DX5_init_5, DX5_init_7, DX5_init_9, DX5_init_12, DX5_init_13, DX5_init_16, DX5_init_18, DX5_init_21, DX5_init_22, DX5_init_24, DX5_init_26, DX5_init_29, DX5_init_30, DX5_init_32, DX5_init_34, DX5_init_37, DX5_init_38, DX5_init_40, DX5_init_42, DX5_init_45, DX5_init_46, DX5_init_49, DX5_init_51, DX5_init_54, DX5_init_55, DX5_init_58, DX5_init_60, DX5_init_63, DX5_init_64, DX5_init_65, DX5_init_66, DX5_init_68, DX5_init_71, DX5_init_72, DX5_init_75, DX5_init_76, DX5_init_77, DX5_init_78, DX5_init_79, DX5_init_80, DX5_init_83, DX5_init_84, DX5_init_87, DX5_init_88, DX5_init_90, DX5_init_93, DX5_init_94, DX5_init_97, DX5_init_98, DX5_init_99, DX5_init_100, DX5_init_103, DX5_init_104, DX5_init_105, DX5_init_106, DX5_init_107, DX5_init_108, DX5_init_109, DX5_init_110, DX5_init_113, DX5_init_114, DX5_init_116, DX5_init_119, DX5_init_120, DX5_init_123, DX5_init_124, DX5_init_125, DX5_init_126, DX5_init_129, DX5_init_130, DX5_init_131, DX5_init_132, DX5_init_133, DX5_init_134, DX5_init_135, DX5_init_136, DX5_init_139, DX5_init_140, DX5_init_141, DX5_init_142, DX5_init_145, DX5_init_146, DX5_init_148, DX5_init_151, DX5_init_152, DX5_init_155, DX5_init_156, DX5_init_158, DX5_init_159, DX5_init_160, DX5_init_161, DX5_init_162, DX5_init_165, DX5_init_168, DX5_init_171, ce_obj, ce_X5_cast, ↓ct_X5_cast, ycl_X5_cast, cX_nil mhh_X5_init]
  simp only [km9, Nat.reduceEqDiff, Nat.reduceLT, Nat.reduceAdd, true_and, false_implies, implies_true, and_true, nmOf_6]
  obtain ⟨g10, hg10⟩ : ∃ g, g = setR (newA g9 a9 21 16) 6 9 m (some a9) := ⟨_, rfl⟩
  rw [← hg10]
  replace q10 : MAk h g10 m _ 10 := hg10 ▸ q10
  refine ⟨by decide, by decide, by decide, fun a10 z10 _ => ?_⟩
  rw [show Int32.toNatClampNeg 3072 = 3072 by decide]
  have q11 := q10.s z10 (by omega)
  have km10 : kd (newA g10 a10 21 3072) m = 7 := q11.1
  refine wpW (cs := [(1, ce_obj), (31, ce_X5_cast A S)]) (stop := [60]) (n := 200) (env_cons (ce_objOK (by decide +kernel)) (env_cons (ceV (by decide +kernel) ⟨by decide, by decide, by decide +kernel⟩ (by decide) rfl (ok_X5_cast G A S hW)) (env_nil0 (env_hh rfl)))) ?_
  simp only [↓wpN_S, ↓step_u, ↓stC_s, stC_s, ↓stF_u, stF_u, ↓stepI, lenI, ↓kN_u, isS, ↓gI_0, ↓gI_S, ↓gL_0, ↓gL_S, ↓gD_0, ↓gD_S, ↓gR_0, ↓gR_S, ↓sI_c, ↓sL_c, ↓sD_c, ↓sR_c, ↓s1_r, ↓s1_i, ↓vR_r, ↓vR_n, ↓s0_n, s0_n, ↓oR_u, ↓sP_u, ↓sPa_0, ↓sPa_S, ↓lkC_c, ↓callK_u, ↓cQ_s, ↓cQ_n, putL, putW, clr, kil, catS, catN, refF, booF, finF, nF, nmOf_0, nmOf_1, nmOf_2, nmOf_3, nmOf_4, nmOf_5, nmOf_6, nmOf_50, nmOf_51, nmOf_52, ↓reduceIte, reduceIte, Bool.false_eq_true, eq_self, true_or, or_true, true_and, and_true, false_or, or_false, Nat.reduceAdd, Nat.reduceSub, Nat.reduceEqDiff, Nat.reduceLT, Nat.reduceLeDiff, reduceCtorEq, true_implies, List.length_cons, List.length_nil, List.replicate, List.cons_append, List.nil_append, mrt_X5_init, mhh_X5_init, mow_X5_init, mnl_X5_init, DX5_init_0, DX5_init_1, DX5_init_4, DX5_init_5, DX5_init_7, DX5_init_9, DX5_init_12, DX5_init_13, DX5_init_16, DX5_init_18, DX5_init_21, DX5_init_22, DX5_init_24, DX5_init_26, DX5_init_29, DX5_init_30, DX5_init_32, DX5_init_34, DX5_init_37, DX5_init_38, DX5_init_40, DX5_init_42, DX5_init_45, DX5_init_46, DX5_init_49, DX5_init_51, DX5_init_54, DX5_init_55, DX5_init_58, DX5_init_60, DX5_init_63, DX5_init_64, DX5_init_65, DX5_init_66, DX5_init_68, DX5_init_71, DX5_init_72, DX5_init_75, DX5_init_76, DX5_init_77, DX5_init_78, DX5_init_79, DX5_init_80, DX5_init_83, DX5_init_84, DX5_init_87, DX5_init_88, DX5_init_90, DX5_init_93, DX5_init_94, DX5_init_97, DX5_init_98, DX5_init_99, DX5_init_100, DX5_init_103, DX5_init_104, DX5_init_105, DX5_init_106, DX5_init_107, DX5_init_108, DX5_init_109, DX5_init_110, DX5_init_113, DX5_init_114, DX5_init_116, DX5_init_119, DX5_init_120, DX5_init_123, DX5_init_124, DX5_init_125, DX5_init_126, DX5_init_129, DX5_init_130, DX5_init_131, DX5_init_132, DX5_init_133, DX5_init_134, DX5_init_135, DX5_init_136, DX5_init_139, DX5_init_140, DX5_init_141, DX5_init_142, DX5_init_145, DX5_init_146, DX5_init_148, DX5_init_151, DX5_init_152, DX5_init_155, DX5_init_156, DX5_init_158, DX5_init_159, DX5_init_160, DX5_init_161, DX5_init_162, DX5_init_165, DX5_init_168, DX5_init_171, ce_obj, ce_X5_cast, ↓ct_X5_cast, ycl_X5_cast, cX_nil mhh_X5_init]
  simp only [km10, Nat.reduceEqDiff, Nat.reduceLT, Nat.reduceAdd, true_and, false_implies, implies_true, and_true, nmOf_6]
  obtain ⟨g11, hg11⟩ : ∃ g, g = setR (newA g10 a10 21 3072) 6 10 m (some a10) := ⟨_, rfl⟩
  rw [← hg11]
  replace q11 : MAk h g11 m _ 11 := hg11 ▸ q11
  refine ⟨by decide, by decide, by decide, fun a11 z11 _ => ?_⟩
  rw [show Int32.toNatClampNeg 3072 = 3072 by decide]
  have q12 := q11.s z11 (by omega)
  have km11 : kd (newA g11 a11 21 3072) m = 7 := q12.1
  refine wpW (cs := [(1, ce_obj), (31, ce_X5_cast A S)]) (stop := [65]) (n := 200) (env_cons (ce_objOK (by decide +kernel)) (env_cons (ceV (by decide +kernel) ⟨by decide, by decide, by decide +kernel⟩ (by decide) rfl (ok_X5_cast G A S hW)) (env_nil0 (env_hh rfl)))) ?_
  simp only [↓wpN_S, ↓step_u, ↓stC_s, stC_s, ↓stF_u, stF_u, ↓stepI, lenI, ↓kN_u, isS, ↓gI_0, ↓gI_S, ↓gL_0, ↓gL_S, ↓gD_0, ↓gD_S, ↓gR_0, ↓gR_S, ↓sI_c, ↓sL_c, ↓sD_c, ↓sR_c, ↓s1_r, ↓s1_i, ↓vR_r, ↓vR_n, ↓s0_n, s0_n, ↓oR_u, ↓sP_u, ↓sPa_0, ↓sPa_S, ↓lkC_c, ↓callK_u, ↓cQ_s, ↓cQ_n, putL, putW, clr, kil, catS, catN, refF, booF, finF, nF, nmOf_0, nmOf_1, nmOf_2, nmOf_3, nmOf_4, nmOf_5, nmOf_6, nmOf_50, nmOf_51, nmOf_52, ↓reduceIte, reduceIte, Bool.false_eq_true, eq_self, true_or, or_true, true_and, and_true, false_or, or_false, Nat.reduceAdd, Nat.reduceSub, Nat.reduceEqDiff, Nat.reduceLT, Nat.reduceLeDiff, reduceCtorEq, true_implies, List.length_cons, List.length_nil, List.replicate, List.cons_append, List.nil_append, mrt_X5_init, mhh_X5_init, mow_X5_init, mnl_X5_init, DX5_init_0, DX5_init_1, DX5_init_4, DX5_init_5, DX5_init_7, DX5_init_9, DX5_init_12, DX5_init_13, DX5_init_16, DX5_init_18, DX5_init_21, DX5_init_22, DX5_init_24, DX5_init_26, DX5_init_29, DX5_init_30, DX5_init_32, DX5_init_34, DX5_init_37, DX5_init_38, DX5_init_40, DX5_init_42, DX5_init_45, DX5_init_46, DX5_init_49, DX5_init_51, DX5_init_54, DX5_init_55, DX5_init_58, DX5_init_60, DX5_init_63, DX5_init_64, DX5_init_65, DX5_init_66, DX5_init_68, DX5_init_71, DX5_init_72, DX5_init_75, DX5_init_76, DX5_init_77, DX5_init_78, DX5_init_79, DX5_init_80, DX5_init_83, DX5_init_84, DX5_init_87, DX5_init_88, DX5_init_90, DX5_init_93, DX5_init_94, DX5_init_97, DX5_init_98, DX5_init_99, DX5_init_100, DX5_init_103, DX5_init_104, DX5_init_105, DX5_init_106, DX5_init_107, DX5_init_108, DX5_init_109, DX5_init_110, DX5_init_113, DX5_init_114, DX5_init_116, DX5_init_119, DX5_init_120, DX5_init_123, DX5_init_124, DX5_init_125, DX5_init_126, DX5_init_129, DX5_init_130, DX5_init_131, DX5_init_132, DX5_init_133, DX5_init_134, DX5_init_135, DX5_init_136, DX5_init_139, DX5_init_140, DX5_init_141, DX5_init_142, DX5_init_145, DX5_init_146, DX5_init_148, DX5_init_151, DX5_init_152, DX5_init_155, DX5_init_156, DX5_init_158, DX5_init_159, DX5_init_160, DX5_init_161, DX5_init_162, DX5_init_165, DX5_init_168, DX5_init_171, ce_obj, ce_X5_cast, ↓ct_X5_cast, ycl_X5_cast, cX_nil mhh_X5_init]
  simp only [km11, Nat.reduceEqDiff, Nat.reduceLT, Nat.reduceAdd, true_and, false_implies, implies_true, and_true, nmOf_6]
  obtain ⟨g12, hg12⟩ : ∃ g, g = setR (newA g11 a11 21 3072) 6 11 m (some a11) := ⟨_, rfl⟩
  rw [← hg12]
  replace q12 : MAk h g12 m _ 12 := hg12 ▸ q12
  refine Wp.z ?_
  revert q12
  generalize (fun k => if k = 11 then a11 else _ : Nat → Nat) = B
  intro q12
  obtain ⟨f1, f0, f2, f3, f4, f5⟩ := q12
  have hM : MD g12 m B (SI 0) := by
    refine ⟨⟨f1, fun k h1 h2 => ⟨(f4 k h1 (by omega)).1, (f4 k h1 (by omega)).2.1, (f4 k h1 (by omega)).2.2.1⟩, fun i j h1 h2 h3 h4 h5 => f5 i j h1 (by omega) h3 (by omega) h5⟩, (f3 _ _).trans (hf 1 (by omega)), (f3 _ _).trans (hf 2 (by omega)), (f3 _ _).trans (hf 3 (by omega)), (f3 _ _).trans (hf 4 (by omega)), fun b q hb => absurd hb (Nat.not_lt_zero b), fun b q hb => absurd hb (Nat.not_lt_zero b), fun r q hr hq => ?_, fun o ho => ?_, fun t ht => ?_⟩
    · rw [(f4 7 (by omega) (by omega)).2.2.2.2]
      have e : (SI 0).sn r q = if r < 0 then sun0 r q else 0 := rfl
      rw [e, if_neg (by omega)]
      rfl
    · rw [(f4 8 (by omega) (by omega)).2.2.2.2]
      rfl
    · rw [(f4 9 (by omega) (by omega)).2.2.2.2]
      rfl
  exact lp_X5_init65 (A := B) (h0 := g12) G (fun h' k1 k2 k3 k4 => hq h' B (f2.nw k1 (fun a ha => by
    rcases ha with ha | ⟨k, h1, rfl⟩
    · exact Or.inl ha
    · exact Or.inr (f4 k h1.1 (by omega)).2.2.2.1)) (fun k h1 h2 => (f4 k h1 (by omega)).2.2.2.1) k2 k3 k4) 12 0 (by omega) g12 Fr.rf ((f3 _ _).trans (hf 0 (by omega))) hM (fun j hj => by omega)
