/-! ===== the law's square: its constructor, its end ===== -/
set_option maxRecDepth 100000 in
set_option maxHeartbeats 4000000 in
theorem tl_X5_init158 (G : GT) {T : TT} {S : SS} (hW : WF S) {m : Nat} {g : Hp} {Q : Option Value → Hp → Prop} {QX : String → Hp → Prop} {o1 : Option Value} {b1 b2 : Nat} (e : m = T 0 0) (h1 : 3 ≤ b1) (h2 : 768 ≤ b2) (hS : SQ g T S) (hz : ∀ g', Fr g g' (YR T) → Q none g') :
    Wp G MX5_init true 1 Q QX 158 [some (.ref m), o1] [] g (b1, b2) := by
  subst e
  have k0 := hS.1.1
  refine wpW (cs := [(1, ce_obj), (34, ce_X5_cast G T S)]) (stop := []) (n := 200) (env_cons (ce_objOK (by decide +kernel)) (env_cons (ceV (by decide +kernel) ⟨by decide, by decide, by decide +kernel⟩ (by decide) rfl (ok_X5_cast G G T S hW)) (env_nil0 (env_hh rfl)))) ?_
  simp only [↓wpN_S, ↓step_u, ↓stC_s, stC_s, ↓stF_u, stF_u, ↓stepI, lenI, ↓kN_u, isS, ↓gI_0, ↓gI_S, ↓gL_0, ↓gL_S, ↓gD_0, ↓gD_S, ↓gR_0, ↓gR_S, ↓sI_c, ↓sL_c, ↓sD_c, ↓sR_c, ↓s1_r, ↓s1_i, ↓vR_r, ↓vR_n, ↓s0_n, s0_n, ↓oR_u, ↓sP_u, ↓sPa_0, ↓sPa_S, ↓lkC_c, ↓callK_u, ↓cQ_s, ↓cQ_n, putL, putW, clr, kil, catS, catN, refF, booF, finF, nF, nmOf_0, nmOf_1, nmOf_2, nmOf_3, nmOf_4, nmOf_5, nmOf_6, nmOf_50, nmOf_51, nmOf_52, ↓reduceIte, reduceIte, Bool.false_eq_true, eq_self, true_or, or_true, true_and, and_true, false_or, or_false, Nat.reduceAdd, Nat.reduceSub, Nat.reduceEqDiff, Nat.reduceLT, Nat.reduceLeDiff, reduceCtorEq, true_implies, List.length_cons, List.length_nil, List.replicate, List.cons_append, List.nil_append, mrt_X5_init, mhh_X5_init, mow_X5_init, mnl_X5_init, DX5_init_0, DX5_init_1, DX5_init_4, DX5_init_5, DX5_init_7, DX5_init_10, DX5_init_13, DX5_init_14, DX5_init_15, DX5_init_18, DX5_init_21, DX5_init_22, DX5_init_23, DX5_init_26, DX5_init_29, DX5_init_30, DX5_init_32, DX5_init_34, DX5_init_37, DX5_init_38, DX5_init_40, DX5_init_42, DX5_init_45, DX5_init_46, DX5_init_48, DX5_init_51, DX5_init_55, DX5_init_58, DX5_init_59, DX5_init_61, DX5_init_64, DX5_init_68, DX5_init_71, DX5_init_72, DX5_init_73, DX5_init_74, DX5_init_76, DX5_init_79, DX5_init_80, DX5_init_83, DX5_init_84, DX5_init_85, DX5_init_86, DX5_init_89, DX5_init_90, DX5_init_92, DX5_init_93, DX5_init_94, DX5_init_95, DX5_init_96, DX5_init_97, DX5_init_98, DX5_init_99, DX5_init_100, DX5_init_101, DX5_init_102, DX5_init_103, DX5_init_104, DX5_init_105, DX5_init_106, DX5_init_109, DX5_init_110, DX5_init_112, DX5_init_115, DX5_init_116, DX5_init_118, DX5_init_119, DX5_init_120, DX5_init_121, DX5_init_122, DX5_init_123, DX5_init_124, DX5_init_125, DX5_init_126, DX5_init_127, DX5_init_128, DX5_init_129, DX5_init_130, DX5_init_133, DX5_init_134, DX5_init_136, DX5_init_137, DX5_init_138, DX5_init_139, DX5_init_140, DX5_init_141, DX5_init_142, DX5_init_143, DX5_init_144, DX5_init_145, DX5_init_146, DX5_init_147, DX5_init_149, DX5_init_150, DX5_init_151, DX5_init_152, DX5_init_155, DX5_init_158, DX5_init_159, DX5_init_162, ce_obj, ce_X5_cast, ↓ct_X5_cast, ycl_X5_cast, cX_nil mhh_X5_init]
  simp (disch := omega) only [i32_lit, i32_neg, i32_add, i32_mul, i32_sub, i32_nI, i32_lt, i32_le, i32_eq, inR_i, i32_clamp, i32_div, i32_max, i32_min, ite_max, ite_min, b2i_0, b2i_1, b2i_01, i32_toInt, tn_i, Int.toNat_natCast, em_t, true_and, and_true, Int.reduceToNat, Int.reduceLE, Int.reduceLT, Int.reduceAdd, Int.reduceMul, Int.reduceSub, Int.reduceNeg, Int.reduceEq, true_implies, not_true_eq_false, false_implies, not_false_eq_true, k0, nmOf_6, Nat.reduceSub, ne_eq, Nat.reduceEqDiff, not_false_eq_true, Nat.reduceLT]
  exact ⟨by omega, by omega, hS, hz⟩
def TI (m s1 s2 s3 s6 s7 : Nat) (B B6 B7 : Nat → Nat) : TT
  | 0, 0 => m
  | 0, 1 => s1
  | 0, 2 => s2
  | 0, 3 => s3
  | 0, 4 => s6
  | 0, _ => s7
  | 1, i => B i
  | 4, i => B6 i
  | _, i => B7 i
set_option maxRecDepth 100000 in
set_option maxHeartbeats 4000000 in
theorem ok_X5_init (G : GT) (G : GT) : OKm G yX5_init MX5_init 1 60 8000 (ct_X5_init G) := by
  refine mkOK (ini := true) (by decide) rfl (by first | exact fun _ => rfl | (intro hh; cases hh)) (fun As h Q QX hc => ?_)
  replace hc := sR_e hc; obtain ⟨m, r, rfl, hc⟩ := hc
  replace hc := s0_e hc; obtain ⟨rfl, hc⟩ := hc
  obtain ⟨hm, hq⟩ := hc
  obtain ⟨T, S, hW⟩ : ∃ (T : TT) (S : SS), WF S := ⟨fun _ _ => 0, SI 12, WF_SI 12⟩
  refine ⟨Nat.le_of_ble_eq_true rfl, ?_⟩
  simp only [ent, entL, catN, List.length_cons, List.length_nil, List.replicate, List.cons_append, List.nil_append, reduceIte, Nat.reduceEqDiff,  Nat.reduceAdd, Nat.reduceSub, mnl_X5_init]
  refine wpW (cs := [(1, ce_obj), (34, ce_X5_cast G T S)]) (stop := [4]) (n := 200) (env_cons (ce_objOK (by decide +kernel)) (env_cons (ceV (by decide +kernel) ⟨by decide, by decide, by decide +kernel⟩ (by decide) rfl (ok_X5_cast G G T S hW)) (env_nil0 (env_hh rfl)))) ?_
  simp only [↓wpN_S, ↓step_u, ↓stC_s, stC_s, ↓stF_u, stF_u, ↓stepI, lenI, ↓kN_u, isS, ↓gI_0, ↓gI_S, ↓gL_0, ↓gL_S, ↓gD_0, ↓gD_S, ↓gR_0, ↓gR_S, ↓sI_c, ↓sL_c, ↓sD_c, ↓sR_c, ↓s1_r, ↓s1_i, ↓vR_r, ↓vR_n, ↓s0_n, s0_n, ↓oR_u, ↓sP_u, ↓sPa_0, ↓sPa_S, ↓lkC_c, ↓callK_u, ↓cQ_s, ↓cQ_n, putL, putW, clr, kil, catS, catN, refF, booF, finF, nF, nmOf_0, nmOf_1, nmOf_2, nmOf_3, nmOf_4, nmOf_5, nmOf_6, nmOf_50, nmOf_51, nmOf_52, ↓reduceIte, reduceIte, Bool.false_eq_true, eq_self, true_or, or_true, true_and, and_true, false_or, or_false, Nat.reduceAdd, Nat.reduceSub, Nat.reduceEqDiff, Nat.reduceLT, Nat.reduceLeDiff, reduceCtorEq, true_implies, List.length_cons, List.length_nil, List.replicate, List.cons_append, List.nil_append, mrt_X5_init, mhh_X5_init, mow_X5_init, mnl_X5_init, DX5_init_0, DX5_init_1, DX5_init_4, DX5_init_5, DX5_init_7, DX5_init_10, DX5_init_13, DX5_init_14, DX5_init_15, DX5_init_18, DX5_init_21, DX5_init_22, DX5_init_23, DX5_init_26, DX5_init_29, DX5_init_30, DX5_init_32, DX5_init_34, DX5_init_37, DX5_init_38, DX5_init_40, DX5_init_42, DX5_init_45, DX5_init_46, DX5_init_48, DX5_init_51, DX5_init_55, DX5_init_58, DX5_init_59, DX5_init_61, DX5_init_64, DX5_init_68, DX5_init_71, DX5_init_72, DX5_init_73, DX5_init_74, DX5_init_76, DX5_init_79, DX5_init_80, DX5_init_83, DX5_init_84, DX5_init_85, DX5_init_86, DX5_init_89, DX5_init_90, DX5_init_92, DX5_init_93, DX5_init_94, DX5_init_95, DX5_init_96, DX5_init_97, DX5_init_98, DX5_init_99, DX5_init_100, DX5_init_101, DX5_init_102, DX5_init_103, DX5_init_104, DX5_init_105, DX5_init_106, DX5_init_109, DX5_init_110, DX5_init_112, DX5_init_115, DX5_init_116, DX5_init_118, DX5_init_119, DX5_init_120, DX5_init_121, DX5_init_122, DX5_init_123, DX5_init_124, DX5_init_125, DX5_init_126, DX5_init_127, DX5_init_128, DX5_init_129, DX5_init_130, DX5_init_133, DX5_init_134, DX5_init_136, DX5_init_137, DX5_init_138, DX5_init_139, DX5_init_140, DX5_init_141, DX5_init_142, DX5_init_143, DX5_init_144, DX5_init_145, DX5_init_146, DX5_init_147, DX5_init_149, DX5_init_150, DX5_init_151, DX5_init_152, DX5_init_155, DX5_init_158, DX5_init_159, DX5_init_162, ce_obj, ce_X5_cast, ↓ct_X5_cast, ycl_X5_cast, cX_nil mhh_X5_init]
  refine st_X5_init4 (T := T) G hW hm (by omega) (by omega) (fun g1 s1 f1 k1 e1 l1 => ?_)
  refine st_X5_init13 (T := T) G hW k1 (by omega) (by omega) (fun g2 s2 f2 k2 e2 l2 => ?_)
  refine st_X5_init21 (T := T) G hW k2 (by omega) (by omega) (fun g3 s3 f3 k3 e3 l3 => ?_)
  refine st_X5_init29 (T := T) G hW k3 (by omega) (by omega) (fun g4 s4 f4 k4 e4 l4 => ?_)
  refine st_X5_init37 (T := T) G hW k4 (by omega) (by omega) (fun g5 s5 f5 k5 e5 l5 => ?_)
  refine st_X5_init45 (T := T) G hW k5 (by omega) (by omega) (fun g6 s6 B6 f6 k6 e6 n6 => ?_)
  refine st_X5_init58 (T := T) G hW k6 (by omega) (by omega) (fun g7 s7 B7 f7 k7 e7 n7 => ?_)
  have F12 := f2.1
  have F17 : Fr g1 g7 (fun a => a = m) := ((((f2.1.tr f3.1).tr f4.1).tr f5.1).tr f6.1).tr f7.1
  have F27 : Fr g2 g7 (fun a => a = m) := (((f3.1.tr f4.1).tr f5.1).tr f6.1).tr f7.1
  have F37 : Fr g3 g7 (fun a => a = m) := ((f4.1.tr f5.1).tr f6.1).tr f7.1
  have F67 : Fr g6 g7 (fun a => a = m) := f7.1
  have F15 : Fr g1 g5 (fun a => a = m) := ((f2.1.tr f3.1).tr f4.1).tr f5.1
  have F16 : Fr g1 g6 (fun a => a = m) := F15.tr f6.1
  have F01 : Fr h g1 (fun a => a = m) := f1.1
  have F07 : Fr h g7 (fun a => a = m) := f1.1.tr F17
  have F06 : Fr h g6 (fun a => a = m) := f1.1.tr F16
  have F05 : Fr h g5 (fun a => a = m) := f1.1.tr F15
  have hs1 : kd g7 s1 = 25 := (F17 s1 (by omega)).1.1.trans e1
  have hl1 : ln g7 s1 = 12 := (F17 s1 (by omega)).1.2.trans l1
  have q1 : fr g7 6 2 m = some s1 := (f7.2.1 2 (by omega)).trans ((f6.2.1 2 (by omega)).trans ((f5.2.1 2 (by omega)).trans ((f4.2.1 2 (by omega)).trans ((f3.2.1 2 (by omega)).trans ((f2.2.1 2 (by omega)).trans f1.2.2.1)))))
  have q2 : fr g7 6 3 m = some s2 := (f7.2.1 3 (by omega)).trans ((f6.2.1 3 (by omega)).trans ((f5.2.1 3 (by omega)).trans ((f4.2.1 3 (by omega)).trans ((f3.2.1 3 (by omega)).trans f2.2.2.1))))
  have q3 : fr g7 6 4 m = some s3 := (f7.2.1 4 (by omega)).trans ((f6.2.1 4 (by omega)).trans ((f5.2.1 4 (by omega)).trans ((f4.2.1 4 (by omega)).trans f3.2.2.1)))
  have q6 : fr g7 6 7 m = some s6 := (f7.2.1 7 (by omega)).trans f6.2.2.1
  have q7 : fr g7 6 8 m = some s7 := f7.2.2.1
  have z1 : kd h s1 = 0 := f1.2.2.2
  have z2 : kd h s2 = 0 := fresh_fr F01 f2.2.2.2
  have z3 : kd h s3 = 0 := fresh_fr (F01.tr f2.1) f3.2.2.2
  have z6 : kd h s6 = 0 := fresh_fr F05 f6.2.2.2
  have z7 : kd h s7 = 0 := fresh_fr F06 f7.2.2.2
  have y6 : ∀ i, i < 12 → kd h (B6 i) = 0 := fun i hi => fresh_fr F05 (n6 i hi)
  have y7 : ∀ i, i < 12 → kd h (B7 i) = 0 := fun i hi => fresh_fr F06 (n7 i hi)
  have hms : m ≠ s1 := fun z => by rw [z] at hm; omega
  have a1 : s2 ≠ s1 := fun z => by have := f2.2.2.2; rw [z] at this; omega
  have a2 : s3 ≠ s1 := fun z => by have := f3.2.2.2; rw [z] at this; have := (F12 s1 (by omega)).1.1; omega
  have a3 : s3 ≠ s2 := fun z => by have := f3.2.2.2; rw [z] at this; omega
  have a4 : s6 ≠ s1 := fun z => by have := f6.2.2.2; rw [z] at this; have := (F15 s1 (by omega)).1.1; omega
  have F25 : Fr g2 g5 (fun a => a = m) := (f3.1.tr f4.1).tr f5.1
  have F35 : Fr g3 g5 (fun a => a = m) := f4.1.tr f5.1
  have a5 : s6 ≠ s2 := fun z => by have := f6.2.2.2; rw [z] at this; have := (F25 s2 (by omega)).1.1; omega
  have a6 : s6 ≠ s3 := fun z => by have := f6.2.2.2; rw [z] at this; have := (F35 s3 (by omega)).1.1; omega
  have a7 : s7 ≠ s1 := fun z => by have := f7.2.2.2; rw [z] at this; have := (F16 s1 (by omega)).1.1; omega
  have a8 : s7 ≠ s2 := fun z => by have := f7.2.2.2; rw [z] at this; have := ((F25.tr f6.1) s2 (by omega)).1.1; omega
  have a9 : s7 ≠ s3 := fun z => by have := f7.2.2.2; rw [z] at this; have := ((F35.tr f6.1) s3 (by omega)).1.1; omega
  have b0 : s7 ≠ s6 := fun z => by have := f7.2.2.2; rw [z] at this; have := e6.1; omega
  have b2' : m ≠ s2 := fun z => by rw [z] at hm; omega
  have b3' : m ≠ s3 := fun z => by rw [z] at hm; omega
  have b6' : m ≠ s6 := fun z => by rw [z] at hm; omega
  have b7' : m ≠ s7 := fun z => by rw [z] at hm; omega
  have hdis : ∀ B, ∀ i j, i ≤ 5 → j ≤ 5 → TI m s1 s2 s3 s6 s7 B B6 B7 0 i = TI m s1 s2 s3 s6 s7 B B6 B7 0 j → i = j := fun B i j hi hj => by
    have h0 : TI m s1 s2 s3 s6 s7 B B6 B7 0 0 = m := rfl
    have h1 : TI m s1 s2 s3 s6 s7 B B6 B7 0 1 = s1 := rfl
    have h2 : TI m s1 s2 s3 s6 s7 B B6 B7 0 2 = s2 := rfl
    have h3 : TI m s1 s2 s3 s6 s7 B B6 B7 0 3 = s3 := rfl
    have h4 : TI m s1 s2 s3 s6 s7 B B6 B7 0 4 = s6 := rfl
    have h5 : TI m s1 s2 s3 s6 s7 B B6 B7 0 5 = s7 := rfl
    rcases (show i = 0 ∨ i = 1 ∨ i = 2 ∨ i = 3 ∨ i = 4 ∨ i = 5 by omega) with rfl | rfl | rfl | rfl | rfl | rfl <;> rcases (show j = 0 ∨ j = 1 ∨ j = 2 ∨ j = 3 ∨ j = 4 ∨ j = 5 by omega) with rfl | rfl | rfl | rfl | rfl | rfl <;> simp only [h0, h1, h2, h3, h4, h5] <;> first | (intro _; rfl) | (intro _; trivial) | (intro z; exact absurd z (by assumption)) | (intro z; exact absurd z.symm (by assumption))
  have hz : ∀ g8 B, SR g7 g8 s1 12 B → ∀ b1 b2 : Nat, 3 ≤ b1 → 768 ≤ b2 → ∀ o1, Wp G MX5_init true 1 Q QX 158 [some (.ref m), o1] [] g8 (b1, b2) := fun g8 B H b1 b2 c1 c2 o1 => by
    obtain ⟨fs, hj⟩ := H
    have F08 : Fr h g8 (fun a => a = m) := F07.nw fs (fun a ha => Or.inr (ha ▸ z1))
    have km := (fs m (by omega)).2 hms
    have F28 : Fr g2 g8 (fun a => a = m ∨ a = s1) := (F27.up (fun _ => Or.inl)).tr (fs.up (fun _ => Or.inr))
    have F38 : Fr g3 g8 (fun a => a = m ∨ a = s1) := (F37.up (fun _ => Or.inl)).tr (fs.up (fun _ => Or.inr))
    have F68 : Fr g6 g8 (fun a => a = m ∨ a = s1) := (F67.up (fun _ => Or.inl)).tr (fs.up (fun _ => Or.inr))
    have x6 : ¬ (s6 = m ∨ s6 = s1) := fun z => by
      rcases z with z | z
      · rw [z] at z6; omega
      · have := f6.2.2.2
        rw [z] at this
        have := (F15 s1 (by omega)).1.1; omega
    have x7 : ¬ (s7 = s1) := fun z => by
      have := f7.2.2.2
      rw [z] at this
      have := (F16 s1 (by omega)).1.1; omega
    have hS : SQ g8 (TI m s1 s2 s3 s6 s7 B B6 B7) (SI 12) := by
      refine ⟨⟨(fs m (by omega)).1.1.trans k7, (km.2.1 _ _).trans q1, (km.2.1 _ _).trans q2, (km.2.1 _ _).trans q3, (km.2.1 _ _).trans q6, (km.2.1 _ _).trans q7⟩, ⟨⟨(fs s1 (by omega)).1.1.trans hs1, (fs s1 (by omega)).1.2.trans hl1, fun i hi => ⟨(hj i hi).1, (hj i hi).2.1, (hj i hi).2.2.1⟩⟩, ⟨(F28 s2 (by omega)).1.1.trans e2, (F28 s2 (by omega)).1.2.trans l2, fun i hi => absurd hi (Nat.not_lt_zero i)⟩, ⟨(F38 s3 (by omega)).1.1.trans e3, (F38 s3 (by omega)).1.2.trans l3, fun i hi => absurd hi (Nat.not_lt_zero i)⟩, e6.fr F68 x6, e7.fr fs x7⟩, fun r hr => ?_, fun b hb => absurd hb (Nat.not_lt_zero b), fun r i hr hi => ⟨fun z => ?_, fun z => ?_⟩, fun b i hb => absurd hb (Nat.not_lt_zero b), hdis B⟩
      · have e : ∀ k, (SI 12).sn r k = sun0 r k := fun k => if_pos hr
        rw [e, e, e]
        exact (hj r hr).2.2.2.1
      · have a1 := (hj r hr).2.2.2.2
        have a2 := (F67 (B6 i) (by rw [(e6.2.2 i hi).2.1]; omega)).1.1
        have a3 := (e6.2.2 i hi).2.1
        have z' : B r = B6 i := z
        rw [z'] at a1
        omega
      · have a1 := (hj r hr).2.2.2.2
        have a3 := (e7.2.2 i hi).2.1
        have z' : B r = B7 i := z
        rw [z'] at a1
        omega
    have yz : ∀ a, YR (TI m s1 s2 s3 s6 s7 B B6 B7) a → kd h a = 0 := fun a ha => by
      obtain ⟨r, hr, z | z⟩ := ha
      · rw [show a = B6 r from z]; exact y6 r hr
      · rw [show a = B7 r from z]; exact y7 r hr
    refine tl_X5_init158 (T := TI m s1 s2 s3 s6 s7 B B6 B7) G (WF_SI 12) rfl c1 c2 hS (fun g9 f9 => ?_)
    refine hq g9 (TI m s1 s2 s3 s6 s7 B B6 B7) (F08.nw f9 (fun a ha => Or.inr (yz a ha))) rfl (fun a ha => ?_) (hS.yr f9)
    rcases ha with (⟨i, hi, rfl⟩ | ⟨r, hr, rfl⟩ | ⟨b, hb, -⟩) | ha
    · rcases (show i = 0 ∨ i = 1 ∨ i = 2 ∨ i = 3 ∨ i = 4 ∨ i = 5 by omega) with rfl | rfl | rfl | rfl | rfl | rfl
      · exact Or.inl rfl
      · exact Or.inr z1
      · exact Or.inr z2
      · exact Or.inr z3
      · exact Or.inr z6
      · exact Or.inr z7
    · exact Or.inr (fresh_fr F07 (hj r hr).2.2.2.2)
    · exact absurd hb (Nat.not_lt_zero b)
    · exact Or.inr (yz a ha)
  have hl := lp_X5_init73 (T := T) (g := g7) (g0 := g7) G hW hs1 hl1 k7 q1 hz 12 0 (by omega) g7 (fun _ => 0) ⟨Fr.rf, fun j hj => by omega⟩
  refine wpW (cs := [(1, ce_obj), (34, ce_X5_cast G T S)]) (stop := [73]) (n := 200) (env_cons (ce_objOK (by decide +kernel)) (env_cons (ceV (by decide +kernel) ⟨by decide, by decide, by decide +kernel⟩ (by decide) rfl (ok_X5_cast G G T S hW)) (env_nil0 (env_hh rfl)))) ?_
  simp only [↓wpN_S, ↓step_u, ↓stC_s, stC_s, ↓stF_u, stF_u, ↓stepI, lenI, ↓kN_u, isS, ↓gI_0, ↓gI_S, ↓gL_0, ↓gL_S, ↓gD_0, ↓gD_S, ↓gR_0, ↓gR_S, ↓sI_c, ↓sL_c, ↓sD_c, ↓sR_c, ↓s1_r, ↓s1_i, ↓vR_r, ↓vR_n, ↓s0_n, s0_n, ↓oR_u, ↓sP_u, ↓sPa_0, ↓sPa_S, ↓lkC_c, ↓callK_u, ↓cQ_s, ↓cQ_n, putL, putW, clr, kil, catS, catN, refF, booF, finF, nF, nmOf_0, nmOf_1, nmOf_2, nmOf_3, nmOf_4, nmOf_5, nmOf_6, nmOf_50, nmOf_51, nmOf_52, ↓reduceIte, reduceIte, Bool.false_eq_true, eq_self, true_or, or_true, true_and, and_true, false_or, or_false, Nat.reduceAdd, Nat.reduceSub, Nat.reduceEqDiff, Nat.reduceLT, Nat.reduceLeDiff, reduceCtorEq, true_implies, List.length_cons, List.length_nil, List.replicate, List.cons_append, List.nil_append, mrt_X5_init, mhh_X5_init, mow_X5_init, mnl_X5_init, DX5_init_0, DX5_init_1, DX5_init_4, DX5_init_5, DX5_init_7, DX5_init_10, DX5_init_13, DX5_init_14, DX5_init_15, DX5_init_18, DX5_init_21, DX5_init_22, DX5_init_23, DX5_init_26, DX5_init_29, DX5_init_30, DX5_init_32, DX5_init_34, DX5_init_37, DX5_init_38, DX5_init_40, DX5_init_42, DX5_init_45, DX5_init_46, DX5_init_48, DX5_init_51, DX5_init_55, DX5_init_58, DX5_init_59, DX5_init_61, DX5_init_64, DX5_init_68, DX5_init_71, DX5_init_72, DX5_init_73, DX5_init_74, DX5_init_76, DX5_init_79, DX5_init_80, DX5_init_83, DX5_init_84, DX5_init_85, DX5_init_86, DX5_init_89, DX5_init_90, DX5_init_92, DX5_init_93, DX5_init_94, DX5_init_95, DX5_init_96, DX5_init_97, DX5_init_98, DX5_init_99, DX5_init_100, DX5_init_101, DX5_init_102, DX5_init_103, DX5_init_104, DX5_init_105, DX5_init_106, DX5_init_109, DX5_init_110, DX5_init_112, DX5_init_115, DX5_init_116, DX5_init_118, DX5_init_119, DX5_init_120, DX5_init_121, DX5_init_122, DX5_init_123, DX5_init_124, DX5_init_125, DX5_init_126, DX5_init_127, DX5_init_128, DX5_init_129, DX5_init_130, DX5_init_133, DX5_init_134, DX5_init_136, DX5_init_137, DX5_init_138, DX5_init_139, DX5_init_140, DX5_init_141, DX5_init_142, DX5_init_143, DX5_init_144, DX5_init_145, DX5_init_146, DX5_init_147, DX5_init_149, DX5_init_150, DX5_init_151, DX5_init_152, DX5_init_155, DX5_init_158, DX5_init_159, DX5_init_162, ce_obj, ce_X5_cast, ↓ct_X5_cast, ycl_X5_cast, cX_nil mhh_X5_init]
  exact hl _ _ (by omega) (by omega)
