/-! ===== the class: setCovered ===== -/
/-- a building's place, as its fields say -/
def BP (h : Hp) (a : Nat) (x y w d : Int) : Prop := kd h a = 2 ∧ fi h 1 1 a = i32 x ∧ fi h 1 2 a = i32 y ∧ fi h 1 3 a = i32 w ∧ fi h 1 4 a = i32 d
def BPn (x y w d : Int) : Prop := (0 ≤ x ∧ 1 ≤ w ∧ w ≤ 6 ∧ x + w ≤ 16) ∧ (0 ≤ y ∧ 1 ≤ d ∧ d ≤ 6 ∧ y + d ≤ 16)
/-- cell c lies there; it is one of those behind which the work stands -/
abbrev inP (x y w d : Int) (c : Nat) : Prop := x ≤ xC c ∧ xC c < x + w ∧ y ≤ yC c ∧ yC c < y + d
abbrev inQ (x y w d cy cx : Int) (c : Nat) : Prop := inP x y w d c ∧ (yC c < cy ∨ yC c = cy ∧ xC c < cx)
/-- only one row has changed -/
def SF (h h' : Hp) (cv : Nat) : Prop := (∀ b, kd h' b = kd h b) ∧ (∀ c k b, fi h' c k b = fi h c k b) ∧ (∀ c k b, fr h' c k b = fr h c k b) ∧ (∀ b, ln h' b = ln h b) ∧ (∀ b i, b ≠ cv → ia h' b i = ia h b i) ∧ (∀ b i, ja h' b i = ja h b i) ∧ (∀ b i, ra h' b i = ra h b i)
theorem SF.rf {h : Hp} {cv : Nat} : SF h h cv := ⟨fun _ => rfl, fun _ _ _ => rfl, fun _ _ _ => rfl, fun _ => rfl, fun _ _ _ => rfl, fun _ _ => rfl, fun _ _ => rfl⟩
theorem SF.st {h h' : Hp} {cv i : Nat} {v : Int32} (f : SF h h' cv) : SF h (setIA h' cv i v) cv := ⟨f.1, f.2.1, f.2.2.1, f.2.2.2.1, fun b j hb => by rw [ia_setIA, if_neg (fun z => hb z.1)]; exact f.2.2.2.2.1 b j hb, f.2.2.2.2.2.1, f.2.2.2.2.2.2⟩
def ct_X3_setCovered : Ct := fun As h Q _ => sR As fun q r => sR r fun a r => sI r fun v r => s0 r (∃ cv x y w d, kd h q = 5 ∧ fr h 4 1 q = some cv ∧ kd h cv = 22 ∧ ln h cv = 256 ∧ BP h a x y w d ∧ BPn x y w d ∧ (v = i32 0 ∨ v = i32 1) ∧ ∀ h', SF h h' cv → (∀ c, c < 256 → ia h' cv c = if inP x y w d c then v else ia h cv c) → Q none h')
def ce_X3_setCovered : CE := (0, yX3_setCovered, MX3_setCovered, 2, 0, 0, 0, ct_X3_setCovered)
set_option maxRecDepth 100000 in
set_option maxHeartbeats 4000000 in
theorem lp_X3_setCovered24 (G : GT) {h0 : Hp} {q a cv : Nat} {x y w d cy : Int} {v : Int32} {Q : Option Value → Hp → Prop} {QX : String → Hp → Prop} (hk : kd h0 q = 5) (hr : fr h0 4 1 q = some cv) (hc : kd h0 cv = 22) (hl : ln h0 cv = 256) (hB : BP h0 a x y w d) (hn : BPn x y w d) (hv : v = i32 0 ∨ v = i32 1) (hcy : y ≤ cy ∧ cy < y + d)
    (hz : ∀ h, SF h0 h cv → (∀ c, c < 256 → ia h cv c = if inQ x y w d (cy + 1) x c then v else ia h0 cv c) → ∀ o4 o5, Wp G MX3_setCovered false 0 Q QX 5 [some (.ref q), some (.ref a), some (.int v), some (.int (i32 (cy + 1))), o4, o5] [] h (0, 0)) :
    ∀ m : Nat, ∀ cx : Int, cx + m = x + w → x ≤ cx → ∀ h, SF h0 h cv → (∀ c, c < 256 → ia h cv c = if inQ x y w d cy cx c then v else ia h0 cv c) → ∀ o5, Wp G MX3_setCovered false 0 Q QX 24 [some (.ref q), some (.ref a), some (.int v), some (.int (i32 cy)), some (.int (i32 cx)), o5] [] h (0, 0) := by
  obtain ⟨⟨x1, x2, x3, x4⟩, ⟨y1, y2, y3, y4⟩⟩ := hn
  intro m
  induction m with
  | zero =>
    intro cx hx hx2 h f hi o5
    have hz2 := hz h f (fun c hc => by
      rw [hi c hc]
      have e : inQ x y w d cy cx c ↔ inQ x y w d (cy + 1) x c := by omega
      by_cases z : inQ x y w d cy cx c
      · rw [if_pos z, if_pos (e.mp z)]
      · rw [if_neg z, if_neg (fun t => z (e.mpr t))])
    obtain ⟨b0, b1, b2, b3, b4⟩ := hB
    have k0 := (f.1 a).trans b0
    have k1 := (f.2.1 1 1 a).trans b1
    have k3 := (f.2.1 1 3 a).trans b3
    refine wpW (cs := []) (stop := [5, 24]) (n := 200) (env_nil0 (env_hh rfl)) ?_
    simp only [↓wpN_S, ↓step_u, ↓stC_s, stC_s, ↓stF_u, stF_u, ↓stepI, lenI, ↓kN_u, isS, ↓gI_0, ↓gI_S, ↓gL_0, ↓gL_S, ↓gD_0, ↓gD_S, ↓gR_0, ↓gR_S, ↓sI_c, ↓sL_c, ↓sD_c, ↓sR_c, ↓s1_r, ↓s1_i, ↓vR_r, ↓vR_n, ↓s0_n, s0_n, ↓oR_u, ↓sP_u, ↓sPa_0, ↓sPa_S, ↓lkC_c, ↓callK_u, ↓cQ_s, ↓cQ_n, putL, putW, clr, kil, catS, catN, refF, booF, finF, nF, nmOf_0, nmOf_1, nmOf_2, nmOf_3, nmOf_4, nmOf_5, nmOf_6, nmOf_50, nmOf_51, nmOf_52, ↓reduceIte, reduceIte, Bool.false_eq_true, eq_self, true_or, or_true, true_and, and_true, false_or, or_false, Nat.reduceAdd, Nat.reduceSub, Nat.reduceEqDiff, Nat.reduceLT, Nat.reduceLeDiff, reduceCtorEq, true_implies, List.length_cons, List.length_nil, List.replicate, List.cons_append, List.nil_append, mrt_X3_setCovered, mhh_X3_setCovered, mow_X3_setCovered, mnl_X3_setCovered, DX3_setCovered_0, DX3_setCovered_1, DX3_setCovered_4, DX3_setCovered_5, DX3_setCovered_6, DX3_setCovered_7, DX3_setCovered_10, DX3_setCovered_11, DX3_setCovered_14, DX3_setCovered_15, DX3_setCovered_18, DX3_setCovered_19, DX3_setCovered_22, DX3_setCovered_24, DX3_setCovered_26, DX3_setCovered_27, DX3_setCovered_30, DX3_setCovered_31, DX3_setCovered_34, DX3_setCovered_35, DX3_setCovered_38, DX3_setCovered_40, DX3_setCovered_42, DX3_setCovered_43, DX3_setCovered_44, DX3_setCovered_45, DX3_setCovered_47, DX3_setCovered_49, DX3_setCovered_52, DX3_setCovered_54, DX3_setCovered_55, DX3_setCovered_58, DX3_setCovered_59, DX3_setCovered_62, DX3_setCovered_63, DX3_setCovered_66, DX3_setCovered_68, DX3_setCovered_69, DX3_setCovered_70, DX3_setCovered_73, DX3_setCovered_76, DX3_setCovered_79, DX3_setCovered_82]
    simp (disch := omega) only [i32_lit, i32_neg, i32_add, i32_mul, i32_sub, i32_nI, i32_lt, i32_le, i32_eq, inR_i, i32_clamp, i32_div, i32_max, i32_min, ite_max, ite_min, b2i_0, b2i_1, b2i_01, i32_toInt, tn_i, Int.toNat_natCast, em_t, true_and, and_true, Int.reduceToNat, Int.reduceLE, Int.reduceLT, Int.reduceAdd, Int.reduceMul, Int.reduceSub, Int.reduceNeg, Int.reduceEq, true_implies, not_true_eq_false, false_implies, not_false_eq_true, k0, k1, k3]
    exact ⟨fun _ => hz2 _ _, fun z => by omega⟩
  | succ m ih =>
    intro cx hx hx2 h f hi o5
    obtain ⟨c0, hc0⟩ := Int.eq_ofNat_of_zero_le (show 0 ≤ cx + 16 * cy by omega)
    obtain ⟨g1, g2, g3⟩ := cell_xy (u := cx) (v := cy) ⟨by omega, by omega⟩ ⟨by omega, by omega⟩ hc0
    have hs := ih (cx + 1) (by omega) (by omega) (setIA h cv c0 v) f.st (fun c hcc => by
      rw [ia_setIA]
      by_cases z : c = c0
      · rw [if_pos ⟨rfl, z⟩, if_pos (by subst z; omega)]
      · rw [if_neg (fun t => z t.2), hi c hcc]
        have e : inQ x y w d cy cx c ↔ inQ x y w d cy (cx + 1) c := by
          have : ¬ (xC c = cx ∧ yC c = cy) := fun t => z (by unfold xC at t g2; unfold yC at t g3; omega)
          omega
        by_cases t : inQ x y w d cy cx c
        · rw [if_pos t, if_pos (e.mp t)]
        · rw [if_neg t, if_neg (fun s => t (e.mpr s))]) (some (.int (i32 c0)))
    obtain ⟨b0, b1, b2, b3, b4⟩ := hB
    have k0 := (f.1 a).trans b0
    have k1 := (f.2.1 1 1 a).trans b1
    have k3 := (f.2.1 1 3 a).trans b3
    have kq := (f.1 q).trans hk
    have rq := (f.2.2.1 4 1 q).trans hr
    have kc := (f.1 cv).trans hc
    have lc := (f.2.2.2.1 cv).trans hl
    refine wpW (cs := []) (stop := [5, 24]) (n := 200) (env_nil0 (env_hh rfl)) ?_
    simp only [↓wpN_S, ↓step_u, ↓stC_s, stC_s, ↓stF_u, stF_u, ↓stepI, lenI, ↓kN_u, isS, ↓gI_0, ↓gI_S, ↓gL_0, ↓gL_S, ↓gD_0, ↓gD_S, ↓gR_0, ↓gR_S, ↓sI_c, ↓sL_c, ↓sD_c, ↓sR_c, ↓s1_r, ↓s1_i, ↓vR_r, ↓vR_n, ↓s0_n, s0_n, ↓oR_u, ↓sP_u, ↓sPa_0, ↓sPa_S, ↓lkC_c, ↓callK_u, ↓cQ_s, ↓cQ_n, putL, putW, clr, kil, catS, catN, refF, booF, finF, nF, nmOf_0, nmOf_1, nmOf_2, nmOf_3, nmOf_4, nmOf_5, nmOf_6, nmOf_50, nmOf_51, nmOf_52, ↓reduceIte, reduceIte, Bool.false_eq_true, eq_self, true_or, or_true, true_and, and_true, false_or, or_false, Nat.reduceAdd, Nat.reduceSub, Nat.reduceEqDiff, Nat.reduceLT, Nat.reduceLeDiff, reduceCtorEq, true_implies, List.length_cons, List.length_nil, List.replicate, List.cons_append, List.nil_append, mrt_X3_setCovered, mhh_X3_setCovered, mow_X3_setCovered, mnl_X3_setCovered, DX3_setCovered_0, DX3_setCovered_1, DX3_setCovered_4, DX3_setCovered_5, DX3_setCovered_6, DX3_setCovered_7, DX3_setCovered_10, DX3_setCovered_11, DX3_setCovered_14, DX3_setCovered_15, DX3_setCovered_18, DX3_setCovered_19, DX3_setCovered_22, DX3_setCovered_24, DX3_setCovered_26, DX3_setCovered_27, DX3_setCovered_30, DX3_setCovered_31, DX3_setCovered_34, DX3_setCovered_35, DX3_setCovered_38, DX3_setCovered_40, DX3_setCovered_42, DX3_setCovered_43, DX3_setCovered_44, DX3_setCovered_45, DX3_setCovered_47, DX3_setCovered_49, DX3_setCovered_52, DX3_setCovered_54, DX3_setCovered_55, DX3_setCovered_58, DX3_setCovered_59, DX3_setCovered_62, DX3_setCovered_63, DX3_setCovered_66, DX3_setCovered_68, DX3_setCovered_69, DX3_setCovered_70, DX3_setCovered_73, DX3_setCovered_76, DX3_setCovered_79, DX3_setCovered_82]
    simp (disch := omega) only [i32_lit, i32_neg, i32_add, i32_mul, i32_sub, i32_nI, i32_lt, i32_le, i32_eq, inR_i, i32_clamp, i32_div, i32_max, i32_min, ite_max, ite_min, b2i_0, b2i_1, b2i_01, i32_toInt, tn_i, Int.toNat_natCast, em_t, true_and, and_true, Int.reduceToNat, Int.reduceLE, Int.reduceLT, Int.reduceAdd, Int.reduceMul, Int.reduceSub, Int.reduceNeg, Int.reduceEq, true_implies, not_true_eq_false, false_implies, not_false_eq_true, k0, k1, k3, kq, rq, kc, lc, hc0, Option.some.injEq, exists_eq_left']
    exact ⟨fun z => by omega, fun _ => ⟨fun z => by omega, fun _ => ⟨fun z => absurd z (by decide), fun _ => ⟨by omega, by omega, fun z => by omega, fun _ => ⟨by omega, hv, hs⟩⟩⟩⟩⟩
set_option maxRecDepth 100000 in
set_option maxHeartbeats 4000000 in
theorem lp_X3_setCovered5 (G : GT) {h0 : Hp} {q a cv : Nat} {x y w d : Int} {v : Int32} {Q : Option Value → Hp → Prop} {QX : String → Hp → Prop} (hk : kd h0 q = 5) (hr : fr h0 4 1 q = some cv) (hc : kd h0 cv = 22) (hl : ln h0 cv = 256) (hB : BP h0 a x y w d) (hn : BPn x y w d) (hv : v = i32 0 ∨ v = i32 1)
    (hq : ∀ h', SF h0 h' cv → (∀ c, c < 256 → ia h' cv c = if inP x y w d c then v else ia h0 cv c) → Q none h') :
    ∀ m : Nat, ∀ cy : Int, cy + m = y + d → y ≤ cy → ∀ h, SF h0 h cv → (∀ c, c < 256 → ia h cv c = if inQ x y w d cy x c then v else ia h0 cv c) → ∀ o4 o5, Wp G MX3_setCovered false 0 Q QX 5 [some (.ref q), some (.ref a), some (.int v), some (.int (i32 cy)), o4, o5] [] h (0, 0) := by
  have hn0 := hn
  obtain ⟨⟨x1, x2, x3, x4⟩, ⟨y1, y2, y3, y4⟩⟩ := hn
  intro m
  induction m with
  | zero =>
    intro cy hy hy2 h f hi o4 o5
    have hz2 := hq h f (fun c hc => by
      rw [hi c hc]
      have e : inQ x y w d cy x c ↔ inP x y w d c := by omega
      by_cases z : inQ x y w d cy x c
      · rw [if_pos z, if_pos (e.mp z)]
      · rw [if_neg z, if_neg (fun t => z (e.mpr t))])
    obtain ⟨b0, b1, b2, b3, b4⟩ := hB
    have k0 := (f.1 a).trans b0
    have k2 := (f.2.1 1 2 a).trans b2
    have k4 := (f.2.1 1 4 a).trans b4
    refine wpW (cs := []) (stop := [5, 24]) (n := 200) (env_nil0 (env_hh rfl)) ?_
    simp only [↓wpN_S, ↓step_u, ↓stC_s, stC_s, ↓stF_u, stF_u, ↓stepI, lenI, ↓kN_u, isS, ↓gI_0, ↓gI_S, ↓gL_0, ↓gL_S, ↓gD_0, ↓gD_S, ↓gR_0, ↓gR_S, ↓sI_c, ↓sL_c, ↓sD_c, ↓sR_c, ↓s1_r, ↓s1_i, ↓vR_r, ↓vR_n, ↓s0_n, s0_n, ↓oR_u, ↓sP_u, ↓sPa_0, ↓sPa_S, ↓lkC_c, ↓callK_u, ↓cQ_s, ↓cQ_n, putL, putW, clr, kil, catS, catN, refF, booF, finF, nF, nmOf_0, nmOf_1, nmOf_2, nmOf_3, nmOf_4, nmOf_5, nmOf_6, nmOf_50, nmOf_51, nmOf_52, ↓reduceIte, reduceIte, Bool.false_eq_true, eq_self, true_or, or_true, true_and, and_true, false_or, or_false, Nat.reduceAdd, Nat.reduceSub, Nat.reduceEqDiff, Nat.reduceLT, Nat.reduceLeDiff, reduceCtorEq, true_implies, List.length_cons, List.length_nil, List.replicate, List.cons_append, List.nil_append, mrt_X3_setCovered, mhh_X3_setCovered, mow_X3_setCovered, mnl_X3_setCovered, DX3_setCovered_0, DX3_setCovered_1, DX3_setCovered_4, DX3_setCovered_5, DX3_setCovered_6, DX3_setCovered_7, DX3_setCovered_10, DX3_setCovered_11, DX3_setCovered_14, DX3_setCovered_15, DX3_setCovered_18, DX3_setCovered_19, DX3_setCovered_22, DX3_setCovered_24, DX3_setCovered_26, DX3_setCovered_27, DX3_setCovered_30, DX3_setCovered_31, DX3_setCovered_34, DX3_setCovered_35, DX3_setCovered_38, DX3_setCovered_40, DX3_setCovered_42, DX3_setCovered_43, DX3_setCovered_44, DX3_setCovered_45, DX3_setCovered_47, DX3_setCovered_49, DX3_setCovered_52, DX3_setCovered_54, DX3_setCovered_55, DX3_setCovered_58, DX3_setCovered_59, DX3_setCovered_62, DX3_setCovered_63, DX3_setCovered_66, DX3_setCovered_68, DX3_setCovered_69, DX3_setCovered_70, DX3_setCovered_73, DX3_setCovered_76, DX3_setCovered_79, DX3_setCovered_82]
    simp (disch := omega) only [i32_lit, i32_neg, i32_add, i32_mul, i32_sub, i32_nI, i32_lt, i32_le, i32_eq, inR_i, i32_clamp, i32_div, i32_max, i32_min, ite_max, ite_min, b2i_0, b2i_1, b2i_01, i32_toInt, tn_i, Int.toNat_natCast, em_t, true_and, and_true, Int.reduceToNat, Int.reduceLE, Int.reduceLT, Int.reduceAdd, Int.reduceMul, Int.reduceSub, Int.reduceNeg, Int.reduceEq, true_implies, not_true_eq_false, false_implies, not_false_eq_true, k0, k2, k4]
    exact ⟨fun _ => hz2, fun z => by omega⟩
  | succ m ih =>
    intro cy hy hy2 h f hi o4 o5
    obtain ⟨w', hw'⟩ := Int.eq_ofNat_of_zero_le (show 0 ≤ w by omega)
    have hr24 := lp_X3_setCovered24 (Q := Q) (QX := QX) G hk hr hc hl hB hn0 hv (cy := cy) (by omega) (fun h' f' hi' o4 o5 => ih (cy + 1) (by omega) (by omega) h' f' hi' o4 o5) w' x (by omega) (by omega) h f hi o5
    obtain ⟨b0, b1, b2, b3, b4⟩ := hB
    have k0 := (f.1 a).trans b0
    have k1 := (f.2.1 1 1 a).trans b1
    have k2 := (f.2.1 1 2 a).trans b2
    have k4 := (f.2.1 1 4 a).trans b4
    refine wpW (cs := []) (stop := [5, 24]) (n := 200) (env_nil0 (env_hh rfl)) ?_
    simp only [↓wpN_S, ↓step_u, ↓stC_s, stC_s, ↓stF_u, stF_u, ↓stepI, lenI, ↓kN_u, isS, ↓gI_0, ↓gI_S, ↓gL_0, ↓gL_S, ↓gD_0, ↓gD_S, ↓gR_0, ↓gR_S, ↓sI_c, ↓sL_c, ↓sD_c, ↓sR_c, ↓s1_r, ↓s1_i, ↓vR_r, ↓vR_n, ↓s0_n, s0_n, ↓oR_u, ↓sP_u, ↓sPa_0, ↓sPa_S, ↓lkC_c, ↓callK_u, ↓cQ_s, ↓cQ_n, putL, putW, clr, kil, catS, catN, refF, booF, finF, nF, nmOf_0, nmOf_1, nmOf_2, nmOf_3, nmOf_4, nmOf_5, nmOf_6, nmOf_50, nmOf_51, nmOf_52, ↓reduceIte, reduceIte, Bool.false_eq_true, eq_self, true_or, or_true, true_and, and_true, false_or, or_false, Nat.reduceAdd, Nat.reduceSub, Nat.reduceEqDiff, Nat.reduceLT, Nat.reduceLeDiff, reduceCtorEq, true_implies, List.length_cons, List.length_nil, List.replicate, List.cons_append, List.nil_append, mrt_X3_setCovered, mhh_X3_setCovered, mow_X3_setCovered, mnl_X3_setCovered, DX3_setCovered_0, DX3_setCovered_1, DX3_setCovered_4, DX3_setCovered_5, DX3_setCovered_6, DX3_setCovered_7, DX3_setCovered_10, DX3_setCovered_11, DX3_setCovered_14, DX3_setCovered_15, DX3_setCovered_18, DX3_setCovered_19, DX3_setCovered_22, DX3_setCovered_24, DX3_setCovered_26, DX3_setCovered_27, DX3_setCovered_30, DX3_setCovered_31, DX3_setCovered_34, DX3_setCovered_35, DX3_setCovered_38, DX3_setCovered_40, DX3_setCovered_42, DX3_setCovered_43, DX3_setCovered_44, DX3_setCovered_45, DX3_setCovered_47, DX3_setCovered_49, DX3_setCovered_52, DX3_setCovered_54, DX3_setCovered_55, DX3_setCovered_58, DX3_setCovered_59, DX3_setCovered_62, DX3_setCovered_63, DX3_setCovered_66, DX3_setCovered_68, DX3_setCovered_69, DX3_setCovered_70, DX3_setCovered_73, DX3_setCovered_76, DX3_setCovered_79, DX3_setCovered_82]
    simp (disch := omega) only [i32_lit, i32_neg, i32_add, i32_mul, i32_sub, i32_nI, i32_lt, i32_le, i32_eq, inR_i, i32_clamp, i32_div, i32_max, i32_min, ite_max, ite_min, b2i_0, b2i_1, b2i_01, i32_toInt, tn_i, Int.toNat_natCast, em_t, true_and, and_true, Int.reduceToNat, Int.reduceLE, Int.reduceLT, Int.reduceAdd, Int.reduceMul, Int.reduceSub, Int.reduceNeg, Int.reduceEq, true_implies, not_true_eq_false, false_implies, not_false_eq_true, k0, k1, k2, k4]
    exact ⟨fun z => by omega, fun _ => hr24⟩
set_option maxRecDepth 100000 in
set_option maxHeartbeats 4000000 in
theorem ok_X3_setCovered (G : GT) : OKm G yX3_setCovered MX3_setCovered 0 0 0 ct_X3_setCovered := by
  refine mkOK (ini := false) (by decide) rfl (by first | exact fun _ => rfl | (intro hh; cases hh)) (fun As h Q QX hc => ?_)
  replace hc := sR_e hc; obtain ⟨q, r, rfl, hc⟩ := hc
  replace hc := sR_e hc; obtain ⟨a, r, rfl, hc⟩ := hc
  replace hc := sI_e hc; obtain ⟨v, r, rfl, hc⟩ := hc
  replace hc := s0_e hc; obtain ⟨rfl, hc⟩ := hc
  obtain ⟨cv, x, y, w, d, hk, hr, hc, hl, hB, hn, hv, hq⟩ := hc
  have hn0 := hn
  obtain ⟨⟨x1, x2, x3, x4⟩, ⟨y1, y2, y3, y4⟩⟩ := hn
  obtain ⟨d', hd'⟩ := Int.eq_ofNat_of_zero_le (show 0 ≤ d by omega)
  have hz := lp_X3_setCovered5 (Q := Q) (QX := QX) G hk hr hc hl hB hn0 hv hq d' y (by omega) (by omega) h SF.rf (fun c _ => by rw [if_neg (fun t => by omega)]) none none
  obtain ⟨b0, b1, b2, b3, b4⟩ := hB
  refine ⟨Nat.le_of_ble_eq_true rfl, ?_⟩
  simp only [ent, entL, catN, List.length_cons, List.length_nil, List.replicate, List.cons_append, List.nil_append, reduceIte, Nat.reduceEqDiff,  Nat.reduceAdd, Nat.reduceSub, mnl_X3_setCovered]
  refine wpW (cs := []) (stop := [5]) (n := 200) (env_nil0 (env_hh rfl)) ?_
  simp only [↓wpN_S, ↓step_u, ↓stC_s, stC_s, ↓stF_u, stF_u, ↓stepI, lenI, ↓kN_u, isS, ↓gI_0, ↓gI_S, ↓gL_0, ↓gL_S, ↓gD_0, ↓gD_S, ↓gR_0, ↓gR_S, ↓sI_c, ↓sL_c, ↓sD_c, ↓sR_c, ↓s1_r, ↓s1_i, ↓vR_r, ↓vR_n, ↓s0_n, s0_n, ↓oR_u, ↓sP_u, ↓sPa_0, ↓sPa_S, ↓lkC_c, ↓callK_u, ↓cQ_s, ↓cQ_n, putL, putW, clr, kil, catS, catN, refF, booF, finF, nF, nmOf_0, nmOf_1, nmOf_2, nmOf_3, nmOf_4, nmOf_5, nmOf_6, nmOf_50, nmOf_51, nmOf_52, ↓reduceIte, reduceIte, Bool.false_eq_true, eq_self, true_or, or_true, true_and, and_true, false_or, or_false, Nat.reduceAdd, Nat.reduceSub, Nat.reduceEqDiff, Nat.reduceLT, Nat.reduceLeDiff, reduceCtorEq, true_implies, List.length_cons, List.length_nil, List.replicate, List.cons_append, List.nil_append, mrt_X3_setCovered, mhh_X3_setCovered, mow_X3_setCovered, mnl_X3_setCovered, DX3_setCovered_0, DX3_setCovered_1, DX3_setCovered_4, DX3_setCovered_5, DX3_setCovered_6, DX3_setCovered_7, DX3_setCovered_10, DX3_setCovered_11, DX3_setCovered_14, DX3_setCovered_15, DX3_setCovered_18, DX3_setCovered_19, DX3_setCovered_22, DX3_setCovered_24, DX3_setCovered_26, DX3_setCovered_27, DX3_setCovered_30, DX3_setCovered_31, DX3_setCovered_34, DX3_setCovered_35, DX3_setCovered_38, DX3_setCovered_40, DX3_setCovered_42, DX3_setCovered_43, DX3_setCovered_44, DX3_setCovered_45, DX3_setCovered_47, DX3_setCovered_49, DX3_setCovered_52, DX3_setCovered_54, DX3_setCovered_55, DX3_setCovered_58, DX3_setCovered_59, DX3_setCovered_62, DX3_setCovered_63, DX3_setCovered_66, DX3_setCovered_68, DX3_setCovered_69, DX3_setCovered_70, DX3_setCovered_73, DX3_setCovered_76, DX3_setCovered_79, DX3_setCovered_82]
  simp (disch := omega) only [i32_lit, i32_neg, i32_add, i32_mul, i32_sub, i32_nI, i32_lt, i32_le, i32_eq, inR_i, i32_clamp, i32_div, i32_max, i32_min, ite_max, ite_min, b2i_0, b2i_1, b2i_01, i32_toInt, tn_i, Int.toNat_natCast, em_t, true_and, and_true, Int.reduceToNat, Int.reduceLE, Int.reduceLT, Int.reduceAdd, Int.reduceMul, Int.reduceSub, Int.reduceNeg, Int.reduceEq, true_implies, not_true_eq_false, false_implies, not_false_eq_true, b0, b2]
  exact hz

