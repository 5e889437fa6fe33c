/-! ===== the class: its constructors ===== -/
def hF : Nat → Nat
  | 4 => 5
  | 5 => 6
  | 6 => 8
  | _ => 12
def hLn : Nat → Nat
  | 4 => 256
  | 5 => 256
  | 6 => 12
  | _ => 40
theorem hF_j {i j : Nat} (h1 : 4 ≤ i) (h2 : i ≤ 7) (h3 : 4 ≤ j) (h4 : j ≤ 7) (h : hF i = hF j) : i = j := by
  rcases (show i = 4 ∨ i = 5 ∨ i = 6 ∨ i = 7 by omega) with rfl | rfl | rfl | rfl <;> rcases (show j = 4 ∨ j = 5 ∨ j = 6 ∨ j = 7 by omega) with rfl | rfl | rfl | rfl <;> first | rfl | (exact absurd h (by decide))
/-- an hour's rows 4 .. n - 1 are made -/
def HAk (h g : Hp) (a : Nat) (R : Nat → Nat) (n : Nat) : Prop := kd g a = 3 ∧ Fr h g (fun b => b = a) ∧ (∀ c k, fi g c k a = fi h c k a) ∧ (∀ t, 4 ≤ t → t < n → fr g 2 (hF t) a = some (R t) ∧ kd g (R t) = 21 ∧ ln g (R t) = hLn t ∧ kd h (R t) = 0) ∧ ∀ i j, 4 ≤ i → i < n → 4 ≤ j → j < n → R i = R j → i = j
theorem HAk.s {h g : Hp} {a n b l : Nat} {R : Nat → Nat} (f : HAk h g a R n) (h0 : kd g b = 0) (hn : 4 ≤ n) (hn2 : n ≤ 7) (hl : l = hLn n) : HAk h (setR (newA g b 21 l) 2 (hF n) a (some b)) a (fun t => if t = n then b else R t) (n + 1) := by
  subst hl
  obtain ⟨f1, f2, f3, f4, f5⟩ := f
  have em : a ≠ b := fun z => by rw [← z, f1] at h0; cases h0
  have ea : ∀ k, 4 ≤ k → k < n → R k ≠ b := fun k h1 h2 z => by have := (f4 k h1 h2).2.1; rw [z, h0] at this; cases this
  refine ⟨?_, (f2.tr (Fr.nA h0)).tr (Fr.sR rfl), f3, fun k h1 h2 => ?_, fun i j h1 h2 h3 h4 h5 => ?_⟩
  · rw [kd_setR, kd_newA, if_neg em]; exact f1
  · by_cases z : k = n
    · subst z
      have hh := f2.kz h0
      simp [fr_setR, kd_setR, kd_newA, ln_setR, ln_newA, hh]
    · obtain ⟨g1, g2, g3, g4⟩ := f4 k h1 (by omega)
      have e := ea k h1 (by omega)
      have e2 : ¬ hF k = hF n := fun y => z (hF_j h1 (by omega) hn hn2 y)
      simp only [z, if_false, fr_setR, kd_setR, kd_newA, ln_setR, ln_newA, e, e2, false_and, and_false, fr_newA]
      exact ⟨g1, g2, g3, g4⟩
  · simp only at h5
    by_cases z1 : i = n <;> by_cases z2 : j = n
    · omega
    · rw [if_pos z1, if_neg z2] at h5; exact absurd h5.symm (ea j h3 (by omega))
    · rw [if_neg z1, if_pos z2] at h5; exact absurd h5 (ea i h1 (by omega))
    · rw [if_neg z1, if_neg z2] at h5; exact f5 i j h1 (by omega) h3 (by omega) h5
/-- a new hour -/
def HNew (h h' : Hp) (a s n : Nat) (R : Nat → Nat) : Prop := Fr h h' (fun b => b = a) ∧ (∀ t, 4 ≤ t → t < 8 → kd h' (R t) = 21 ∧ ln h' (R t) = hLn t ∧ kd h (R t) = 0) ∧ (∀ i j, 4 ≤ i → i < 8 → 4 ≤ j → j < 8 → R i = R j → i = j) ∧
  (fr h' 2 5 a = some (R 4) ∧ fr h' 2 6 a = some (R 5) ∧ fr h' 2 7 a = some s ∧ fr h' 2 8 a = some (R 6) ∧ fr h' 2 12 a = some (R 7)) ∧ (fi h' 2 0 a = i32 n ∧ fi h' 2 1 a = i32 (sun0 n 0) ∧ fi h' 2 2 a = i32 (sun0 n 1) ∧ fi h' 2 3 a = i32 (sun0 n 2) ∧ fi h' 2 4 a = i32 0 ∧ fi h' 2 11 a = i32 0)
theorem HAk.fin {h g : Hp} {a s n i : Nat} {R : Nat → Nat} {u v : Int} (f : HAk h g a R 8) (hz : ∀ k, fi h 2 k a = i32 0) (hi : i = 1 ∨ i = 2) (h0 : (if i = 1 then u else 0) = sun0 n 0) (h1 : (if i = 2 then u else 0) = sun0 n 1) (h2 : v = sun0 n 2) : HNew h (setI (setI (setR (setI g 2 0 a (i32 n)) 2 7 a (some s)) 2 i a (i32 u)) 2 3 a (i32 v)) a s n R := by
  obtain ⟨f1, f2, f3, f4, f5⟩ := f
  have k4 := f4 4 (by omega) (by omega)
  have k5 := f4 5 (by omega) (by omega)
  have k6 := f4 6 (by omega) (by omega)
  have k7 := f4 7 (by omega) (by omega)
  have hz' : ∀ k, fi g 2 k a = i32 0 := fun k => (f3 2 k).trans (hz k)
  refine ⟨(((f2.tr (Fr.sI rfl)).tr (Fr.sR rfl)).tr (Fr.sI rfl)).tr (Fr.sI rfl), fun t t1 t2 => (f4 t t1 t2).2, f5, ⟨?_, ?_, ?_, ?_, ?_⟩, ?_, ?_, ?_, ?_, ?_, ?_⟩
  · rw [fr_setI, fr_setI, fr_setR, if_neg (by omega), fr_setI]; exact k4.1
  · rw [fr_setI, fr_setI, fr_setR, if_neg (by omega), fr_setI]; exact k5.1
  · rw [fr_setI, fr_setI, fr_setR, if_pos ⟨rfl, rfl, rfl⟩]
  · rw [fr_setI, fr_setI, fr_setR, if_neg (by omega), fr_setI]; exact k6.1
  · rw [fr_setI, fr_setI, fr_setR, if_neg (by omega), fr_setI]; exact k7.1
  · rw [fi_setI, if_neg (by omega), fi_setI, if_neg (by omega), fi_setR, fi_setI, if_pos ⟨rfl, rfl, rfl⟩]
  · rw [← h0, fi_setI, if_neg (by omega), fi_setI]
    rcases hi with rfl | rfl
    · rw [if_pos ⟨rfl, rfl, rfl⟩, if_pos rfl]
    · rw [if_neg (by omega), fi_setR, fi_setI, if_neg (by omega), if_neg (by omega)]; exact hz' 1
  · rw [← h1, fi_setI, if_neg (by omega), fi_setI]
    rcases hi with rfl | rfl
    · rw [if_neg (by omega), fi_setR, fi_setI, if_neg (by omega), if_neg (by omega)]; exact hz' 2
    · rw [if_pos ⟨rfl, rfl, rfl⟩, if_pos rfl]
  · rw [← h2, fi_setI, if_pos ⟨rfl, rfl, rfl⟩]
  · rw [fi_setI, if_neg (by omega), fi_setI, if_neg (by omega), fi_setR, fi_setI, if_neg (by omega)]; exact hz' 4
  · rw [fi_setI, if_neg (by omega), fi_setI, if_neg (by omega), fi_setR, fi_setI, if_neg (by omega)]; exact hz' 11
def ct_X1_init : Ct := fun As h Q _ => sR As fun a r => sI r fun n r => sR r fun s r => s0 r (kd h a = 3 ∧ (∀ k, fi h 2 k a = i32 0) ∧ (0 ≤ n.toInt ∧ n.toInt < 12) ∧ ∀ h' R, HNew h h' a s (tn n) R → Q none h')
def ce_X1_init : CE := (2, yX1_init, MX1_init, 2, 1, 4, 564, ct_X1_init)
set_option maxRecDepth 100000 in
set_option maxHeartbeats 4000000 in
theorem tl_X1_init48 (G : GT) {h g : Hp} {a s n : Nat} {R : Nat → Nat} {Q : Option Value → Hp → Prop} {QX : String → Hp → Prop} (hn : n < 12) (f : HAk h g a R 8) (hz : ∀ k, fi h 2 k a = i32 0) (hq : ∀ h', HNew h h' a s n R → Q none h') :
    Wp G MX1_init true 1 Q QX 38 [some (.ref a), some (.int (i32 n)), some (.ref s)] [] g (0, 0) := by
  have q1 := f.1
  have z1 := fun (h5 : n < 5) => hq _ (HAk.fin (s := s) (n := n) (i := 1) (u := -1) (v := 5 - n) f hz (Or.inl rfl) (by simp [sun0, h5]) (by simp [sun0, show ¬ n = 5 by omega, show ¬ n = 6 by omega]) (by simp [sun0, h5]))
  have z2 := fun (h5 : ¬ n < 5) (h7 : n < 7) => hq _ (HAk.fin (s := s) (n := n) (i := 2) (u := -1) (v := 1) f hz (Or.inr rfl) (by simp [sun0, h5, h7]) (by simp [sun0, show n = 5 ∨ n = 6 by omega]) (by simp [sun0, h5, h7]))
  have z3 := fun (h5 : ¬ n < 5) (h7 : ¬ n < 7) => hq _ (HAk.fin (s := s) (n := n) (i := 1) (u := 1) (v := (n : Int) - 6) f hz (Or.inl rfl) (by simp [sun0, h5, h7]) (by simp [sun0, show ¬ n = 5 by omega, show ¬ n = 6 by omega]) (by simp [sun0, h5, h7]))
  refine wpW (cs := [(3, ce_obj)]) (stop := []) (n := 200) (env_cons (ce_objOK (by decide +kernel)) (env_nil0 (env_hh rfl))) ?_
  simp only [↓wpN_S, ↓step_u, ↓stC_s, stC_s, ↓stF_u, stF_u, ↓stepI, lenI, ↓kN_u, isS, ↓gI_0, ↓gI_S, ↓gL_0, ↓gL_S, ↓gD_0, ↓gD_S, ↓gR_0, ↓gR_S, ↓sI_c, ↓sL_c, ↓sD_c, ↓sR_c, ↓s1_r, ↓s1_i, ↓vR_r, ↓vR_n, ↓s0_n, s0_n, ↓oR_u, ↓sP_u, ↓sPa_0, ↓sPa_S, ↓lkC_c, ↓callK_u, ↓cQ_s, ↓cQ_n, putL, putW, clr, kil, catS, catN, refF, booF, finF, nF, nmOf_0, nmOf_1, nmOf_2, nmOf_3, nmOf_4, nmOf_5, nmOf_6, nmOf_50, nmOf_51, nmOf_52, ↓reduceIte, reduceIte, Bool.false_eq_true, eq_self, true_or, or_true, true_and, and_true, false_or, or_false, Nat.reduceAdd, Nat.reduceSub, Nat.reduceEqDiff, Nat.reduceLT, Nat.reduceLeDiff, reduceCtorEq, true_implies, List.length_cons, List.length_nil, List.replicate, List.cons_append, List.nil_append, mrt_X1_init, mhh_X1_init, mow_X1_init, mnl_X1_init, DX1_init_0, DX1_init_1, DX1_init_4, DX1_init_5, DX1_init_8, DX1_init_10, DX1_init_13, DX1_init_14, DX1_init_17, DX1_init_19, DX1_init_22, DX1_init_23, DX1_init_25, DX1_init_27, DX1_init_30, DX1_init_31, DX1_init_33, DX1_init_35, DX1_init_38, DX1_init_39, DX1_init_40, DX1_init_43, DX1_init_44, DX1_init_45, DX1_init_48, DX1_init_49, DX1_init_50, DX1_init_53, DX1_init_54, DX1_init_55, DX1_init_58, DX1_init_59, DX1_init_60, DX1_init_61, DX1_init_62, DX1_init_65, DX1_init_68, DX1_init_69, DX1_init_71, DX1_init_74, DX1_init_75, DX1_init_76, DX1_init_79, DX1_init_80, DX1_init_81, DX1_init_84, DX1_init_87, DX1_init_88, DX1_init_89, DX1_init_92, DX1_init_93, DX1_init_94, DX1_init_96, DX1_init_97, DX1_init_100, ce_obj, cX_nil mhh_X1_init]
  simp (disch := omega) only [i32_lit, i32_neg, i32_add, i32_mul, i32_sub, i32_nI, i32_lt, i32_le, i32_eq, inR_i, i32_clamp, i32_div, i32_max, i32_min, ite_max, ite_min, b2i_0, b2i_1, b2i_01, i32_toInt, tn_i, Int.toNat_natCast, em_t, true_and, and_true, Int.reduceToNat, Int.reduceLE, Int.reduceLT, Int.reduceAdd, Int.reduceMul, Int.reduceSub, Int.reduceNeg, Int.reduceEq, true_implies, not_true_eq_false, false_implies, not_false_eq_true, q1, kd_setI, fi_setI, fr_setI, ln_setI, ia_setI, ja_setI, ra_setI, kd_setR, fi_setR, fr_setR, ln_setR, ia_setR, ja_setR, ra_setR, kd_setIA, fi_setIA, fr_setIA, ln_setIA, ia_setIA, ja_setIA, ra_setIA, kd_setLA, fi_setLA, fr_setLA, ln_setLA, ia_setLA, ja_setLA, ra_setLA, kd_setRA, fi_setRA, fr_setRA, ln_setRA, ia_setRA, ja_setRA, ra_setRA, kd_cpRA, fi_cpRA, fr_cpRA, ln_cpRA, ia_cpRA, ja_cpRA, ra_cpRA, kd_cpIA, fi_cpIA, fr_cpIA, ln_cpIA, ia_cpIA, ja_cpIA, ra_cpIA, kd_newO, fi_newO, fr_newO, ln_newO, ia_newO, ja_newO, ra_newO, kd_newA, fi_newA, fr_newA, ln_newA, ia_newA, ja_newA, ra_newA, nmOf_2, implies_true]
  exact ⟨fun h1 => ⟨fun h2 => z3 (by omega) (by omega), fun h2 => z2 (by omega) (by omega)⟩, fun h1 => z1 (by omega)⟩
set_option maxRecDepth 100000 in
set_option maxHeartbeats 4000000 in
theorem ok_X1_init (G : GT) : OKm G yX1_init MX1_init 1 4 564 ct_X1_init := by
  refine mkOK (ini := true) (by decide) rfl (by first | exact fun _ => rfl | (intro hh; cases hh)) (fun As h Q QX hc => ?_)
  replace hc := sR_e hc; obtain ⟨a, r, rfl, hc⟩ := hc
  replace hc := sI_e hc; obtain ⟨n, r, rfl, hc⟩ := hc
  replace hc := sR_e hc; obtain ⟨s, r, rfl, hc⟩ := hc
  replace hc := s0_e hc; obtain ⟨rfl, hc⟩ := hc
  obtain ⟨hk, hz, hn, hq⟩ := hc
  obtain ⟨nV, hnV, rfl⟩ := i32_all n
  rw [i32_toInt hnV] at hn
  rw [tn_i hnV] at hq
  obtain ⟨n, rfl⟩ := Int.eq_ofNat_of_zero_le hn.1
  rw [Int.toNat_natCast] at hq
  have q4 : HAk h h a (fun _ => 0) 4 := ⟨hk, Fr.rf, fun _ _ => rfl, fun k h1 h2 => by omega, fun i j h1 h2 => by omega⟩
  refine ⟨Nat.le_of_ble_eq_true rfl, ?_⟩
  simp only [ent, entL, catN, List.length_cons, List.length_nil, List.replicate, List.cons_append, List.nil_append, reduceIte, Nat.reduceEqDiff,  Nat.reduceAdd, Nat.reduceSub, mnl_X1_init]
  refine wpW (cs := [(3, ce_obj)]) (stop := [10]) (n := 200) (env_cons (ce_objOK (by decide +kernel)) (env_nil0 (env_hh rfl))) ?_
  simp only [↓wpN_S, ↓step_u, ↓stC_s, stC_s, ↓stF_u, stF_u, ↓stepI, lenI, ↓kN_u, isS, ↓gI_0, ↓gI_S, ↓gL_0, ↓gL_S, ↓gD_0, ↓gD_S, ↓gR_0, ↓gR_S, ↓sI_c, ↓sL_c, ↓sD_c, ↓sR_c, ↓s1_r, ↓s1_i, ↓vR_r, ↓vR_n, ↓s0_n, s0_n, ↓oR_u, ↓sP_u, ↓sPa_0, ↓sPa_S, ↓lkC_c, ↓callK_u, ↓cQ_s, ↓cQ_n, putL, putW, clr, kil, catS, catN, refF, booF, finF, nF, nmOf_0, nmOf_1, nmOf_2, nmOf_3, nmOf_4, nmOf_5, nmOf_6, nmOf_50, nmOf_51, nmOf_52, ↓reduceIte, reduceIte, Bool.false_eq_true, eq_self, true_or, or_true, true_and, and_true, false_or, or_false, Nat.reduceAdd, Nat.reduceSub, Nat.reduceEqDiff, Nat.reduceLT, Nat.reduceLeDiff, reduceCtorEq, true_implies, List.length_cons, List.length_nil, List.replicate, List.cons_append, List.nil_append, mrt_X1_init, mhh_X1_init, mow_X1_init, mnl_X1_init, DX1_init_0, DX1_init_1, DX1_init_4, DX1_init_5, DX1_init_8, DX1_init_10, DX1_init_13, DX1_init_14, DX1_init_17, DX1_init_19, DX1_init_22, DX1_init_23, DX1_init_25, DX1_init_27, DX1_init_30, DX1_init_31, DX1_init_33, DX1_init_35, DX1_init_38, DX1_init_39, DX1_init_40, DX1_init_43, DX1_init_44, DX1_init_45, DX1_init_48, DX1_init_49, DX1_init_50, DX1_init_53, DX1_init_54, DX1_init_55, DX1_init_58, DX1_init_59, DX1_init_60, DX1_init_61, DX1_init_62, DX1_init_65, DX1_init_68, DX1_init_69, DX1_init_71, DX1_init_74, DX1_init_75, DX1_init_76, DX1_init_79, DX1_init_80, DX1_init_81, DX1_init_84, DX1_init_87, DX1_init_88, DX1_init_89, DX1_init_92, DX1_init_93, DX1_init_94, DX1_init_96, DX1_init_97, DX1_init_100, ce_obj, cX_nil mhh_X1_init]
  obtain ⟨g4, hg4⟩ : ∃ g, g = h := ⟨_, rfl⟩
  rw [← hg4]
  replace q4 : HAk h g4 a (fun _ => 0) 4 := hg4 ▸ q4
  refine ⟨by decide, by decide, by decide, fun b4 z4 _ => ?_⟩
  rw [show Int32.toNatClampNeg 256 = 256 by decide]
  have q5 := q4.s (l := 256) z4 (by omega) (by omega) rfl
  have km4 : kd (newA g4 b4 21 256) a = 3 := q5.1
  refine wpW (cs := [(3, ce_obj)]) (stop := [19]) (n := 200) (env_cons (ce_objOK (by decide +kernel)) (env_nil0 (env_hh rfl))) ?_
  simp only [↓wpN_S, ↓step_u, ↓stC_s, stC_s, ↓stF_u, stF_u, ↓stepI, lenI, ↓kN_u, isS, ↓gI_0, ↓gI_S, ↓gL_0, ↓gL_S, ↓gD_0, ↓gD_S, ↓gR_0, ↓gR_S, ↓sI_c, ↓sL_c, ↓sD_c, ↓sR_c, ↓s1_r, ↓s1_i, ↓vR_r, ↓vR_n, ↓s0_n, s0_n, ↓oR_u, ↓sP_u, ↓sPa_0, ↓sPa_S, ↓lkC_c, ↓callK_u, ↓cQ_s, ↓cQ_n, putL, putW, clr, kil, catS, catN, refF, booF, finF, nF, nmOf_0, nmOf_1, nmOf_2, nmOf_3, nmOf_4, nmOf_5, nmOf_6, nmOf_50, nmOf_51, nmOf_52, ↓reduceIte, reduceIte, Bool.false_eq_true, eq_self, true_or, or_true, true_and, and_true, false_or, or_false, Nat.reduceAdd, Nat.reduceSub, Nat.reduceEqDiff, Nat.reduceLT, Nat.reduceLeDiff, reduceCtorEq, true_implies, List.length_cons, List.length_nil, List.replicate, List.cons_append, List.nil_append, mrt_X1_init, mhh_X1_init, mow_X1_init, mnl_X1_init, DX1_init_0, DX1_init_1, DX1_init_4, DX1_init_5, DX1_init_8, DX1_init_10, DX1_init_13, DX1_init_14, DX1_init_17, DX1_init_19, DX1_init_22, DX1_init_23, DX1_init_25, DX1_init_27, DX1_init_30, DX1_init_31, DX1_init_33, DX1_init_35, DX1_init_38, DX1_init_39, DX1_init_40, DX1_init_43, DX1_init_44, DX1_init_45, DX1_init_48, DX1_init_49, DX1_init_50, DX1_init_53, DX1_init_54, DX1_init_55, DX1_init_58, DX1_init_59, DX1_init_60, DX1_init_61, DX1_init_62, DX1_init_65, DX1_init_68, DX1_init_69, DX1_init_71, DX1_init_74, DX1_init_75, DX1_init_76, DX1_init_79, DX1_init_80, DX1_init_81, DX1_init_84, DX1_init_87, DX1_init_88, DX1_init_89, DX1_init_92, DX1_init_93, DX1_init_94, DX1_init_96, DX1_init_97, DX1_init_100, ce_obj, cX_nil mhh_X1_init]
  simp only [km4, Nat.reduceEqDiff, Nat.reduceLT, Nat.reduceAdd, true_and, false_implies, implies_true, and_true, nmOf_2]
  obtain ⟨g5, hg5⟩ : ∃ g, g = setR (newA g4 b4 21 256) 2 (hF 4) a (some b4) := ⟨_, rfl⟩
  replace q5 : HAk h g5 a _ 5 := hg5 ▸ q5
  rw [show setR (newA g4 b4 21 256) 2 5 a (some b4) = g5 from hg5.symm]
  refine ⟨by decide, by decide, by decide, fun b5 z5 _ => ?_⟩
  rw [show Int32.toNatClampNeg 256 = 256 by decide]
  have q6 := q5.s (l := 256) z5 (by omega) (by omega) rfl
  have km5 : kd (newA g5 b5 21 256) a = 3 := q6.1
  refine wpW (cs := [(3, ce_obj)]) (stop := [27]) (n := 200) (env_cons (ce_objOK (by decide +kernel)) (env_nil0 (env_hh rfl))) ?_
  simp only [↓wpN_S, ↓step_u, ↓stC_s, stC_s, ↓stF_u, stF_u, ↓stepI, lenI, ↓kN_u, isS, ↓gI_0, ↓gI_S, ↓gL_0, ↓gL_S, ↓gD_0, ↓gD_S, ↓gR_0, ↓gR_S, ↓sI_c, ↓sL_c, ↓sD_c, ↓sR_c, ↓s1_r, ↓s1_i, ↓vR_r, ↓vR_n, ↓s0_n, s0_n, ↓oR_u, ↓sP_u, ↓sPa_0, ↓sPa_S, ↓lkC_c, ↓callK_u, ↓cQ_s, ↓cQ_n, putL, putW, clr, kil, catS, catN, refF, booF, finF, nF, nmOf_0, nmOf_1, nmOf_2, nmOf_3, nmOf_4, nmOf_5, nmOf_6, nmOf_50, nmOf_51, nmOf_52, ↓reduceIte, reduceIte, Bool.false_eq_true, eq_self, true_or, or_true, true_and, and_true, false_or, or_false, Nat.reduceAdd, Nat.reduceSub, Nat.reduceEqDiff, Nat.reduceLT, Nat.reduceLeDiff, reduceCtorEq, true_implies, List.length_cons, List.length_nil, List.replicate, List.cons_append, List.nil_append, mrt_X1_init, mhh_X1_init, mow_X1_init, mnl_X1_init, DX1_init_0, DX1_init_1, DX1_init_4, DX1_init_5, DX1_init_8, DX1_init_10, DX1_init_13, DX1_init_14, DX1_init_17, DX1_init_19, DX1_init_22, DX1_init_23, DX1_init_25, DX1_init_27, DX1_init_30, DX1_init_31, DX1_init_33, DX1_init_35, DX1_init_38, DX1_init_39, DX1_init_40, DX1_init_43, DX1_init_44, DX1_init_45, DX1_init_48, DX1_init_49, DX1_init_50, DX1_init_53, DX1_init_54, DX1_init_55, DX1_init_58, DX1_init_59, DX1_init_60, DX1_init_61, DX1_init_62, DX1_init_65, DX1_init_68, DX1_init_69, DX1_init_71, DX1_init_74, DX1_init_75, DX1_init_76, DX1_init_79, DX1_init_80, DX1_init_81, DX1_init_84, DX1_init_87, DX1_init_88, DX1_init_89, DX1_init_92, DX1_init_93, DX1_init_94, DX1_init_96, DX1_init_97, DX1_init_100, ce_obj, cX_nil mhh_X1_init]
  simp only [km5, Nat.reduceEqDiff, Nat.reduceLT, Nat.reduceAdd, true_and, false_implies, implies_true, and_true, nmOf_2]
  obtain ⟨g6, hg6⟩ : ∃ g, g = setR (newA g5 b5 21 256) 2 (hF 5) a (some b5) := ⟨_, rfl⟩
  replace q6 : HAk h g6 a _ 6 := hg6 ▸ q6
  rw [show setR (newA g5 b5 21 256) 2 6 a (some b5) = g6 from hg6.symm]
  refine ⟨by decide, by decide, by decide, fun b6 z6 _ => ?_⟩
  rw [show Int32.toNatClampNeg 12 = 12 by decide]
  have q7 := q6.s (l := 12) z6 (by omega) (by omega) rfl
  have km6 : kd (newA g6 b6 21 12) a = 3 := q7.1
  refine wpW (cs := [(3, ce_obj)]) (stop := [35]) (n := 200) (env_cons (ce_objOK (by decide +kernel)) (env_nil0 (env_hh rfl))) ?_
  simp only [↓wpN_S, ↓step_u, ↓stC_s, stC_s, ↓stF_u, stF_u, ↓stepI, lenI, ↓kN_u, isS, ↓gI_0, ↓gI_S, ↓gL_0, ↓gL_S, ↓gD_0, ↓gD_S, ↓gR_0, ↓gR_S, ↓sI_c, ↓sL_c, ↓sD_c, ↓sR_c, ↓s1_r, ↓s1_i, ↓vR_r, ↓vR_n, ↓s0_n, s0_n, ↓oR_u, ↓sP_u, ↓sPa_0, ↓sPa_S, ↓lkC_c, ↓callK_u, ↓cQ_s, ↓cQ_n, putL, putW, clr, kil, catS, catN, refF, booF, finF, nF, nmOf_0, nmOf_1, nmOf_2, nmOf_3, nmOf_4, nmOf_5, nmOf_6, nmOf_50, nmOf_51, nmOf_52, ↓reduceIte, reduceIte, Bool.false_eq_true, eq_self, true_or, or_true, true_and, and_true, false_or, or_false, Nat.reduceAdd, Nat.reduceSub, Nat.reduceEqDiff, Nat.reduceLT, Nat.reduceLeDiff, reduceCtorEq, true_implies, List.length_cons, List.length_nil, List.replicate, List.cons_append, List.nil_append, mrt_X1_init, mhh_X1_init, mow_X1_init, mnl_X1_init, DX1_init_0, DX1_init_1, DX1_init_4, DX1_init_5, DX1_init_8, DX1_init_10, DX1_init_13, DX1_init_14, DX1_init_17, DX1_init_19, DX1_init_22, DX1_init_23, DX1_init_25, DX1_init_27, DX1_init_30, DX1_init_31, DX1_init_33, DX1_init_35, DX1_init_38, DX1_init_39, DX1_init_40, DX1_init_43, DX1_init_44, DX1_init_45, DX1_init_48, DX1_init_49, DX1_init_50, DX1_init_53, DX1_init_54, DX1_init_55, DX1_init_58, DX1_init_59, DX1_init_60, DX1_init_61, DX1_init_62, DX1_init_65, DX1_init_68, DX1_init_69, DX1_init_71, DX1_init_74, DX1_init_75, DX1_init_76, DX1_init_79, DX1_init_80, DX1_init_81, DX1_init_84, DX1_init_87, DX1_init_88, DX1_init_89, DX1_init_92, DX1_init_93, DX1_init_94, DX1_init_96, DX1_init_97, DX1_init_100, ce_obj, cX_nil mhh_X1_init]
  simp only [km6, Nat.reduceEqDiff, Nat.reduceLT, Nat.reduceAdd, true_and, false_implies, implies_true, and_true, nmOf_2]
  obtain ⟨g7, hg7⟩ : ∃ g, g = setR (newA g6 b6 21 12) 2 (hF 6) a (some b6) := ⟨_, rfl⟩
  replace q7 : HAk h g7 a _ 7 := hg7 ▸ q7
  rw [show setR (newA g6 b6 21 12) 2 8 a (some b6) = g7 from hg7.symm]
  refine ⟨by decide, by decide, by decide, fun b7 z7 _ => ?_⟩
  rw [show Int32.toNatClampNeg 40 = 40 by decide]
  have q8 := q7.s (l := 40) z7 (by omega) (by omega) rfl
  have km7 : kd (newA g7 b7 21 40) a = 3 := q8.1
  refine wpW (cs := [(3, ce_obj)]) (stop := [38]) (n := 200) (env_cons (ce_objOK (by decide +kernel)) (env_nil0 (env_hh rfl))) ?_
  simp only [↓wpN_S, ↓step_u, ↓stC_s, stC_s, ↓stF_u, stF_u, ↓stepI, lenI, ↓kN_u, isS, ↓gI_0, ↓gI_S, ↓gL_0, ↓gL_S, ↓gD_0, ↓gD_S, ↓gR_0, ↓gR_S, ↓sI_c, ↓sL_c, ↓sD_c, ↓sR_c, ↓s1_r, ↓s1_i, ↓vR_r, ↓vR_n, ↓s0_n, s0_n, ↓oR_u, ↓sP_u, ↓sPa_0, ↓sPa_S, ↓lkC_c, ↓callK_u, ↓cQ_s, ↓cQ_n, putL, putW, clr, kil, catS, catN, refF, booF, finF, nF, nmOf_0, nmOf_1, nmOf_2, nmOf_3, nmOf_4, nmOf_5, nmOf_6, nmOf_50, nmOf_51, nmOf_52, ↓reduceIte, reduceIte, Bool.false_eq_true, eq_self, true_or, or_true, true_and, and_true, false_or, or_false, Nat.reduceAdd, Nat.reduceSub, Nat.reduceEqDiff, Nat.reduceLT, Nat.reduceLeDiff, reduceCtorEq, true_implies, List.length_cons, List.length_nil, List.replicate, List.cons_append, List.nil_append, mrt_X1_init, mhh_X1_init, mow_X1_init, mnl_X1_init, DX1_init_0, DX1_init_1, DX1_init_4, DX1_init_5, DX1_init_8, DX1_init_10, DX1_init_13, DX1_init_14, DX1_init_17, DX1_init_19, DX1_init_22, DX1_init_23, DX1_init_25, DX1_init_27, DX1_init_30, DX1_init_31, DX1_init_33, DX1_init_35, DX1_init_38, DX1_init_39, DX1_init_40, DX1_init_43, DX1_init_44, DX1_init_45, DX1_init_48, DX1_init_49, DX1_init_50, DX1_init_53, DX1_init_54, DX1_init_55, DX1_init_58, DX1_init_59, DX1_init_60, DX1_init_61, DX1_init_62, DX1_init_65, DX1_init_68, DX1_init_69, DX1_init_71, DX1_init_74, DX1_init_75, DX1_init_76, DX1_init_79, DX1_init_80, DX1_init_81, DX1_init_84, DX1_init_87, DX1_init_88, DX1_init_89, DX1_init_92, DX1_init_93, DX1_init_94, DX1_init_96, DX1_init_97, DX1_init_100, ce_obj, cX_nil mhh_X1_init]
  simp only [km7, Nat.reduceEqDiff, Nat.reduceLT, Nat.reduceAdd, true_and, false_implies, implies_true, and_true, nmOf_2]
  obtain ⟨g8, hg8⟩ : ∃ g, g = setR (newA g7 b7 21 40) 2 (hF 7) a (some b7) := ⟨_, rfl⟩
  replace q8 : HAk h g8 a _ 8 := hg8 ▸ q8
  rw [show setR (newA g7 b7 21 40) 2 12 a (some b7) = g8 from hg8.symm]
  exact Wp.z (tl_X1_init48 G (by omega) q8 hz (fun h' z => hq h' _ z))
def ct_X3_init (G : GT) : Ct := fun As h Q _ => sR As fun a r => s0 r (kd h a = 5 ∧ ∀ h' l c, Fr h h' (fun b => b = a) → kd h l = 0 → kd h c = 0 → fr h' 4 0 a = some l → fr h' 4 1 a = some c → Lst G h' l G.2.2.1.2.1 0 0 (fun _ => 0) → kd h' c = 22 → ln h' c = 256 → (∀ k, ia h' c k = 0) → Q none h')
def ce_X3_init (G : GT) : CE := (3, yX3_init, MX3_init, 0, 4, 2, 259, ct_X3_init G)
set_option maxRecDepth 100000 in
set_option maxHeartbeats 4000000 in
theorem ok_X3_init (G : GT) (G : GT) : OKm G yX3_init MX3_init 4 2 259 (ct_X3_init G) := by
  refine mkOK (ini := true) (by decide) rfl (by first | exact fun _ => rfl | (intro hh; cases hh)) (fun As h Q QX hc => ?_)
  replace hc := sR_e hc; obtain ⟨a, r, rfl, hc⟩ := hc
  replace hc := s0_e hc; obtain ⟨rfl, hc⟩ := hc
  obtain ⟨hk, hq⟩ := hc
  refine ⟨Nat.le_of_ble_eq_true rfl, ?_⟩
  simp only [ent, entL, catN, List.length_cons, List.length_nil, List.replicate, List.cons_append, List.nil_append, reduceIte, Nat.reduceEqDiff,  Nat.reduceAdd, Nat.reduceSub, mnl_X3_init]
  refine Wp.emp (fun hE => ?_)
  refine wpW (cs := [(3, ce_obj), (11, ce_Jx4a65c_init_da8c8 G)]) (stop := [8]) (n := 200) (env_cons (ce_objOK (by decide +kernel)) (env_cons (ceI (by decide +kernel) ⟨by decide, by decide, by decide +kernel⟩ (by decide) rfl (ok_Jx4a65c_init_da8c8 G G)) (env_nil0 (env_hh rfl)))) ?_
  simp only [↓wpN_S, ↓step_u, ↓stC_s, stC_s, ↓stF_u, stF_u, ↓stepI, lenI, ↓kN_u, isS, ↓gI_0, ↓gI_S, ↓gL_0, ↓gL_S, ↓gD_0, ↓gD_S, ↓gR_0, ↓gR_S, ↓sI_c, ↓sL_c, ↓sD_c, ↓sR_c, ↓s1_r, ↓s1_i, ↓vR_r, ↓vR_n, ↓s0_n, s0_n, ↓oR_u, ↓sP_u, ↓sPa_0, ↓sPa_S, ↓lkC_c, ↓callK_u, ↓cQ_s, ↓cQ_n, putL, putW, clr, kil, catS, catN, refF, booF, finF, nF, nmOf_0, nmOf_1, nmOf_2, nmOf_3, nmOf_4, nmOf_5, nmOf_6, nmOf_50, nmOf_51, nmOf_52, ↓reduceIte, reduceIte, Bool.false_eq_true, eq_self, true_or, or_true, true_and, and_true, false_or, or_false, Nat.reduceAdd, Nat.reduceSub, Nat.reduceEqDiff, Nat.reduceLT, Nat.reduceLeDiff, reduceCtorEq, true_implies, List.length_cons, List.length_nil, List.replicate, List.cons_append, List.nil_append, mrt_X3_init, mhh_X3_init, mow_X3_init, mnl_X3_init, DX3_init_0, DX3_init_1, DX3_init_4, DX3_init_5, DX3_init_8, DX3_init_9, DX3_init_12, DX3_init_15, DX3_init_16, DX3_init_19, DX3_init_21, DX3_init_24, ce_obj, ce_Jx4a65c_init_da8c8, ↓ct_Jx4a65c_init_da8c8, ycl_Jx4a65c_init_da8c8, cX_nil mhh_X3_init]
  refine fun l hl hle => ?_
  have al : a ≠ l := fun z => by rw [z, hl] at hk; cases hk
  have le : ¬ G.2.2.1.2.1 = l := fun z => hle z.symm
  refine wpW (cs := [(3, ce_obj), (11, ce_Jx4a65c_init_da8c8 G)]) (stop := [21]) (n := 200) (env_cons (ce_objOK (by decide +kernel)) (env_cons (ceI (by decide +kernel) ⟨by decide, by decide, by decide +kernel⟩ (by decide) rfl (ok_Jx4a65c_init_da8c8 G G)) (env_nil0 (env_hh rfl)))) ?_
  simp only [↓wpN_S, ↓step_u, ↓stC_s, stC_s, ↓stF_u, stF_u, ↓stepI, lenI, ↓kN_u, isS, ↓gI_0, ↓gI_S, ↓gL_0, ↓gL_S, ↓gD_0, ↓gD_S, ↓gR_0, ↓gR_S, ↓sI_c, ↓sL_c, ↓sD_c, ↓sR_c, ↓s1_r, ↓s1_i, ↓vR_r, ↓vR_n, ↓s0_n, s0_n, ↓oR_u, ↓sP_u, ↓sPa_0, ↓sPa_S, ↓lkC_c, ↓callK_u, ↓cQ_s, ↓cQ_n, putL, putW, clr, kil, catS, catN, refF, booF, finF, nF, nmOf_0, nmOf_1, nmOf_2, nmOf_3, nmOf_4, nmOf_5, nmOf_6, nmOf_50, nmOf_51, nmOf_52, ↓reduceIte, reduceIte, Bool.false_eq_true, eq_self, true_or, or_true, true_and, and_true, false_or, or_false, Nat.reduceAdd, Nat.reduceSub, Nat.reduceEqDiff, Nat.reduceLT, Nat.reduceLeDiff, reduceCtorEq, true_implies, List.length_cons, List.length_nil, List.replicate, List.cons_append, List.nil_append, mrt_X3_init, mhh_X3_init, mow_X3_init, mnl_X3_init, DX3_init_0, DX3_init_1, DX3_init_4, DX3_init_5, DX3_init_8, DX3_init_9, DX3_init_12, DX3_init_15, DX3_init_16, DX3_init_19, DX3_init_21, DX3_init_24, ce_obj, ce_Jx4a65c_init_da8c8, ↓ct_Jx4a65c_init_da8c8, ycl_Jx4a65c_init_da8c8, cX_nil mhh_X3_init]
  simp (disch := omega) only [i32_lit, i32_neg, i32_add, i32_mul, i32_sub, i32_nI, i32_lt, i32_le, i32_eq, inR_i, i32_clamp, i32_div, i32_max, i32_min, ite_max, ite_min, b2i_0, b2i_1, b2i_01, i32_toInt, tn_i, Int.toNat_natCast, em_t, true_and, and_true, Int.reduceToNat, Int.reduceLE, Int.reduceLT, Int.reduceAdd, Int.reduceMul, Int.reduceSub, Int.reduceNeg, Int.reduceEq, true_implies, not_true_eq_false, false_implies, not_false_eq_true, kd_setI, fi_setI, fr_setI, ln_setI, ia_setI, ja_setI, ra_setI, kd_setR, fi_setR, fr_setR, ln_setR, ia_setR, ja_setR, ra_setR, kd_setIA, fi_setIA, fr_setIA, ln_setIA, ia_setIA, ja_setIA, ra_setIA, kd_setLA, fi_setLA, fr_setLA, ln_setLA, ia_setLA, ja_setLA, ra_setLA, kd_setRA, fi_setRA, fr_setRA, ln_setRA, ia_setRA, ja_setRA, ra_setRA, kd_cpRA, fi_cpRA, fr_cpRA, ln_cpRA, ia_cpRA, ja_cpRA, ra_cpRA, kd_cpIA, fi_cpIA, fr_cpIA, ln_cpIA, ia_cpIA, ja_cpIA, ra_cpIA, kd_newO, fi_newO, fr_newO, ln_newO, ia_newO, ja_newO, ra_newO, kd_newA, fi_newA, fr_newA, ln_newA, ia_newA, ja_newA, ra_newA, hk, al, if_true, if_false, nmOf_0, nmOf_4, implies_true]
  repeat (refine ⟨by first | decide | omega, ?_⟩)
  refine fun c hcc hce => ?_
  have hcc2 : ¬ c = l ∧ kd h c = 0 := by
    by_cases z : c = l
    · rw [if_pos z] at hcc; omega
    · rw [if_neg z] at hcc; exact ⟨z, hcc⟩
  obtain ⟨ncl, hch⟩ := hcc2
  have ac : a ≠ c := fun z => by rw [z, hch] at hk; cases hk
  have nlc : ¬ l = c := fun z => ncl z.symm
  have ce : ¬ G.2.2.1.2.1 = c := fun z => hce z.symm
  refine wpW (cs := [(3, ce_obj), (11, ce_Jx4a65c_init_da8c8 G)]) (stop := []) (n := 200) (env_cons (ce_objOK (by decide +kernel)) (env_cons (ceI (by decide +kernel) ⟨by decide, by decide, by decide +kernel⟩ (by decide) rfl (ok_Jx4a65c_init_da8c8 G G)) (env_nil0 (env_hh rfl)))) ?_
  simp only [↓wpN_S, ↓step_u, ↓stC_s, stC_s, ↓stF_u, stF_u, ↓stepI, lenI, ↓kN_u, isS, ↓gI_0, ↓gI_S, ↓gL_0, ↓gL_S, ↓gD_0, ↓gD_S, ↓gR_0, ↓gR_S, ↓sI_c, ↓sL_c, ↓sD_c, ↓sR_c, ↓s1_r, ↓s1_i, ↓vR_r, ↓vR_n, ↓s0_n, s0_n, ↓oR_u, ↓sP_u, ↓sPa_0, ↓sPa_S, ↓lkC_c, ↓callK_u, ↓cQ_s, ↓cQ_n, putL, putW, clr, kil, catS, catN, refF, booF, finF, nF, nmOf_0, nmOf_1, nmOf_2, nmOf_3, nmOf_4, nmOf_5, nmOf_6, nmOf_50, nmOf_51, nmOf_52, ↓reduceIte, reduceIte, Bool.false_eq_true, eq_self, true_or, or_true, true_and, and_true, false_or, or_false, Nat.reduceAdd, Nat.reduceSub, Nat.reduceEqDiff, Nat.reduceLT, Nat.reduceLeDiff, reduceCtorEq, true_implies, List.length_cons, List.length_nil, List.replicate, List.cons_append, List.nil_append, mrt_X3_init, mhh_X3_init, mow_X3_init, mnl_X3_init, DX3_init_0, DX3_init_1, DX3_init_4, DX3_init_5, DX3_init_8, DX3_init_9, DX3_init_12, DX3_init_15, DX3_init_16, DX3_init_19, DX3_init_21, DX3_init_24, ce_obj, ce_Jx4a65c_init_da8c8, ↓ct_Jx4a65c_init_da8c8, ycl_Jx4a65c_init_da8c8, cX_nil mhh_X3_init]
  simp (disch := omega) only [i32_lit, i32_neg, i32_add, i32_mul, i32_sub, i32_nI, i32_lt, i32_le, i32_eq, inR_i, i32_clamp, i32_div, i32_max, i32_min, ite_max, ite_min, b2i_0, b2i_1, b2i_01, i32_toInt, tn_i, Int.toNat_natCast, em_t, true_and, and_true, Int.reduceToNat, Int.reduceLE, Int.reduceLT, Int.reduceAdd, Int.reduceMul, Int.reduceSub, Int.reduceNeg, Int.reduceEq, true_implies, not_true_eq_false, false_implies, not_false_eq_true, kd_setI, fi_setI, fr_setI, ln_setI, ia_setI, ja_setI, ra_setI, kd_setR, fi_setR, fr_setR, ln_setR, ia_setR, ja_setR, ra_setR, kd_setIA, fi_setIA, fr_setIA, ln_setIA, ia_setIA, ja_setIA, ra_setIA, kd_setLA, fi_setLA, fr_setLA, ln_setLA, ia_setLA, ja_setLA, ra_setLA, kd_setRA, fi_setRA, fr_setRA, ln_setRA, ia_setRA, ja_setRA, ra_setRA, kd_cpRA, fi_cpRA, fr_cpRA, ln_cpRA, ia_cpRA, ja_cpRA, ra_cpRA, kd_cpIA, fi_cpIA, fr_cpIA, ln_cpIA, ia_cpIA, ja_cpIA, ra_cpIA, kd_newO, fi_newO, fr_newO, ln_newO, ia_newO, ja_newO, ra_newO, kd_newA, fi_newA, fr_newA, ln_newA, ia_newA, ja_newA, ra_newA, hk, al, ac, if_true, if_false, nmOf_4, implies_true]
  refine hq _ l c ?_ hl hch ?_ ?_ ?_ ?_ ?_ ?_
  · refine (Fr.nO (c := 0) hl).nw (W2 := fun b => b = l ∨ b = c ∨ b = a) ?_ (fun b e => by
      rcases e with e | e | e
      · exact Or.inr (e ▸ hl)
      · exact Or.inr (e ▸ hch)
      · exact Or.inl e)
    refine Fr.tr ?_ (Fr.sR (Or.inr (Or.inr rfl)))
    refine Fr.tr ?_ (Fr.nA (by simp only [kd_setR, kd_setI, kd_newO]; rw [if_neg ncl]; exact hch))
    refine Fr.tr ?_ (Fr.sR (Or.inr (Or.inr rfl)))
    refine Fr.tr ?_ (Fr.sR (Or.inl rfl))
    exact Fr.sI (Or.inl rfl)
  · simp [fr_setR, fr_newA]
  · simp [fr_setR, fr_newA]
  · refine ⟨?_, ?_, ?_, by omega, fun _ => ⟨rfl, ?_⟩, fun z => by omega, fun i hi => by omega⟩
    · simp [kd_setR, kd_newA, kd_setI, kd_newO, nlc]
    · simp [fi_setR, fi_newA, fi_setI, fi_newO, i32_0]
    · simp [fr_setR, fr_newA]
    · simp only [kd_setR, kd_newA, kd_setI, kd_newO]
      rw [if_neg ce, if_neg le]
      exact hE
  · simp [kd_setR, kd_newA]
  · simp [ln_setR, ln_newA]
  · intro k
    simp [ia_setR, ia_newA]

