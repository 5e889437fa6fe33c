/-! ===== the reference: let ===== -/
def SS.aL (S : SS) (f : Nat → Int) : SS := (S.1, S.nl + 1, S.2.2.1, fun l k => if l = S.nl then f k else S.lf l k, S.2.2.2.2)
def lS (b t f l c p : Int) : Nat → Int
  | 0 => b
  | 1 => t
  | 2 => f
  | 3 => l
  | 4 => c
  | 5 => p
  | 6 => 1
  | _ => 0
theorem lf_aL {S : SS} {f : Nat → Int} {b k : Nat} : (S.aL f).lf b k = if b = S.nl then f k else S.lf b k := rfl
def vlC (t f l c p : Int) : Prop := (0 ≤ t ∧ t ≤ 15) ∧ (0 ≤ f ∧ f ≤ 11) ∧ (0 ≤ l ∧ l ≤ 11) ∧ f ≤ l ∧ (1 ≤ c ∧ c ≤ 60) ∧ (1 ≤ p ∧ p ≤ 99)
theorem WF_aL {S : SS} {b t f l c p : Int} (hW : WF S) (hb : 0 ≤ b ∧ b < S.nb) (hv : vlC t f l c p) (hn : S.nl < 40) : WF (S.aL (lS b t f l c p)) := by
  obtain ⟨a1, a2, a3, a4, a5, a6, a7, a8⟩ := hW
  obtain ⟨v1, v2, v3, v4, v5, v6⟩ := hv
  refine ⟨a1, hn, a3, fun i hi => ?_, a5, a6, a7, a8⟩
  have e2 : (S.aL (lS b t f l c p)).nb = S.nb := rfl
  have hi' : i < S.nl + 1 := hi
  simp only [lf_aL, e2]
  by_cases e : i = S.nl
  · have q : lS b t f l c p 0 = b ∧ lS b t f l c p 1 = t ∧ lS b t f l c p 2 = f ∧ lS b t f l c p 3 = l ∧ lS b t f l c p 4 = c ∧ lS b t f l c p 5 = p ∧ lS b t f l c p 6 = 1 ∧ lS b t f l c p 7 = 0 := ⟨rfl, rfl, rfl, rfl, rfl, rfl, rfl, rfl⟩
    simp only [e, if_true, q, or_true, and_true, true_and]; omega
  · simp only [e, if_false]; exact a4 i (by omega)
theorem MD_aL {h : Hp} {m : Nat} {A : Nat → Nat} {S : SS} {a : Nat} {f : Nat → Int} (hM : MD h m A S) (hf : ∀ k, k < 9 → ia h a k = i32 (f k)) : MD (setI (cpIA h a (A 6) 0 (9 * S.nl) 9) 6 4 m (i32 ((S.nl : Int) + 1))) m A (S.aL f) := by
  obtain ⟨⟨hk', hA, hJ⟩, fd, fe, fb, fl, hB, hL, hN, hG, hP⟩ := hM
  have n6 : ∀ i, 5 ≤ i → i ≤ 11 → i ≠ 6 → A i ≠ A 6 := fun i h1 h2 h3 h4 => h3 (hJ i 6 h1 h2 (by omega) (by omega) h4)
  refine ⟨⟨hk', hA, hJ⟩, ?_, ?_, ?_, ?_, fun b q hb hq => ?_, fun l' k' hl' hk' => ?_, fun r q hr hq => ?_, fun o ho => ?_, fun t ht => ?_⟩
  · rw [fi_setI, if_neg (by omega)]; exact fd
  · rw [fi_setI, if_neg (by omega)]; exact fe
  · rw [fi_setI, if_neg (by omega)]; exact fb
  · rw [fi_setI, if_pos ⟨rfl, rfl, rfl⟩]; rfl
  · rw [ia_setI, ia_cpIA, if_neg (fun z => n6 5 (by omega) (by omega) (by omega) z.1)]; exact hB b q hb hq
  · rw [ia_setI, ia_cpIA, lf_aL]
    have hl2 : l' < S.nl + 1 := hl'
    by_cases e : l' = S.nl
    · rw [if_pos ⟨rfl, by omega⟩, if_pos e, ← hf k' hk']
      congr 1; omega
    · rw [if_neg (by omega), if_neg e]; exact hL l' k' (by omega) hk'
  · rw [ia_setI, ia_cpIA, if_neg (fun z => n6 7 (by omega) (by omega) (by omega) z.1)]; exact hN r q hr hq
  · rw [ia_setI, ia_cpIA, if_neg (fun z => n6 8 (by omega) (by omega) (by omega) z.1)]; exact hG o ho
  · rw [ia_setI, ia_cpIA, if_neg (fun z => n6 9 (by omega) (by omega) (by omega) z.1)]; exact hP t ht
theorem MC_aL {h : Hp} {A : Nat → Nat} {S : SS} {f : Nat → Int} (hC : MC h A S) : MC h A (S.aL f) := by
  intro r c hr hc
  rw [show bel (S.aL f) = bel S from bel_cg rfl rfl rfl, show shd (S.aL f) = shd S from shd_cg rfl rfl rfl]
  exact hC r c hr hc
def ct_X5_let (A : Nat → Nat) (S : SS) : Ct := fun As h Q _ => sR As fun m r => sI r fun b r => sI r fun t r => sI r fun f r => sI r fun l r => sI r fun c r => sI r fun p r => s0 r (MD h m A S ∧ MC h A S ∧ ((((0 ≤ b.toInt ∧ b.toInt < S.nb) ∧ S.bf (tn b) 6 = 1) ∧ vlC t.toInt f.toInt l.toInt c.toInt p.toInt) ∧ S.nl < 40 → nxt (t0 h m) m A (S.aL (lS b.toInt t.toInt f.toInt l.toInt c.toInt p.toInt)) Q S.nl) ∧ (¬ ((0 ≤ b.toInt ∧ b.toInt < S.nb) ∧ S.bf (tn b) 6 = 1) → Q (some (.int (i32 0))) (tX h m 1)) ∧ (((0 ≤ b.toInt ∧ b.toInt < S.nb) ∧ S.bf (tn b) 6 = 1) ∧ ¬ vlC t.toInt f.toInt l.toInt c.toInt p.toInt → Q (some (.int (i32 0))) (tX h m 2)) ∧ ((((0 ≤ b.toInt ∧ b.toInt < S.nb) ∧ S.bf (tn b) 6 = 1) ∧ vlC t.toInt f.toInt l.toInt c.toInt p.toInt) ∧ ¬ S.nl < 40 → Q (some (.int (i32 0))) (tX h m 3)))
def ce_X5_let (A : Nat → Nat) (S : SS) : CE := (0, yX5_let, MX5_let, 6, 3, 1, 9, ct_X5_let A S)
set_option maxRecDepth 100000 in
set_option maxHeartbeats 4000000 in
theorem tl_X5_let97 (G : GT) {A : Nat → Nat} {S : SS} (hW : WF S) {h : Hp} {m a : Nat} {b t f l c p : Int} {o6 : Option Value} {Q : Option Value → Hp → Prop} {QX : String → Hp → Prop} (hM : MD h m A S) (hC : MC h A S) (h0 : kd h a = 0) (hf : fi h 6 0 m = i32 0) (hn : S.nl < 40) (hq : nxt h m A (S.aL (lS b t f l c p)) Q S.nl) :
    Wp G MX5_let false 3 Q QX 97 [some (.ref m), some (.int (i32 b)), some (.int (i32 t)), some (.int (i32 f)), some (.int (i32 l)), some (.int (i32 c)), some (.int (i32 p)), o6] [.ref a] (newA h a 21 9) (0, 0) := by
  have f1 : Fr h (newA h a 21 9) (WM m A) := Fr.nA h0
  have hM1 := hM.fr (W := fun _ => False) (Fr.nA (t := 21) (n := 9) h0) (fun _ q => q.elim)
  have hC1 := hC.fr hM (W := fun _ => False) (Fr.nA (t := 21) (n := 9) h0) (fun _ q => q.elim)
  have hwa : ¬ WM m A a := fun z => hM.ex z h0
  have ha : ∀ k, 5 ≤ k → k ≤ 11 → a ≠ A k := fun k h1 h2 e => hwa (e ▸ WM.r ⟨h1, h2⟩)
  have hm : a ≠ m := fun e => hwa (e ▸ WM.m)
  have hg : ∀ b, b = a → WM m A b ∨ kd h b = 0 := fun b e => Or.inr (e ▸ h0)
  have ka : kd (newA h a 21 9) a = 21 := by rw [kd_newA, if_pos rfl]
  have la : ln (newA h a 21 9) a = 9 := by rw [ln_newA, if_pos rfl]
  have hf1 : fi (newA h a 21 9) 6 0 m = i32 0 := hf
  clear hM hC
  have hM := hM1
  have hC := hC1
  clear hM1 hC1
  generalize newA h a 21 9 = g at *
  have hM0 := hM
  obtain ⟨⟨hk, hA, hJ⟩, fd, fe, fb, fl, hB, hL, hN, hG, hP⟩ := hM0
  obtain ⟨a5, k5, l5⟩ := hA 5 (by omega) (by omega)
  obtain ⟨a6, k6, l6⟩ := hA 6 (by omega) (by omega)
  obtain ⟨a7, k7, l7⟩ := hA 7 (by omega) (by omega)
  obtain ⟨a8, k8, l8⟩ := hA 8 (by omega) (by omega)
  obtain ⟨a9, k9, l9⟩ := hA 9 (by omega) (by omega)
  obtain ⟨a10, k10, l10⟩ := hA 10 (by omega) (by omega)
  obtain ⟨a11, k11, l11⟩ := hA 11 (by omega) (by omega)
  simp only [mLen] at l5 l6 l7 l8 l9 l10 l11
  refine wpW (cs := [(54, ce_X5_stands A S), (67, ce_X5_fail), (39, ce_X5_isIn), (96, ce_X5_isHour), (71, ce_ci)]) (stop := [300]) (n := 200) (env_cons (ceV (by decide +kernel) ⟨by decide, by decide, by decide +kernel⟩ (by decide) rfl (ok_X5_stands G A S hW)) (env_cons (ceV (by decide +kernel) ⟨by decide, by decide, by decide +kernel⟩ (by decide) rfl (ok_X5_fail G)) (env_cons (ceS (by decide +kernel) ⟨by decide, by decide, by decide +kernel⟩ (by decide) (ok_X5_isIn G)) (env_cons (ceS (by decide +kernel) ⟨by decide, by decide, by decide +kernel⟩ (by decide) (ok_X5_isHour G)) (env_cons (ce_ciOK (by decide +kernel)) (env_nil0 (env_hh rfl))))))) ?_
  simp only [↓wpN_S, ↓step_u, ↓stC_s, stC_s, ↓stF_u, stF_u, ↓stepI, lenI, ↓kN_u, isS, ↓gI_0, ↓gI_S, ↓gL_0, ↓gL_S, ↓gD_0, ↓gD_S, ↓gR_0, ↓gR_S, ↓sI_c, ↓sL_c, ↓sD_c, ↓sR_c, ↓s1_r, ↓s1_i, ↓vR_r, ↓vR_n, ↓s0_n, s0_n, ↓oR_u, ↓sP_u, ↓sPa_0, ↓sPa_S, ↓lkC_c, ↓callK_u, ↓cQ_s, ↓cQ_n, putL, putW, clr, kil, catS, catN, refF, booF, finF, nF, nmOf_0, nmOf_1, nmOf_2, nmOf_3, nmOf_4, nmOf_5, nmOf_6, nmOf_50, nmOf_51, nmOf_52, ↓reduceIte, reduceIte, Bool.false_eq_true, eq_self, true_or, or_true, true_and, and_true, false_or, or_false, Nat.reduceAdd, Nat.reduceSub, Nat.reduceEqDiff, Nat.reduceLT, Nat.reduceLeDiff, reduceCtorEq, true_implies, List.length_cons, List.length_nil, List.replicate, List.cons_append, List.nil_append, mrt_X5_let, mhh_X5_let, mow_X5_let, mnl_X5_let, DX5_let_0, DX5_let_1, DX5_let_2, DX5_let_5, DX5_let_6, DX5_let_7, DX5_let_10, DX5_let_13, DX5_let_14, DX5_let_15, DX5_let_18, DX5_let_19, DX5_let_20, DX5_let_21, DX5_let_23, DX5_let_26, DX5_let_29, DX5_let_30, DX5_let_33, DX5_let_36, DX5_let_38, DX5_let_41, DX5_let_44, DX5_let_45, DX5_let_47, DX5_let_50, DX5_let_52, DX5_let_53, DX5_let_55, DX5_let_58, DX5_let_61, DX5_let_63, DX5_let_64, DX5_let_66, DX5_let_69, DX5_let_72, DX5_let_73, DX5_let_74, DX5_let_77, DX5_let_78, DX5_let_79, DX5_let_82, DX5_let_84, DX5_let_87, DX5_let_88, DX5_let_89, DX5_let_92, DX5_let_93, DX5_let_95, DX5_let_97, DX5_let_98, DX5_let_99, DX5_let_100, DX5_let_101, DX5_let_102, DX5_let_103, DX5_let_104, DX5_let_105, DX5_let_106, DX5_let_107, DX5_let_108, DX5_let_109, DX5_let_110, DX5_let_111, DX5_let_113, DX5_let_114, DX5_let_115, DX5_let_116, DX5_let_118, DX5_let_119, DX5_let_120, DX5_let_121, DX5_let_123, DX5_let_124, DX5_let_125, DX5_let_127, DX5_let_128, DX5_let_129, DX5_let_130, DX5_let_132, DX5_let_133, DX5_let_134, DX5_let_135, DX5_let_137, DX5_let_138, DX5_let_139, DX5_let_141, DX5_let_143, DX5_let_144, DX5_let_145, DX5_let_148, DX5_let_150, DX5_let_151, DX5_let_154, DX5_let_155, DX5_let_157, DX5_let_160, DX5_let_161, DX5_let_162, DX5_let_165, DX5_let_166, DX5_let_167, DX5_let_170, DX5_let_171, DX5_let_174, DX5_let_175, DX5_let_176, ce_X5_stands, ↓ct_X5_stands, ycl_X5_stands, ce_X5_fail, ↓ct_X5_fail, ycl_X5_fail, ce_X5_isIn, ↓ct_X5_isIn, ycl_X5_isIn, ce_X5_isHour, ↓ct_X5_isHour, ycl_X5_isHour, ce_ci, cX_nil mhh_X5_let]
  simp (disch := omega) only [i32_lit, i32_neg, i32_add, i32_mul, i32_sub, i32_nI, i32_lt, i32_le, i32_eq, inR_i, i32_clamp, i32_div, i32_max, i32_min, ite_max, ite_min, b2i_0, b2i_1, b2i_01, i32_toInt, tn_i, Int.toNat_natCast, em_t, true_and, and_true, Int.reduceToNat, Int.reduceLE, Int.reduceLT, Int.reduceAdd, Int.reduceMul, Int.reduceSub, Int.reduceNeg, Int.reduceEq, true_implies, not_true_eq_false, false_implies, not_false_eq_true, hM, hk, fd, fe, fb, fl, a5, k5, l5, a6, k6, l6, a7, k7, l7, a8, k8, l8, a9, k9, l9, a10, k10, l10, a11, k11, l11, true_and, and_true, Option.some.injEq, exists_eq_left', nmOf_0, nmOf_1, nmOf_2, nmOf_3, nmOf_4, nmOf_5, nmOf_6, Nat.add_sub_cancel, Nat.reduceSub, Nat.reduceLT, Nat.reduceEqDiff, ne_eq, not_false_eq_true, kd_setI, fi_setI, fr_setI, ln_setI, ia_setI, ja_setI, ra_setI, kd_setR, fi_setR, fr_setR, ln_setR, ia_setR, ja_setR, ra_setR, kd_setIA, fi_setIA, fr_setIA, ln_setIA, ia_setIA, ja_setIA, ra_setIA, kd_setLA, fi_setLA, fr_setLA, ln_setLA, ia_setLA, ja_setLA, ra_setLA, kd_setRA, fi_setRA, fr_setRA, ln_setRA, ia_setRA, ja_setRA, ra_setRA, kd_cpRA, fi_cpRA, fr_cpRA, ln_cpRA, ia_cpRA, ja_cpRA, ra_cpRA, kd_cpIA, fi_cpIA, fr_cpIA, ln_cpIA, ia_cpIA, ja_cpIA, ra_cpIA, kd_newO, fi_newO, fr_newO, ln_newO, ia_newO, ja_newO, ra_newO, kd_newA, fi_newA, fr_newA, ln_newA, ia_newA, ja_newA, ra_newA, ka, la]
  repeat (refine ⟨by omega, ?_⟩)
  rw [show (9 * (S.nl : Int)).toNat = 9 * S.nl by omega]
  simp only [if_true, i32_sub]
  rw [show (S.nl : Int) + 1 - 1 = S.nl by omega]
  have m0 := MD_fs (i := 8) (v := i32 0) (MD_fs (i := 7) (v := i32 0) (MD_fs (i := 6) (v := i32 1) (MD_fs (i := 5) (v := i32 p) (MD_fs (i := 4) (v := i32 c) (MD_fs (i := 3) (v := i32 l) (MD_fs (i := 2) (v := i32 f) (MD_fs (i := 1) (v := i32 t) (MD_fs (i := 0) (v := i32 b) hM ha hm) ha hm) ha hm) ha hm) ha hm) ha hm) ha hm) ha hm) ha hm
  have hbs : ∀ k, k < 9 → ia (setIA (setIA (setIA (setIA (setIA (setIA (setIA (setIA (setIA g a 0 (i32 b)) a 1 (i32 t)) a 2 (i32 f)) a 3 (i32 l)) a 4 (i32 c)) a 5 (i32 p)) a 6 (i32 1)) a 7 (i32 0)) a 8 (i32 0)) a k = i32 (lS b t f l c p k) := fun k hk => by
    rcases (show k = 0 ∨ k = 1 ∨ k = 2 ∨ k = 3 ∨ k = 4 ∨ k = 5 ∨ k = 6 ∨ k = 7 ∨ k = 8 by omega) with rfl | rfl | rfl | rfl | rfl | rfl | rfl | rfl | rfl <;> simp [ia_setIA, lS]
  refine hq _ ?_ ?_ (MD_aL m0 hbs) (MC_aL ?_)
  · refine f1.nw (W2 := fun b => WM m A b ∨ b = a) ?_ (fun b hb => hb.elim Or.inl (hg b))
    refine Fr.tr ?_ (Fr.sI (Or.inl WM.m))
    refine Fr.tr ?_ (Fr.cI (Or.inl (WM.r (by omega))))
    repeat (first | exact Fr.rf | refine Fr.tr ?_ (Fr.sA (Or.inr rfl)))
  · rw [fi_setI, if_neg (by omega)]; exact hf1
  · intro r' c' hr' hc'
    have n10 : A 10 ≠ A 6 := fun z => by have := hJ 10 6 (by omega) (by omega) (by omega) (by omega) z; omega
    have n11 : A 11 ≠ A 6 := fun z => by have := hJ 11 6 (by omega) (by omega) (by omega) (by omega) z; omega
    have b10 := (ha 10 (by omega) (by omega)).symm
    have b11 := (ha 11 (by omega) (by omega)).symm
    simp only [ia_setI, ia_cpIA, ia_setIA, n10, n11, b10, b11, false_and, if_false]
    exact hC r' c' hr' hc'
set_option maxRecDepth 100000 in
set_option maxHeartbeats 4000000 in
theorem ok_X5_let (G : GT) (A : Nat → Nat) (S : SS) (hW : WF S) : OKm G yX5_let MX5_let 3 1 9 (ct_X5_let A S) := by
  refine mkOK (ini := false) (by decide) rfl (by first | exact fun _ => rfl | (intro hh; cases hh)) (fun As h Q QX hc => ?_)
  replace hc := sR_e hc; obtain ⟨m, r, rfl, hc⟩ := hc
  replace hc := sI_e hc; obtain ⟨b, r, rfl, hc⟩ := hc
  replace hc := sI_e hc; obtain ⟨t, r, rfl, hc⟩ := hc
  replace hc := sI_e hc; obtain ⟨f, r, rfl, hc⟩ := hc
  replace hc := sI_e hc; obtain ⟨l, r, rfl, hc⟩ := hc
  replace hc := sI_e hc; obtain ⟨c, r, rfl, hc⟩ := hc
  replace hc := sI_e hc; obtain ⟨p, r, rfl, hc⟩ := hc
  replace hc := s0_e hc; obtain ⟨rfl, hc⟩ := hc
  obtain ⟨bV, hbV, rfl⟩ := i32_all b
  obtain ⟨tV, htV, rfl⟩ := i32_all t
  obtain ⟨fV, hfV, rfl⟩ := i32_all f
  obtain ⟨lV, hlV, rfl⟩ := i32_all l
  obtain ⟨cV, hcV, rfl⟩ := i32_all c
  obtain ⟨pV, hpV, rfl⟩ := i32_all p
  simp only [i32_toInt hbV, tn_i hbV, i32_toInt htV, i32_toInt hfV, i32_toInt hlV, i32_toInt hcV, i32_toInt hpV] at hc
  obtain ⟨hM, hC, hv, hf⟩ := hc
  have hk := hM.1.1
  replace hM : MD (t0 h m) m A S := MD_s0 hM
  replace hC : MC (t0 h m) A S := hC
  have hf0 : fi (t0 h m) 6 0 m = i32 0 := by unfold t0; rw [fi_setI, if_pos ⟨rfl, rfl, rfl⟩]; rfl
  refine ⟨Nat.le_of_ble_eq_true rfl, ?_⟩
  simp only [ent, entL, catN, List.length_cons, List.length_nil, List.replicate, List.cons_append, List.nil_append, reduceIte, Nat.reduceEqDiff,  Nat.reduceAdd, Nat.reduceSub, mnl_X5_let]
  refine wpW (cs := [(54, ce_X5_stands A S), (67, ce_X5_fail), (39, ce_X5_isIn), (96, ce_X5_isHour), (71, ce_ci)]) (stop := [5]) (n := 200) (env_cons (ceV (by decide +kernel) ⟨by decide, by decide, by decide +kernel⟩ (by decide) rfl (ok_X5_stands G A S hW)) (env_cons (ceV (by decide +kernel) ⟨by decide, by decide, by decide +kernel⟩ (by decide) rfl (ok_X5_fail G)) (env_cons (ceS (by decide +kernel) ⟨by decide, by decide, by decide +kernel⟩ (by decide) (ok_X5_isIn G)) (env_cons (ceS (by decide +kernel) ⟨by decide, by decide, by decide +kernel⟩ (by decide) (ok_X5_isHour G)) (env_cons (ce_ciOK (by decide +kernel)) (env_nil0 (env_hh rfl))))))) ?_
  simp only [↓wpN_S, ↓step_u, ↓stC_s, stC_s, ↓stF_u, stF_u, ↓stepI, lenI, ↓kN_u, isS, ↓gI_0, ↓gI_S, ↓gL_0, ↓gL_S, ↓gD_0, ↓gD_S, ↓gR_0, ↓gR_S, ↓sI_c, ↓sL_c, ↓sD_c, ↓sR_c, ↓s1_r, ↓s1_i, ↓vR_r, ↓vR_n, ↓s0_n, s0_n, ↓oR_u, ↓sP_u, ↓sPa_0, ↓sPa_S, ↓lkC_c, ↓callK_u, ↓cQ_s, ↓cQ_n, putL, putW, clr, kil, catS, catN, refF, booF, finF, nF, nmOf_0, nmOf_1, nmOf_2, nmOf_3, nmOf_4, nmOf_5, nmOf_6, nmOf_50, nmOf_51, nmOf_52, ↓reduceIte, reduceIte, Bool.false_eq_true, eq_self, true_or, or_true, true_and, and_true, false_or, or_false, Nat.reduceAdd, Nat.reduceSub, Nat.reduceEqDiff, Nat.reduceLT, Nat.reduceLeDiff, reduceCtorEq, true_implies, List.length_cons, List.length_nil, List.replicate, List.cons_append, List.nil_append, mrt_X5_let, mhh_X5_let, mow_X5_let, mnl_X5_let, DX5_let_0, DX5_let_1, DX5_let_2, DX5_let_5, DX5_let_6, DX5_let_7, DX5_let_10, DX5_let_13, DX5_let_14, DX5_let_15, DX5_let_18, DX5_let_19, DX5_let_20, DX5_let_21, DX5_let_23, DX5_let_26, DX5_let_29, DX5_let_30, DX5_let_33, DX5_let_36, DX5_let_38, DX5_let_41, DX5_let_44, DX5_let_45, DX5_let_47, DX5_let_50, DX5_let_52, DX5_let_53, DX5_let_55, DX5_let_58, DX5_let_61, DX5_let_63, DX5_let_64, DX5_let_66, DX5_let_69, DX5_let_72, DX5_let_73, DX5_let_74, DX5_let_77, DX5_let_78, DX5_let_79, DX5_let_82, DX5_let_84, DX5_let_87, DX5_let_88, DX5_let_89, DX5_let_92, DX5_let_93, DX5_let_95, DX5_let_97, DX5_let_98, DX5_let_99, DX5_let_100, DX5_let_101, DX5_let_102, DX5_let_103, DX5_let_104, DX5_let_105, DX5_let_106, DX5_let_107, DX5_let_108, DX5_let_109, DX5_let_110, DX5_let_111, DX5_let_113, DX5_let_114, DX5_let_115, DX5_let_116, DX5_let_118, DX5_let_119, DX5_let_120, DX5_let_121, DX5_let_123, DX5_let_124, DX5_let_125, DX5_let_127, DX5_let_128, DX5_let_129, DX5_let_130, DX5_let_132, DX5_let_133, DX5_let_134, DX5_let_135, DX5_let_137, DX5_let_138, DX5_let_139, DX5_let_141, DX5_let_143, DX5_let_144, DX5_let_145, DX5_let_148, DX5_let_150, DX5_let_151, DX5_let_154, DX5_let_155, DX5_let_157, DX5_let_160, DX5_let_161, DX5_let_162, DX5_let_165, DX5_let_166, DX5_let_167, DX5_let_170, DX5_let_171, DX5_let_174, DX5_let_175, DX5_let_176, ce_X5_stands, ↓ct_X5_stands, ycl_X5_stands, ce_X5_fail, ↓ct_X5_fail, ycl_X5_fail, ce_X5_isIn, ↓ct_X5_isIn, ycl_X5_isIn, ce_X5_isHour, ↓ct_X5_isHour, ycl_X5_isHour, ce_ci, cX_nil mhh_X5_let]
  simp only [hk, true_and, false_implies]
  unfold tX at hf
  change Wp G MX5_let false 3 Q QX 5 _ [] (t0 h m) _
  generalize t0 h m = g at *
  clear hk
  have hnb := hW.1
  have hnl := hW.2.1
  have hM0 := hM
  obtain ⟨⟨hk, hA, hJ⟩, fd, fe, fb, fl, hB, hL, hN, hG, hP⟩ := hM0
  obtain ⟨a5, k5, l5⟩ := hA 5 (by omega) (by omega)
  obtain ⟨a6, k6, l6⟩ := hA 6 (by omega) (by omega)
  obtain ⟨a7, k7, l7⟩ := hA 7 (by omega) (by omega)
  obtain ⟨a8, k8, l8⟩ := hA 8 (by omega) (by omega)
  obtain ⟨a9, k9, l9⟩ := hA 9 (by omega) (by omega)
  obtain ⟨a10, k10, l10⟩ := hA 10 (by omega) (by omega)
  obtain ⟨a11, k11, l11⟩ := hA 11 (by omega) (by omega)
  simp only [mLen] at l5 l6 l7 l8 l9 l10 l11
  refine wpW (cs := [(54, ce_X5_stands A S), (67, ce_X5_fail), (39, ce_X5_isIn), (96, ce_X5_isHour), (71, ce_ci)]) (stop := [5, 97]) (n := 200) (env_cons (ceV (by decide +kernel) ⟨by decide, by decide, by decide +kernel⟩ (by decide) rfl (ok_X5_stands G A S hW)) (env_cons (ceV (by decide +kernel) ⟨by decide, by decide, by decide +kernel⟩ (by decide) rfl (ok_X5_fail G)) (env_cons (ceS (by decide +kernel) ⟨by decide, by decide, by decide +kernel⟩ (by decide) (ok_X5_isIn G)) (env_cons (ceS (by decide +kernel) ⟨by decide, by decide, by decide +kernel⟩ (by decide) (ok_X5_isHour G)) (env_cons (ce_ciOK (by decide +kernel)) (env_nil0 (env_hh rfl))))))) ?_
  simp only [↓wpN_S, ↓step_u, ↓stC_s, stC_s, ↓stF_u, stF_u, ↓stepI, lenI, ↓kN_u, isS, ↓gI_0, ↓gI_S, ↓gL_0, ↓gL_S, ↓gD_0, ↓gD_S, ↓gR_0, ↓gR_S, ↓sI_c, ↓sL_c, ↓sD_c, ↓sR_c, ↓s1_r, ↓s1_i, ↓vR_r, ↓vR_n, ↓s0_n, s0_n, ↓oR_u, ↓sP_u, ↓sPa_0, ↓sPa_S, ↓lkC_c, ↓callK_u, ↓cQ_s, ↓cQ_n, putL, putW, clr, kil, catS, catN, refF, booF, finF, nF, nmOf_0, nmOf_1, nmOf_2, nmOf_3, nmOf_4, nmOf_5, nmOf_6, nmOf_50, nmOf_51, nmOf_52, ↓reduceIte, reduceIte, Bool.false_eq_true, eq_self, true_or, or_true, true_and, and_true, false_or, or_false, Nat.reduceAdd, Nat.reduceSub, Nat.reduceEqDiff, Nat.reduceLT, Nat.reduceLeDiff, reduceCtorEq, true_implies, List.length_cons, List.length_nil, List.replicate, List.cons_append, List.nil_append, mrt_X5_let, mhh_X5_let, mow_X5_let, mnl_X5_let, DX5_let_0, DX5_let_1, DX5_let_2, DX5_let_5, DX5_let_6, DX5_let_7, DX5_let_10, DX5_let_13, DX5_let_14, DX5_let_15, DX5_let_18, DX5_let_19, DX5_let_20, DX5_let_21, DX5_let_23, DX5_let_26, DX5_let_29, DX5_let_30, DX5_let_33, DX5_let_36, DX5_let_38, DX5_let_41, DX5_let_44, DX5_let_45, DX5_let_47, DX5_let_50, DX5_let_52, DX5_let_53, DX5_let_55, DX5_let_58, DX5_let_61, DX5_let_63, DX5_let_64, DX5_let_66, DX5_let_69, DX5_let_72, DX5_let_73, DX5_let_74, DX5_let_77, DX5_let_78, DX5_let_79, DX5_let_82, DX5_let_84, DX5_let_87, DX5_let_88, DX5_let_89, DX5_let_92, DX5_let_93, DX5_let_95, DX5_let_97, DX5_let_98, DX5_let_99, DX5_let_100, DX5_let_101, DX5_let_102, DX5_let_103, DX5_let_104, DX5_let_105, DX5_let_106, DX5_let_107, DX5_let_108, DX5_let_109, DX5_let_110, DX5_let_111, DX5_let_113, DX5_let_114, DX5_let_115, DX5_let_116, DX5_let_118, DX5_let_119, DX5_let_120, DX5_let_121, DX5_let_123, DX5_let_124, DX5_let_125, DX5_let_127, DX5_let_128, DX5_let_129, DX5_let_130, DX5_let_132, DX5_let_133, DX5_let_134, DX5_let_135, DX5_let_137, DX5_let_138, DX5_let_139, DX5_let_141, DX5_let_143, DX5_let_144, DX5_let_145, DX5_let_148, DX5_let_150, DX5_let_151, DX5_let_154, DX5_let_155, DX5_let_157, DX5_let_160, DX5_let_161, DX5_let_162, DX5_let_165, DX5_let_166, DX5_let_167, DX5_let_170, DX5_let_171, DX5_let_174, DX5_let_175, DX5_let_176, ce_X5_stands, ↓ct_X5_stands, ycl_X5_stands, ce_X5_fail, ↓ct_X5_fail, ycl_X5_fail, ce_X5_isIn, ↓ct_X5_isIn, ycl_X5_isIn, ce_X5_isHour, ↓ct_X5_isHour, ycl_X5_isHour, ce_ci, cX_nil mhh_X5_let]
  simp (disch := omega) only [i32_lit, i32_neg, i32_add, i32_mul, i32_sub, i32_nI, i32_lt, i32_le, i32_eq, inR_i, i32_clamp, i32_div, i32_max, i32_min, ite_max, ite_min, b2i_0, b2i_1, b2i_01, i32_toInt, tn_i, Int.toNat_natCast, em_t, true_and, and_true, Int.reduceToNat, Int.reduceLE, Int.reduceLT, Int.reduceAdd, Int.reduceMul, Int.reduceSub, Int.reduceNeg, Int.reduceEq, true_implies, not_true_eq_false, false_implies, not_false_eq_true, hM, hk, fd, fe, fb, fl, a5, k5, l5, a6, k6, l6, a7, k7, l7, a8, k8, l8, a9, k9, l9, a10, k10, l10, a11, k11, l11, true_and, and_true, Option.some.injEq, exists_eq_left', nmOf_0, nmOf_1, nmOf_2, nmOf_3, nmOf_4, nmOf_5, nmOf_6, Nat.add_sub_cancel, Nat.reduceSub, Nat.reduceLT, Nat.reduceEqDiff, ne_eq, not_false_eq_true, hC]
  refine ⟨fun h1 => ?_, hf.1⟩
  have h1 := Classical.not_not.mp h1
  refine ⟨fun h2 => hf.2.1 ⟨h1, fun q => h2 q.1⟩, fun h2 => ⟨fun h3 => hf.2.1 ⟨h1, fun q => h3 q.2.1⟩, fun h3 => ⟨fun h4 => hf.2.1 ⟨h1, fun q => h4 q.2.2.1⟩, fun h4 => ⟨fun h5 => hf.2.1 ⟨h1, fun q => by have := q.2.2.2.1; omega⟩, fun h5 => ⟨fun h6 => hf.2.1 ⟨h1, fun q => h6 q.2.2.2.2.1⟩, fun h6 => ⟨fun h7 => ?_, fun h7 => hf.2.1 ⟨h1, fun q => h7 q.2.2.2.2.2⟩⟩⟩⟩⟩⟩⟩
  have hvl : vlC tV fV lV cV pV := ⟨Classical.not_not.mp h2, Classical.not_not.mp h3, Classical.not_not.mp h4, by omega, Classical.not_not.mp h6, Classical.not_not.mp h7⟩
  exact ⟨fun h8 => ⟨by omega, by omega, fun a h0 _ => tl_X5_let97 G hW hM hC h0 hf0 (by omega) (hv ⟨⟨h1, hvl⟩, by omega⟩)⟩, fun h8 => hf.2.2 ⟨⟨h1, hvl⟩, by omega⟩⟩
